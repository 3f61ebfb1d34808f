section RET
variable {Γ : GX} {M : MD} {rm : Room} {mc ms : Nat} {Q : Option AV → Shp → Mem → Prop} {k n pc : Nat} {loc : List (Option AV)} {st : List AV} {S : Shp} {m : Mem}
theorem R_ireturn {z : Int} (hd : decode M.2.1 pc = .ok (.ireturn, 1)) (hr : M.2.2.2 = some .int) (hQ : Q (some (vi z)) S m) : R Γ M rm mc ms Q mc ms pc loc [vi z] S m := by
  intro p e s mi args below meth c H locs ls hc hZ hS hH hl
  exact W.iret (v := iz z) hc.1 hc.2.1 (hc.2.2.2.1.trans hr) (fun t ht hW => ⟨⟨some (vi z), S, m, rfl, hQ, ht ▸ hH, hZ⟩, hS.F ht⟩) hS.2.2 hd hc.2.2.2.2.1
theorem R_zreturn {z : Int} (hd : decode M.2.1 pc = .ok (.ireturn, 1)) (hr : M.2.2.2 = some .boolean) (hz : z = 0 ∨ z = 1) (hQ : Q (some (vi z)) S m) : R Γ M rm mc ms Q mc ms pc loc [vi z] S m := by
  intro p e s mi args below meth c H locs ls hc hZ hS hH hl
  exact W.zret (v := iz z) (ty := .boolean) hc.1 hc.2.1 (hc.2.2.2.1.trans hr) (by rcases hz with rfl | rfl <;> rfl) (fun t ht hW => ⟨⟨some (vi z), S, m, rfl, hQ, ht ▸ hH, hZ⟩, hS.F ht⟩) hS.2.2 hd hc.2.2.2.2.1
theorem R_lreturn {z : Int} (hd : decode M.2.1 pc = .ok (.lreturn, 1)) (hr : M.2.2.2 = some .long) (hQ : Q (some (vl z)) S m) : R Γ M rm mc ms Q mc ms pc loc [vl z] S m := by
  intro p e s mi args below meth c H locs ls hc hZ hS hH hl
  exact W.lret (v := lz z) hc.1 hc.2.1 (hc.2.2.2.1.trans hr) (fun t ht hW => ⟨⟨some (vl z), S, m, rfl, hQ, ht ▸ hH, hZ⟩, hS.F ht⟩) hS.2.2 hd hc.2.2.2.2.1
theorem R_return (hd : decode M.2.1 pc = .ok (.return_, 1)) (hr : M.2.2.2 = none) (hQ : Q none S m) : R Γ M rm mc ms Q mc ms pc loc [] S m := by
  intro p e s mi args below meth c H locs ls hc hZ hS hH hl
  exact W.vret hc.1 hc.2.1 (hc.2.2.2.1.trans hr) (fun t ht hW => ⟨⟨none, S, m, rfl, hQ, ht ▸ hH, hZ⟩, hS.F ht⟩) hS.2.2 hd hc.2.2.2.2.1
end RET
/-- what the tables say of a method that is called -/
def KM (M : MD) (n : Nat) : Prop := Cond.code M.1 M.2.1 M.2.2.1 M.2.2.2 ∈ TW ∧ Cond.initialized M.1.cls ∈ TW ∧ M.1.cls ≠ "java/lang/invoke/MethodHandle" ∧ M.1.cls ≠ "java/lang/invoke/VarHandle" ∧ (parseMethodDescriptor M.1.desc).map (fun d => d.parameters.length) = some n
theorem KM.good {M : MD} {n : Nat} (h : KM M n) : GoodIn TW (.code M.1 M.2.1 M.2.2.1 M.2.2.2 :: TW) := by
  intro w hw
  rcases List.mem_cons.mp hw with rfl | hw
  · exact ⟨h.1, TW_good _ h.1⟩
  · exact ⟨hw, TW_good _ hw⟩
def catN (v : AV) : Nat := if cat1 v = true then 1 else 2
theorem cat_sum (Γ : GX) (st : List AV) : ((st.map (tr Γ)).map fun v => v.category).sum = (st.map catN).sum := by
  rw [List.map_map]
  congr 1
  exact List.map_congr_left (fun v _ => cat_tr Γ v)
theorem PcOf_blind (Γ : GX) (as : List AV) (S : Shp) (m : Mem) : FrameBlind (PcOf Γ as S m) := by
  intro a U g mk h
  obtain ⟨h1, h2, h3, h4⟩ := h
  exact ⟨h1, h2, h3, h4.calling⟩
section CALL
variable {p : Program} {l : Launch} {e : Env} {rm : Room} {s : State} {mi : MethodId} {args : Array Value} {below : List Frame} {meth : Method} {c : Code} {H : Heap} {locs : List Loc} {cells slots : Nat} {Qw : State → Prop}
variable {pc : Nat} {ls : Array Slot} {rest st0 : List Value} {A : Nat → Prop} {mc ms : Nat}
theorem ra_call {Qa : State → Outcome → State → Prop} (hr : va_Run p l e rm s mi args below meth c H locs cells slots mc ms (F0 mi pc ls st0) rest Qa A) (hS : va_S A s.heap H locs) (hF : ∀ st o t, Qa st o t → va_F A st t)
    (kk : ∀ (v : Option Value) (st₁ t : State) (locs1 : List Loc), st₁.heap = H → Qa st₁ (.returned v) t → va_S A s.heap t.heap locs1 → W p l e rm s mi args below meth c t.heap locs1 (cells + mc) (slots + ms) Qw (F0 mi (pc + 3) ls (v.toList ++ rest))) : W p l e rm s mi args below meth c H locs cells slots Qw (F0 mi pc ls st0) := by
  intro T hT X
  obtain ⟨v, st₁, t, T', L, h0, X', hL, e1, e2, hq, st⟩ := hr T hT X
  obtain ⟨hz, hk⟩ := hF _ _ _ hq
  rw [h0] at hz hk
  obtain ⟨t2, a1, b1⟩ := kk v st₁ t (locs ++ L) h0 hq ⟨Nat.le_trans hS.1 hz, fun q h1 h2 => by rw [hk q (Nat.lt_of_lt_of_le h1 hS.1) h2]; exact hS.2.1 q h1 h2, fun q hq => by
      rcases List.mem_append.mp hq with h | h
      · exact hS.2.2 q h
      · exact hL q h⟩ T' e1 X'
  exact ⟨t2, st t2 a1, b1⟩
end CALL
section CALLS
variable {Γ : GX} {M M' : MD} {rm : Room} {mc ms : Nat} {Q Qc : Option AV → Shp → Mem → Prop} {k n pc : Nat} {loc : List (Option AV)} {st rest as : List AV} {S : Shp} {m : Mem} {fr lo mc' ms' nA ix o t len : Nat}
theorem ra_size {p : Program} {l : Launch} {e : Env} {s : State} {mi : MethodId} {args : Array Value} {below : List Frame} {meth : Method} {c : Code} {H : Heap} {locs : List Loc} {Qw : State → Prop} {g : JFrame} (hc : Cx Γ M p s mi args meth c) (hZ : s.heap.size + k = gB Γ + S.1) (hS : va_S (gA Γ) s.heap H locs) (hH : RepH Γ S m H)
    (h : H.size = gB Γ + S.1 → W p l e rm s mi args below meth c H locs k n Qw g) : W p l e rm s mi args below meth c H locs k n Qw g := by
  refine R_size (fun hx => h ?_)
  have h1 := Rep_low hH (Nat.le_trans hc.2.2.2.2.2.2.2.2.2.2.2.2.2.2.2.2.2.2 hS.1)
  omega
set_option maxHeartbeats 1000000 in
theorem R_callS (q : Nat) (hq : pc + 3 = q) (hd : decode M.2.1 pc = .ok (.invokestatic ix, 3)) (hl : Cond.methodLink M.1.cls ix M'.1 ∈ TW) (hk : KM M' nA) (hsta : Cond.static M'.1 ∈ TW) (hcn : C Γ M' fr lo mc' ms' as S m Qc) (hst : st = as.reverse ++ rest) (hn : as.length = nA) (hrm : fr + 1 ≤ rm.frames ∧ 8 + (M'.2.2.1 + 11) + lo ≤ rm.locals) (hal : k + mc' ≤ rm.cells ∧ n + ms' ≤ rm.slots) (hrest : (rest.map catN).sum ≤ 8)
    (kk : ∀ r S' m', Qc r S' m' → R Γ M rm mc ms Q (k + mc') (n + ms') q loc (r.toList ++ rest) S' m') : R Γ M rm mc ms Q k n pc loc st S m := by
  subst hq
  subst hst
  intro p e s mi args below meth c H locs ls hc hZ hS hH hl2
  refine ra_size (M := M) hc hZ hS hH (fun hsz => ?_)
  have hts := hc.2.2.2.2.2.2.1
  have hstk : ((as.reverse ++ rest).map (tr Γ)) = (as.map (tr Γ)).reverse ++ rest.map (tr Γ) := by rw [List.map_append, List.map_reverse]
  refine ra_call (A := gA Γ) (mc := mc') (ms := ms') (rest := rest.map (tr Γ)) (Qa := QcOf Γ mc' Qc (as.map (tr Γ)).toArray) (va_runS (As := as.map (tr Γ)) (bytes := M'.2.1) (maxL := M'.2.2.1) (ret := M'.2.2.2) (n := nA) (Ts := TW) (own := M.1.cls) (nL := M.2.2.1) ⟨hc.1, hc.2.1, hc.2.2.1, hc.2.2.2.2.2.1, hts⟩ hcn ⟨callB_of nA hts hk.good rfl rfl rfl (hts _ hk.2.1) (hts _ hl) hk.2.2 hrm, hts _ hsta⟩ ⟨PcOf_blind Γ as S m, fun U hU hW => ⟨rfl, hU ▸ hH, by rw [hU]; exact hsz, hc.2.2.2.2.2.2.2.2.to hS hU hW⟩⟩ rfl (by simpa using hn) hl2.1 hstk ?_ hd hal) hS (fun st o t h => h.2) (fun v st₁ t locs1 h0 hq hS1 => ?_)
  · show 2 * 0 + _ ≤ 8
    rw [cat_sum]; omega
  · obtain ⟨⟨r, S', m', hv, hQ, hR, hsz'⟩, -⟩ := hq
    cases hv
    rw [h0, hsz] at hsz'
    have h9 := kk r S' m' hQ p e s mi args below meth c t.heap locs1 ls hc (by omega) hS1 hR hl2
    rw [List.map_append] at h9
    have e9 : List.map (tr Γ) r.toList = (r.map (tr Γ)).toList := by cases r <;> rfl
    rw [e9] at h9
    exact h9
set_option maxHeartbeats 1000000 in
theorem R_callN {host : String} (q : Nat) (hq : pc + 3 = q) (hd : decode M.2.1 pc = .ok (.invokestatic ix, 3)) (hl : Cond.methodLinkNest M.1.cls ix M'.1 host ∈ lw_tbl) (hk : KM M' nA) (hsta : Cond.static M'.1 ∈ TW) (hcn : C Γ M' fr lo mc' ms' as S m Qc) (hst : st = as.reverse ++ rest) (hn : as.length = nA) (hrm : fr + 1 ≤ rm.frames ∧ 8 + (M'.2.2.1 + 11) + lo ≤ rm.locals) (hal : k + mc' ≤ rm.cells ∧ n + ms' ≤ rm.slots) (hrest : (rest.map catN).sum ≤ 8)
    (kk : ∀ r S' m', Qc r S' m' → R Γ M rm mc ms Q (k + mc') (n + ms') q loc (r.toList ++ rest) S' m') : R Γ M rm mc ms Q k n pc loc st S m := by
  subst hq
  subst hst
  intro p e s mi args below meth c H locs ls hc hZ hS hH hl2
  refine ra_size (M := M) hc hZ hS hH (fun hsz => ?_)
  have hts := hc.2.2.2.2.2.2.1
  have hstk : ((as.reverse ++ rest).map (tr Γ)) = (as.map (tr Γ)).reverse ++ rest.map (tr Γ) := by rw [List.map_append, List.map_reverse]
  refine ra_call (A := gA Γ) (mc := mc') (ms := ms') (rest := rest.map (tr Γ)) (Qa := QcOf Γ mc' Qc (as.map (tr Γ)).toArray) (va_runSN (As := as.map (tr Γ)) (bytes := M'.2.1) (maxL := M'.2.2.1) (ret := M'.2.2.2) (n := nA) (Ts := TW) (own := M.1.cls) (host := host) (nL := M.2.2.1) ⟨hc.1, hc.2.1, hc.2.2.1, hc.2.2.2.2.2.1, hts⟩ hcn ⟨va_cnB nA hts hk.good rfl rfl rfl (hc.2.2.2.2.2.2.2.2.2.1 _ _ _ _ hl) (hts _ hk.2.1) hk.2.2 hrm, hts _ hsta, trivial⟩ ⟨PcOf_blind Γ as S m, fun U hU hW => ⟨rfl, hU ▸ hH, by rw [hU]; exact hsz, hc.2.2.2.2.2.2.2.2.to hS hU hW⟩⟩ rfl (by simpa using hn) hl2.1 hstk ?_ hd hal) hS (fun st o t h => h.2) (fun v st₁ t locs1 h0 hq hS1 => ?_)
  · show 2 * 0 + _ ≤ 8
    rw [cat_sum]; omega
  · obtain ⟨⟨r, S', m', hv, hQ, hR, hsz'⟩, -⟩ := hq
    cases hv
    rw [h0, hsz] at hsz'
    have h9 := kk r S' m' hQ p e s mi args below meth c t.heap locs1 ls hc (by omega) hS1 hR hl2
    rw [List.map_append] at h9
    have e9 : List.map (tr Γ) r.toList = (r.map (tr Γ)).toList := by cases r <;> rfl
    rw [e9] at h9
    exact h9
set_option maxHeartbeats 1000000 in
theorem R_callV (q : Nat) (hq : pc + 3 = q) (hd : decode M.2.1 pc = .ok (.invokevirtual ix, 3)) (hl : Cond.methodLink M.1.cls ix M'.1 ∈ TW) (hk : KM M' nA) (him : Cond.instanceMethod M'.1 ∈ TW) (hse : Cond.selects M'.1.cls M'.1 M'.1 ∈ TW) (hs : shp S o = some (t, len)) (ht : t < 12 ∧ cR t = M'.1.cls) (hcn : C Γ M' fr lo mc' ms' (vr o :: as) S m Qc) (hst : st = as.reverse ++ vr o :: rest) (hn : as.length = nA) (hrm : fr + 1 ≤ rm.frames ∧ 8 + (M'.2.2.1 + 11) + lo ≤ rm.locals) (hal : k + mc' ≤ rm.cells ∧ n + ms' ≤ rm.slots) (hrest : (rest.map catN).sum ≤ 8)
    (kk : ∀ r S' m', Qc r S' m' → R Γ M rm mc ms Q (k + mc') (n + ms') q loc (r.toList ++ rest) S' m') : R Γ M rm mc ms Q k n pc loc st S m := by
  subst hq
  subst hst
  intro p e s mi args below meth c H locs ls hc hZ hS hH hl2
  refine ra_size (M := M) hc hZ hS hH (fun hsz => ?_)
  have hts := hc.2.2.2.2.2.2.1
  obtain ⟨ho, hs2⟩ := shp_sp hs
  have hstk : ((as.reverse ++ vr o :: rest).map (tr Γ)) = (as.map (tr Γ)).reverse ++ .ref (gB Γ + o) :: rest.map (tr Γ) := by rw [List.map_append, List.map_reverse, List.map_cons, tr_ref hH ho]
  have hrcv : ∃ cellB : Cell, H[gB Γ + o]? = some cellB ∧ cellB.vm.isStatics = false ∧ s.vm.findClass M'.1.cls = some cellB.cls := by
    have := va_recv hc.2.2.2.2.2.2.2.2.1 hH.2 (vw_at ht.1) (by rw [wcl_at ho, cE_obj hs2 ht.1])
    rw [← ht.2]; exact this
  have hpc : ∀ U : State, U.heap = H → s.WarmedH U.vm → PcOf Γ (vr o :: as) S m (Value.ref (gB Γ + o) :: as.map (tr Γ)).toArray U := fun U hU hW => ⟨by rw [List.map_cons, tr_ref hH ho], hU ▸ hH, by rw [hU]; exact hsz, hc.2.2.2.2.2.2.2.2.to hS hU hW⟩
  refine ra_call (A := gA Γ) (mc := mc') (ms := ms') (rest := rest.map (tr Γ)) (Qa := QcOf Γ mc' Qc (Value.ref (gB Γ + o) :: as.map (tr Γ)).toArray) (va_runV (As := as.map (tr Γ)) (C := M'.1.cls) (b := gB Γ + o) (bytes := M'.2.1) (maxL := M'.2.2.1) (ret := M'.2.2.2) (n := nA) (Ts := TW) (own := M.1.cls) (nL := M.2.2.1) ⟨hc.1, hc.2.1, hc.2.2.1, hc.2.2.2.2.2.1, hts⟩ hcn ⟨callB_of nA hts hk.good rfl rfl rfl (hts _ hk.2.1) (hts _ hl) hk.2.2 hrm, hts _ him, hts _ hse⟩ ⟨PcOf_blind Γ (vr o :: as) S m, hrcv, hpc⟩ rfl (by simpa using hn) hl2.1 hstk ?_ hd hal) hS (fun st o t h => h.2) (fun v st₁ t locs1 h0 hq hS1 => ?_)
  · show 2 * 0 + _ ≤ 8
    rw [cat_sum]; omega
  · obtain ⟨⟨r, S', m', hv, hQ, hR, hsz'⟩, -⟩ := hq
    cases hv
    rw [h0, hsz] at hsz'
    have h9 := kk r S' m' hQ p e s mi args below meth c t.heap locs1 ls hc (by omega) hS1 hR hl2
    rw [List.map_append] at h9
    have e9 : List.map (tr Γ) r.toList = (r.map (tr Γ)).toList := by cases r <;> rfl
    rw [e9] at h9
    exact h9
set_option maxHeartbeats 1000000 in
theorem R_callI (q : Nat) (hq : pc + 3 = q) (hd : decode M.2.1 pc = .ok (.invokespecial ix, 3)) (hl : Cond.methodLink M.1.cls ix M'.1 ∈ TW) (hk : KM M' nA) (him : Cond.instanceMethod M'.1 ∈ TW) (hini : M'.1.name = "<init>") (hrt : M'.2.2.2 = none) (hs : o < S.1) (hcn : C Γ M' fr lo mc' ms' (vr o :: as) S m Qc) (hst : st = as.reverse ++ vr o :: rest) (hn : as.length = nA) (hrm : fr + 1 ≤ rm.frames ∧ 8 + (M'.2.2.1 + 11) + lo ≤ rm.locals) (hal : k + mc' ≤ rm.cells ∧ n + ms' ≤ rm.slots) (hrest : (rest.map catN).sum ≤ 8)
    (kk : ∀ r S' m', Qc r S' m' → R Γ M rm mc ms Q (k + mc') (n + ms') q loc (r.toList ++ rest) S' m') : R Γ M rm mc ms Q k n pc loc st S m := by
  subst hq
  subst hst
  intro p e s mi args below meth c H locs ls hc hZ hS hH hl2
  refine ra_size (M := M) hc hZ hS hH (fun hsz => ?_)
  have hts := hc.2.2.2.2.2.2.1
  have hstk : ((as.reverse ++ vr o :: rest).map (tr Γ)) = (as.map (tr Γ)).reverse ++ .ref (gB Γ + o) :: rest.map (tr Γ) := by rw [List.map_append, List.map_reverse, List.map_cons, tr_ref hH hs]
  have hpc : ∀ U : State, U.heap = H → s.WarmedH U.vm → PcOf Γ (vr o :: as) S m (Value.ref (gB Γ + o) :: as.map (tr Γ)).toArray U := fun U hU hW => ⟨by rw [List.map_cons, tr_ref hH hs], hU ▸ hH, by rw [hU]; exact hsz, hc.2.2.2.2.2.2.2.2.to hS hU hW⟩
  have hcB := callB_of (R := rm) (s := s) (args := args) (own := M.1.cls) (index := ix) nA hts hk.good rfl (rm := { frames := fr, cells := mc', slots := ms', locals := lo }) rfl rfl (hts _ hk.2.1) (hts _ hl) hk.2.2 hrm
  rw [hrt] at hcB
  unfold C at hcn
  rw [hrt] at hcn
  refine ra_call (A := gA Γ) (mc := mc') (ms := ms') (rest := rest.map (tr Γ)) (Qa := QcOf Γ mc' Qc (Value.ref (gB Γ + o) :: as.map (tr Γ)).toArray) (va_runI (As := as.map (tr Γ)) (b := gB Γ + o) (bytes := M'.2.1) (maxL := M'.2.2.1) (n := nA) (Ts := TW) (own := M.1.cls) (nL := M.2.2.1) ⟨hc.1, hc.2.1, hc.2.2.1, hc.2.2.2.2.2.1, hts⟩ hcn ⟨hcB, hini, hts _ him⟩ ⟨PcOf_blind Γ (vr o :: as) S m, hpc⟩ rfl (by simpa using hn) hl2.1 hstk ?_ hd hal) hS (fun st o t h => h.2) (fun v st₁ t locs1 h0 hq hS1 => ?_)
  · show 2 * 0 + _ ≤ 8
    rw [cat_sum]; omega
  · obtain ⟨⟨r, S', m', hv, hQ, hR, hsz'⟩, -⟩ := hq
    cases hv
    rw [h0, hsz] at hsz'
    have h9 := kk r S' m' hQ p e s mi args below meth c t.heap locs1 ls hc (by omega) hS1 hR hl2
    rw [List.map_append] at h9
    have e9 : List.map (tr Γ) r.toList = (r.map (tr Γ)).toList := by cases r <;> rfl
    rw [e9] at h9
    exact h9
end CALLS
