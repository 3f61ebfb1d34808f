section RULES
variable {Γ : GX} {M : MD} {rm : Room} {mc ms : Nat} {Q : Option AV → Shp → Mem → Prop} {k n pc : Nat} {loc : List (Option AV)} {st : List AV} {S : Shp} {m : Mem}
theorem R_iconst {v : Int} (q : Nat) (hq : pc + 1 = q) (hd : decode M.2.1 pc = .ok (.iconst v, 1))  (kk : R Γ M rm mc ms Q k n q loc (vi v :: st) S m) : R Γ M rm mc ms Q k n pc loc st S m := by
  subst hq
  intro p e s mi args below meth c H locs ls hc hZ hS hH hl
  exact lv_iconst (v := iz v) hc.1 hc.2.1 hd rfl (kk p e s mi args below meth c H locs ls hc hZ hS hH hl)
theorem R_bipush {v : Int} (q : Nat) (hq : pc + 2 = q) (hd : decode M.2.1 pc = .ok (.bipush v, 2)) (hv : (Int8.ofInt v).toInt32 = iz v) (kk : R Γ M rm mc ms Q k n q loc (vi v :: st) S m) : R Γ M rm mc ms Q k n pc loc st S m := by
  subst hq
  intro p e s mi args below meth c H locs ls hc hZ hS hH hl
  exact lv_bipush (v := iz v) hc.1 hc.2.1 hd hv (kk p e s mi args below meth c H locs ls hc hZ hS hH hl)
theorem R_sipush {v : Int} (q : Nat) (hq : pc + 3 = q) (hd : decode M.2.1 pc = .ok (.sipush v, 3)) (hv : (Int16.ofInt v).toInt32 = iz v) (kk : R Γ M rm mc ms Q k n q loc (vi v :: st) S m) : R Γ M rm mc ms Q k n pc loc st S m := by
  subst hq
  intro p e s mi args below meth c H locs ls hc hZ hS hH hl
  exact lv_sipush (v := iz v) hc.1 hc.2.1 hd hv (kk p e s mi args below meth c H locs ls hc hZ hS hH hl)
theorem R_lconst {v : Fin 2} (q : Nat) (hq : pc + 1 = q) (hd : decode M.2.1 pc = .ok (.lconst v, 1))  (kk : R Γ M rm mc ms Q k n q loc (vl (v : Nat) :: st) S m) : R Γ M rm mc ms Q k n pc loc st S m := by
  subst hq
  intro p e s mi args below meth c H locs ls hc hZ hS hH hl
  exact lv_lconst (v := lz (v : Nat)) hc.1 hc.2.1 hd Int64.ofInt_eq_ofNat.symm (kk p e s mi args below meth c H locs ls hc hZ hS hH hl)
theorem R_ldc {ix : Nat} {v : Int32} (z : Int) (q : Nat) (hq : pc + 2 = q) (hd : decode M.2.1 pc = .ok (.ldc ix, 2)) (hw : Cond.constant M.1.cls ix v ∈ TW) (hz : iz z = v) (kk : R Γ M rm mc ms Q k n q loc (vi z :: st) S m) : R Γ M rm mc ms Q k n pc loc st S m := by
  subst hq
  intro p e s mi args below meth c H locs ls hc hZ hS hH hl
  exact lv_ldc hc.1 hc.2.1 hc.2.2.2.2.2.1 (hz ▸ hc.2.2.2.2.2.2.1 _ hw) hd (kk p e s mi args below meth c H locs ls hc hZ hS hH hl)
theorem R_ldc2 {ix : Nat} {v : Int64} (z : Int) (q : Nat) (hq : pc + 3 = q) (hd : decode M.2.1 pc = .ok (.ldc2_w ix, 3)) (hw : Cond.constantLong M.1.cls ix v ∈ TW) (hz : lz z = v) (kk : R Γ M rm mc ms Q k n q loc (vl z :: st) S m) : R Γ M rm mc ms Q k n pc loc st S m := by
  subst hq
  intro p e s mi args below meth c H locs ls hc hZ hS hH hl
  exact lv_ldc2 hc.1 hc.2.1 hc.2.2.2.2.2.1 (hz ▸ hc.2.2.2.2.2.2.1 _ hw) hd (kk p e s mi args below meth c H locs ls hc hZ hS hH hl)
theorem R_iload_n {j : Fin 4} {z : Int} (q : Nat) (hq : pc + 1 = q) (hd : decode M.2.1 pc = .ok (.iload_n j, 1)) (hv : loc[(j : Nat)]? = some (some (vi z))) (kk : R Γ M rm mc ms Q k n q loc (vi z :: st) S m) : R Γ M rm mc ms Q k n pc loc st S m := by
  subst hq
  intro p e s mi args below meth c H locs ls hc hZ hS hH hl
  exact lv_iload_n hc.1 hc.2.1 hd rfl (hl.2.2 _ _ hv) (kk p e s mi args below meth c H locs ls hc hZ hS hH hl)
theorem R_iload {i : Nat} {z : Int} (q : Nat) (hq : pc + 2 = q) (hd : decode M.2.1 pc = .ok (.iload i, 2)) (hv : loc[i]? = some (some (vi z))) (kk : R Γ M rm mc ms Q k n q loc (vi z :: st) S m) : R Γ M rm mc ms Q k n pc loc st S m := by
  subst hq
  intro p e s mi args below meth c H locs ls hc hZ hS hH hl
  exact lv_iload hc.1 hc.2.1 hd (hl.2.2 _ _ hv) (kk p e s mi args below meth c H locs ls hc hZ hS hH hl)
theorem R_lload_n {j : Fin 4} {z : Int} (q : Nat) (hq : pc + 1 = q) (hd : decode M.2.1 pc = .ok (.lload_n j, 1)) (hv : loc[(j : Nat)]? = some (some (vl z))) (kk : R Γ M rm mc ms Q k n q loc (vl z :: st) S m) : R Γ M rm mc ms Q k n pc loc st S m := by
  subst hq
  intro p e s mi args below meth c H locs ls hc hZ hS hH hl
  exact lv_lload_n hc.1 hc.2.1 hd rfl (hl.2.2 _ _ hv) (kk p e s mi args below meth c H locs ls hc hZ hS hH hl)
theorem R_lload {i : Nat} {z : Int} (q : Nat) (hq : pc + 2 = q) (hd : decode M.2.1 pc = .ok (.lload i, 2)) (hv : loc[i]? = some (some (vl z))) (kk : R Γ M rm mc ms Q k n q loc (vl z :: st) S m) : R Γ M rm mc ms Q k n pc loc st S m := by
  subst hq
  intro p e s mi args below meth c H locs ls hc hZ hS hH hl
  exact lv_lload hc.1 hc.2.1 hd (hl.2.2 _ _ hv) (kk p e s mi args below meth c H locs ls hc hZ hS hH hl)
theorem R_aload_n {j : Fin 4} {z : Nat} (q : Nat) (hq : pc + 1 = q) (hd : decode M.2.1 pc = .ok (.aload_n j, 1)) (hv : loc[(j : Nat)]? = some (some (vr z))) (kk : R Γ M rm mc ms Q k n q loc (vr z :: st) S m) : R Γ M rm mc ms Q k n pc loc st S m := by
  subst hq
  intro p e s mi args below meth c H locs ls hc hZ hS hH hl
  exact lv_aload_n hc.1 hc.2.1 hd rfl (hl.2.2 _ _ hv) (kk p e s mi args below meth c H locs ls hc hZ hS hH hl)
theorem R_aload {i : Nat} {z : Nat} (q : Nat) (hq : pc + 2 = q) (hd : decode M.2.1 pc = .ok (.aload i, 2)) (hv : loc[i]? = some (some (vr z))) (kk : R Γ M rm mc ms Q k n q loc (vr z :: st) S m) : R Γ M rm mc ms Q k n pc loc st S m := by
  subst hq
  intro p e s mi args below meth c H locs ls hc hZ hS hH hl
  exact lv_aload hc.1 hc.2.1 hd (hl.2.2 _ _ hv) (kk p e s mi args below meth c H locs ls hc hZ hS hH hl)
theorem R_istore_n {j : Fin 4} {z : Int} (loc' : List (Option AV)) (q : Nat) (hq : pc + 1 = q) (hd : decode M.2.1 pc = .ok (.istore_n j, 1)) (hl' : st1 loc (j : Nat) (vi z) = loc') (hn : (j : Nat) < M.2.2.1) (kk : R Γ M rm mc ms Q k n q loc' st S m) : R Γ M rm mc ms Q k n pc loc (vi z :: st) S m := by
  subst hq
  subst hl'
  intro p e s mi args below meth c H locs ls hc hZ hS hH hl
  exact lv_istore_n hc.1 hc.2.1 hd rfl hl.has hn rfl (fun ls2 h2 => kk p e s mi args below meth c H locs ls2 hc hZ hS hH (LV.of1 (ls := ls) (v := vi z) h2))
theorem R_istore {i : Nat} {z : Int} (loc' : List (Option AV)) (q : Nat) (hq : pc + 2 = q) (hd : decode M.2.1 pc = .ok (.istore i, 2)) (hl' : st1 loc i (vi z) = loc') (hn : i < M.2.2.1) (kk : R Γ M rm mc ms Q k n q loc' st S m) : R Γ M rm mc ms Q k n pc loc (vi z :: st) S m := by
  subst hq
  subst hl'
  intro p e s mi args below meth c H locs ls hc hZ hS hH hl
  exact lv_istore hc.1 hc.2.1 hd hl.has hn rfl (fun ls2 h2 => kk p e s mi args below meth c H locs ls2 hc hZ hS hH (LV.of1 (ls := ls) (v := vi z) h2))
theorem R_lstore_n {j : Fin 4} {z : Int} (loc' : List (Option AV)) (q : Nat) (hq : pc + 1 = q) (hd : decode M.2.1 pc = .ok (.lstore_n j, 1)) (hl' : st2 loc (j : Nat) (vl z) = loc') (hn : (j : Nat) + 1 < M.2.2.1) (kk : R Γ M rm mc ms Q k n q loc' st S m) : R Γ M rm mc ms Q k n pc loc (vl z :: st) S m := by
  subst hq
  subst hl'
  intro p e s mi args below meth c H locs ls hc hZ hS hH hl
  exact lv_lstore_n hc.1 hc.2.1 hd rfl hl.has hn rfl (fun ls2 h2 => kk p e s mi args below meth c H locs ls2 hc hZ hS hH (LV.of2 (ls := ls) (v := vl z) h2))
theorem R_lstore {i : Nat} {z : Int} (loc' : List (Option AV)) (q : Nat) (hq : pc + 2 = q) (hd : decode M.2.1 pc = .ok (.lstore i, 2)) (hl' : st2 loc i (vl z) = loc') (hn : i + 1 < M.2.2.1) (kk : R Γ M rm mc ms Q k n q loc' st S m) : R Γ M rm mc ms Q k n pc loc (vl z :: st) S m := by
  subst hq
  subst hl'
  intro p e s mi args below meth c H locs ls hc hZ hS hH hl
  exact lv_lstore hc.1 hc.2.1 hd hl.has hn rfl (fun ls2 h2 => kk p e s mi args below meth c H locs ls2 hc hZ hS hH (LV.of2 (ls := ls) (v := vl z) h2))
theorem R_astore_n {j : Fin 4} {z : Nat} (loc' : List (Option AV)) (q : Nat) (hq : pc + 1 = q) (hd : decode M.2.1 pc = .ok (.astore_n j, 1)) (hl' : st1 loc (j : Nat) (vr z) = loc') (hn : (j : Nat) < M.2.2.1) (kk : R Γ M rm mc ms Q k n q loc' st S m) : R Γ M rm mc ms Q k n pc loc (vr z :: st) S m := by
  subst hq
  subst hl'
  intro p e s mi args below meth c H locs ls hc hZ hS hH hl
  exact lv_astore_n hc.1 hc.2.1 hd rfl hl.has hn rfl (fun ls2 h2 => kk p e s mi args below meth c H locs ls2 hc hZ hS hH (LV.of1 (ls := ls) (v := vr z) h2))
theorem R_astore {i : Nat} {z : Nat} (loc' : List (Option AV)) (q : Nat) (hq : pc + 2 = q) (hd : decode M.2.1 pc = .ok (.astore i, 2)) (hl' : st1 loc i (vr z) = loc') (hn : i < M.2.2.1) (kk : R Γ M rm mc ms Q k n q loc' st S m) : R Γ M rm mc ms Q k n pc loc (vr z :: st) S m := by
  subst hq
  subst hl'
  intro p e s mi args below meth c H locs ls hc hZ hS hH hl
  exact lv_astore hc.1 hc.2.1 hd hl.has hn rfl (fun ls2 h2 => kk p e s mi args below meth c H locs ls2 hc hZ hS hH (LV.of1 (ls := ls) (v := vr z) h2))
theorem R_iinc {i : Nat} {d z : Int} (loc' : List (Option AV)) (q : Nat) (hq : pc + 3 = q) (hd : decode M.2.1 pc = .ok (.iinc i d, 3)) (hv : loc[i]? = some (some (vi z))) (hl' : st1 loc i (vi (z + d)) = loc') (hn : i < M.2.2.1) (kk : R Γ M rm mc ms Q k n q loc' st S m) : R Γ M rm mc ms Q k n pc loc st S m := by
  subst hq
  subst hl'
  intro p e s mi args below meth c H locs ls hc hZ hS hH hl
  obtain ⟨kx, hkx⟩ := List.getElem?_of_mem (lvl_mem (Γ := Γ) hv)
  exact lv_iinc hc.1 hc.2.1 hd hl.has hkx rfl hn rfl (fun ls2 h2 => kk p e s mi args below meth c H locs ls2 hc hZ hS hH (LV.of1 (ls := ls) (v := vi (z + d)) (by show lv_has ls2 _ ((i, Value.int (iz (z + d))) :: _); rw [← iz_add]; exact h2)))
theorem R_iadd {a b : Int} (q : Nat) (hq : pc + 1 = q) (hd : decode M.2.1 pc = .ok (.iadd, 1))  (kk : R Γ M rm mc ms Q k n q loc (vi (a + b) :: st) S m) : R Γ M rm mc ms Q k n pc loc (vi b :: vi a :: st) S m := by
  subst hq
  intro p e s mi args below meth c H locs ls hc hZ hS hH hl
  refine lv_iadd (x := iz a) (y := iz b) hc.1 hc.2.1 hd ?_
  rw [iz_add]
  exact kk p e s mi args below meth c H locs ls hc hZ hS hH hl
theorem R_isub {a b : Int} (q : Nat) (hq : pc + 1 = q) (hd : decode M.2.1 pc = .ok (.isub, 1))  (kk : R Γ M rm mc ms Q k n q loc (vi (a - b) :: st) S m) : R Γ M rm mc ms Q k n pc loc (vi b :: vi a :: st) S m := by
  subst hq
  intro p e s mi args below meth c H locs ls hc hZ hS hH hl
  refine lv_isub (x := iz a) (y := iz b) hc.1 hc.2.1 hd ?_
  rw [iz_sub]
  exact kk p e s mi args below meth c H locs ls hc hZ hS hH hl
theorem R_imul {a b : Int} (q : Nat) (hq : pc + 1 = q) (hd : decode M.2.1 pc = .ok (.imul, 1))  (kk : R Γ M rm mc ms Q k n q loc (vi (a * b) :: st) S m) : R Γ M rm mc ms Q k n pc loc (vi b :: vi a :: st) S m := by
  subst hq
  intro p e s mi args below meth c H locs ls hc hZ hS hH hl
  refine lv_imul (x := iz a) (y := iz b) hc.1 hc.2.1 hd ?_
  rw [iz_mul]
  exact kk p e s mi args below meth c H locs ls hc hZ hS hH hl
theorem R_ladd {a b : Int} (q : Nat) (hq : pc + 1 = q) (hd : decode M.2.1 pc = .ok (.ladd, 1))  (kk : R Γ M rm mc ms Q k n q loc (vl (a + b) :: st) S m) : R Γ M rm mc ms Q k n pc loc (vl b :: vl a :: st) S m := by
  subst hq
  intro p e s mi args below meth c H locs ls hc hZ hS hH hl
  refine lv_ladd (x := lz a) (y := lz b) hc.1 hc.2.1 hd ?_
  rw [lz_add]
  exact kk p e s mi args below meth c H locs ls hc hZ hS hH hl
theorem R_lsub {a b : Int} (q : Nat) (hq : pc + 1 = q) (hd : decode M.2.1 pc = .ok (.lsub, 1))  (kk : R Γ M rm mc ms Q k n q loc (vl (a - b) :: st) S m) : R Γ M rm mc ms Q k n pc loc (vl b :: vl a :: st) S m := by
  subst hq
  intro p e s mi args below meth c H locs ls hc hZ hS hH hl
  refine lv_lsub (x := lz a) (y := lz b) hc.1 hc.2.1 hd ?_
  rw [lz_sub]
  exact kk p e s mi args below meth c H locs ls hc hZ hS hH hl
theorem R_lmul {a b : Int} (q : Nat) (hq : pc + 1 = q) (hd : decode M.2.1 pc = .ok (.lmul, 1))  (kk : R Γ M rm mc ms Q k n q loc (vl (a * b) :: st) S m) : R Γ M rm mc ms Q k n pc loc (vl b :: vl a :: st) S m := by
  subst hq
  intro p e s mi args below meth c H locs ls hc hZ hS hH hl
  refine lv_lmul (x := lz a) (y := lz b) hc.1 hc.2.1 hd ?_
  rw [lz_mul]
  exact kk p e s mi args below meth c H locs ls hc hZ hS hH hl
theorem R_ineg {a : Int} (q : Nat) (hq : pc + 1 = q) (hd : decode M.2.1 pc = .ok (.ineg, 1))  (kk : R Γ M rm mc ms Q k n q loc (vi (-a) :: st) S m) : R Γ M rm mc ms Q k n pc loc (vi a :: st) S m := by
  subst hq
  intro p e s mi args below meth c H locs ls hc hZ hS hH hl
  refine lv_ineg (x := iz a) hc.1 hc.2.1 hd ?_
  rw [iz_neg]
  exact kk p e s mi args below meth c H locs ls hc hZ hS hH hl
theorem R_lneg {a : Int} (q : Nat) (hq : pc + 1 = q) (hd : decode M.2.1 pc = .ok (.lneg, 1))  (kk : R Γ M rm mc ms Q k n q loc (vl (-a) :: st) S m) : R Γ M rm mc ms Q k n pc loc (vl a :: st) S m := by
  subst hq
  intro p e s mi args below meth c H locs ls hc hZ hS hH hl
  refine lv_lneg (x := lz a) hc.1 hc.2.1 hd ?_
  rw [lz_neg]
  exact kk p e s mi args below meth c H locs ls hc hZ hS hH hl
theorem R_idiv {a b : Int} (q : Nat) (hq : pc + 1 = q) (hd : decode M.2.1 pc = .ok (.idiv, 1)) (ha : rg a) (hb : rg b) (h0 : b ≠ 0) (kk : R Γ M rm mc ms Q k n q loc (vi (a.tdiv b) :: st) S m) : R Γ M rm mc ms Q k n pc loc (vi b :: vi a :: st) S m := by
  subst hq
  intro p e s mi args below meth c H locs ls hc hZ hS hH hl
  refine lv_idiv (x := iz a) (y := iz b) hc.1 hc.2.1 hd (iz_ne0 hb h0) ?_
  rw [iz_div ha hb]
  exact kk p e s mi args below meth c H locs ls hc hZ hS hH hl
theorem R_irem {a b : Int} (q : Nat) (hq : pc + 1 = q) (hd : decode M.2.1 pc = .ok (.irem, 1)) (ha : rg a) (hb : rg b) (h0 : b ≠ 0) (kk : R Γ M rm mc ms Q k n q loc (vi (a.tmod b) :: st) S m) : R Γ M rm mc ms Q k n pc loc (vi b :: vi a :: st) S m := by
  subst hq
  intro p e s mi args below meth c H locs ls hc hZ hS hH hl
  refine lv_irem (x := iz a) (y := iz b) hc.1 hc.2.1 hd (iz_ne0 hb h0) ?_
  rw [iz_rem ha hb]
  exact kk p e s mi args below meth c H locs ls hc hZ hS hH hl
theorem R_idiv_p {a b : Int} (q : Nat) (hq : pc + 1 = q) (hd : decode M.2.1 pc = .ok (.idiv, 1)) (ha : rg a) (hb : rg b) (h1 : 0 ≤ a) (h2 : 0 < b) (kk : R Γ M rm mc ms Q k n q loc (vi (a / b) :: st) S m) : R Γ M rm mc ms Q k n pc loc (vi b :: vi a :: st) S m :=
  R_idiv q hq hd ha hb (by omega) (by rw [show a.tdiv b = a / b from Int.tdiv_eq_ediv_of_nonneg h1]; exact kk)
theorem R_irem_p {a b : Int} (q : Nat) (hq : pc + 1 = q) (hd : decode M.2.1 pc = .ok (.irem, 1)) (ha : rg a) (hb : rg b) (h1 : 0 ≤ a) (h2 : 0 < b) (kk : R Γ M rm mc ms Q k n q loc (vi (a % b) :: st) S m) : R Γ M rm mc ms Q k n pc loc (vi b :: vi a :: st) S m :=
  R_irem q hq hd ha hb (by omega) (by rw [show a.tmod b = a % b from Int.tmod_eq_emod_of_nonneg h1]; exact kk)
theorem R_ldiv {a b : Int} (q : Nat) (hq : pc + 1 = q) (hd : decode M.2.1 pc = .ok (.ldiv, 1)) (ha : rgL a) (hb : rgL b) (h0 : b ≠ 0) (kk : R Γ M rm mc ms Q k n q loc (vl (a.tdiv b) :: st) S m) : R Γ M rm mc ms Q k n pc loc (vl b :: vl a :: st) S m := by
  subst hq
  intro p e s mi args below meth c H locs ls hc hZ hS hH hl
  refine lv_ldiv (x := lz a) (y := lz b) hc.1 hc.2.1 hd (lz_ne0 hb h0) ?_
  rw [lz_div ha hb]
  exact kk p e s mi args below meth c H locs ls hc hZ hS hH hl
theorem R_lrem {a b : Int} (q : Nat) (hq : pc + 1 = q) (hd : decode M.2.1 pc = .ok (.lrem, 1)) (ha : rgL a) (hb : rgL b) (h0 : b ≠ 0) (kk : R Γ M rm mc ms Q k n q loc (vl (a.tmod b) :: st) S m) : R Γ M rm mc ms Q k n pc loc (vl b :: vl a :: st) S m := by
  subst hq
  intro p e s mi args below meth c H locs ls hc hZ hS hH hl
  refine lv_lrem (x := lz a) (y := lz b) hc.1 hc.2.1 hd (lz_ne0 hb h0) ?_
  rw [lz_rem ha hb]
  exact kk p e s mi args below meth c H locs ls hc hZ hS hH hl
theorem R_ldiv_p {a b : Int} (q : Nat) (hq : pc + 1 = q) (hd : decode M.2.1 pc = .ok (.ldiv, 1)) (ha : rgL a) (hb : rgL b) (h1 : 0 ≤ a) (h2 : 0 < b) (kk : R Γ M rm mc ms Q k n q loc (vl (a / b) :: st) S m) : R Γ M rm mc ms Q k n pc loc (vl b :: vl a :: st) S m :=
  R_ldiv q hq hd ha hb (by omega) (by rw [show a.tdiv b = a / b from Int.tdiv_eq_ediv_of_nonneg h1]; exact kk)
theorem R_lrem_p {a b : Int} (q : Nat) (hq : pc + 1 = q) (hd : decode M.2.1 pc = .ok (.lrem, 1)) (ha : rgL a) (hb : rgL b) (h1 : 0 ≤ a) (h2 : 0 < b) (kk : R Γ M rm mc ms Q k n q loc (vl (a % b) :: st) S m) : R Γ M rm mc ms Q k n pc loc (vl b :: vl a :: st) S m :=
  R_lrem q hq hd ha hb (by omega) (by rw [show a.tmod b = a % b from Int.tmod_eq_emod_of_nonneg h1]; exact kk)
theorem R_ishl {a sh : Int} (q : Nat) (hq : pc + 1 = q) (hd : decode M.2.1 pc = .ok (.ishl, 1)) (h0 : 0 ≤ sh) (h1 : sh < 32) (kk : R Γ M rm mc ms Q k n q loc (vi (a * 2 ^ sh.toNat) :: st) S m) : R Γ M rm mc ms Q k n pc loc (vi sh :: vi a :: st) S m := by
  subst hq
  intro p e s mi args below meth c H locs ls hc hZ hS hH hl
  refine lv_ishl (x := iz a) (y := iz sh) hc.1 hc.2.1 hd ?_
  rw [iz_shl h0 h1]
  exact kk p e s mi args below meth c H locs ls hc hZ hS hH hl
theorem R_ishr {a sh : Int} (q : Nat) (hq : pc + 1 = q) (hd : decode M.2.1 pc = .ok (.ishr, 1)) (ha : rg a) (h0 : 0 ≤ sh) (h1 : sh < 32) (kk : R Γ M rm mc ms Q k n q loc (vi (a / 2 ^ sh.toNat) :: st) S m) : R Γ M rm mc ms Q k n pc loc (vi sh :: vi a :: st) S m := by
  subst hq
  intro p e s mi args below meth c H locs ls hc hZ hS hH hl
  refine lv_ishr (x := iz a) (y := iz sh) hc.1 hc.2.1 hd ?_
  rw [iz_shr ha h0 h1]
  exact kk p e s mi args below meth c H locs ls hc hZ hS hH hl
theorem R_iand {a b : Nat} (q : Nat) (hq : pc + 1 = q) (hd : decode M.2.1 pc = .ok (.iand, 1))  (kk : R Γ M rm mc ms Q k n q loc (vi ((a &&& b : Nat) : Int) :: st) S m) : R Γ M rm mc ms Q k n pc loc (vi (b : Int) :: vi (a : Int) :: st) S m := by
  subst hq
  intro p e s mi args below meth c H locs ls hc hZ hS hH hl
  refine lv_iand (x := iz (a : Int)) (y := iz (b : Int)) hc.1 hc.2.1 hd ?_
  rw [iz_and]
  exact kk p e s mi args below meth c H locs ls hc hZ hS hH hl
theorem R_iandm {a : Int} (j : Nat) (q : Nat) (hq : pc + 1 = q) (hd : decode M.2.1 pc = .ok (.iand, 1)) (hj : j ≤ 30) (kk : R Γ M rm mc ms Q k n q loc (vi (a % 2 ^ j) :: st) S m) : R Γ M rm mc ms Q k n pc loc (vi (2 ^ j - 1) :: vi a :: st) S m := by
  subst hq
  intro p e s mi args below meth c H locs ls hc hZ hS hH hl
  refine lv_iand (x := iz a) (y := iz (2 ^ j - 1)) hc.1 hc.2.1 hd ?_
  rw [iz_mask a j hj]
  exact kk p e s mi args below meth c H locs ls hc hZ hS hH hl
theorem R_iand1 {a : Int} (q : Nat) (hq : pc + 1 = q) (hd : decode M.2.1 pc = .ok (.iand, 1))  (kk : R Γ M rm mc ms Q k n q loc (vi (a % 2) :: st) S m) : R Γ M rm mc ms Q k n pc loc (vi 1 :: vi a :: st) S m := by
  subst hq
  intro p e s mi args below meth c H locs ls hc hZ hS hH hl
  refine lv_iand (x := iz a) (y := iz 1) hc.1 hc.2.1 hd ?_
  rw [iz_mask1 a]
  exact kk p e s mi args below meth c H locs ls hc hZ hS hH hl
theorem R_ior {a b : Nat} (q : Nat) (hq : pc + 1 = q) (hd : decode M.2.1 pc = .ok (.ior, 1))  (kk : R Γ M rm mc ms Q k n q loc (vi ((a ||| b : Nat) : Int) :: st) S m) : R Γ M rm mc ms Q k n pc loc (vi (b : Int) :: vi (a : Int) :: st) S m := by
  subst hq
  intro p e s mi args below meth c H locs ls hc hZ hS hH hl
  refine lv_ior (x := iz (a : Int)) (y := iz (b : Int)) hc.1 hc.2.1 hd ?_
  rw [iz_or]
  exact kk p e s mi args below meth c H locs ls hc hZ hS hH hl
theorem R_ixor {a b : Nat} (q : Nat) (hq : pc + 1 = q) (hd : decode M.2.1 pc = .ok (.ixor, 1))  (kk : R Γ M rm mc ms Q k n q loc (vi ((a ^^^ b : Nat) : Int) :: st) S m) : R Γ M rm mc ms Q k n pc loc (vi (b : Int) :: vi (a : Int) :: st) S m := by
  subst hq
  intro p e s mi args below meth c H locs ls hc hZ hS hH hl
  refine lv_ixor (x := iz (a : Int)) (y := iz (b : Int)) hc.1 hc.2.1 hd ?_
  rw [iz_xor]
  exact kk p e s mi args below meth c H locs ls hc hZ hS hH hl
theorem R_inot {a : Int} (q : Nat) (hq : pc + 1 = q) (hd : decode M.2.1 pc = .ok (.ixor, 1))  (kk : R Γ M rm mc ms Q k n q loc (vi (-1 - a) :: st) S m) : R Γ M rm mc ms Q k n pc loc (vi (-1) :: vi a :: st) S m := by
  subst hq
  intro p e s mi args below meth c H locs ls hc hZ hS hH hl
  refine lv_ixor (x := iz a) (y := iz (-1)) hc.1 hc.2.1 hd ?_
  rw [iz_not a]
  exact kk p e s mi args below meth c H locs ls hc hZ hS hH hl
theorem R_lshl {a sh : Int} (q : Nat) (hq : pc + 1 = q) (hd : decode M.2.1 pc = .ok (.lshl, 1)) (h0 : 0 ≤ sh) (h1 : sh < 64) (kk : R Γ M rm mc ms Q k n q loc (vl (a * 2 ^ sh.toNat) :: st) S m) : R Γ M rm mc ms Q k n pc loc (vi sh :: vl a :: st) S m := by
  subst hq
  intro p e s mi args below meth c H locs ls hc hZ hS hH hl
  exact lv_lshl (x := lz a) (y := iz sh) hc.1 hc.2.1 hd (lz_shl h0 h1) (kk p e s mi args below meth c H locs ls hc hZ hS hH hl)
theorem R_lshr {a sh : Int} (q : Nat) (hq : pc + 1 = q) (hd : decode M.2.1 pc = .ok (.lshr, 1)) (ha : rgL a) (h0 : 0 ≤ sh) (h1 : sh < 64) (kk : R Γ M rm mc ms Q k n q loc (vl (a / 2 ^ sh.toNat) :: st) S m) : R Γ M rm mc ms Q k n pc loc (vi sh :: vl a :: st) S m := by
  subst hq
  intro p e s mi args below meth c H locs ls hc hZ hS hH hl
  exact lv_lshr (x := lz a) (y := iz sh) hc.1 hc.2.1 hd (lz_shr ha h0 h1) (kk p e s mi args below meth c H locs ls hc hZ hS hH hl)
theorem R_landL {a : Int} (q : Nat) (hq : pc + 1 = q) (hd : decode M.2.1 pc = .ok (.land, 1))  (kk : R Γ M rm mc ms Q k n q loc (vl (a % 4294967296) :: st) S m) : R Γ M rm mc ms Q k n pc loc (vl 4294967295 :: vl a :: st) S m := by
  subst hq
  intro p e s mi args below meth c H locs ls hc hZ hS hH hl
  refine lv_land (x := lz a) (y := lz 4294967295) hc.1 hc.2.1 hd ?_
  rw [lz_low]
  exact kk p e s mi args below meth c H locs ls hc hZ hS hH hl
theorem R_lorJ {a b : Int} (q : Nat) (hq : pc + 1 = q) (hd : decode M.2.1 pc = .ok (.lor, 1)) (h0 : 0 ≤ b) (h1 : b < 4294967296) (kk : R Γ M rm mc ms Q k n q loc (vl (a * 4294967296 + b) :: st) S m) : R Γ M rm mc ms Q k n pc loc (vl b :: vl (a * 4294967296) :: st) S m := by
  subst hq
  intro p e s mi args below meth c H locs ls hc hZ hS hH hl
  refine lv_lor (x := lz (a * 4294967296)) (y := lz b) hc.1 hc.2.1 hd ?_
  rw [lz_join a b h0 h1]
  exact kk p e s mi args below meth c H locs ls hc hZ hS hH hl
theorem R_i2l {a : Int} (q : Nat) (hq : pc + 1 = q) (hd : decode M.2.1 pc = .ok (.i2l, 1)) (ha : rg a) (kk : R Γ M rm mc ms Q k n q loc (vl a :: st) S m) : R Γ M rm mc ms Q k n pc loc (vi a :: st) S m := by
  subst hq
  intro p e s mi args below meth c H locs ls hc hZ hS hH hl
  exact lv_i2l (x := iz a) hc.1 hc.2.1 hd (iz_l ha) (kk p e s mi args below meth c H locs ls hc hZ hS hH hl)
theorem R_l2i {a : Int} (q : Nat) (hq : pc + 1 = q) (hd : decode M.2.1 pc = .ok (.l2i, 1))  (kk : R Γ M rm mc ms Q k n q loc (vi a :: st) S m) : R Γ M rm mc ms Q k n pc loc (vl a :: st) S m := by
  subst hq
  intro p e s mi args below meth c H locs ls hc hZ hS hH hl
  exact lv_l2i (x := lz a) hc.1 hc.2.1 hd (lz_i a) (kk p e s mi args below meth c H locs ls hc hZ hS hH hl)
theorem R_i2b {a : Int} (q : Nat) (hq : pc + 1 = q) (hd : decode M.2.1 pc = .ok (.i2b, 1))  (kk : R Γ M rm mc ms Q k n q loc (vi (a.bmod 256) :: st) S m) : R Γ M rm mc ms Q k n pc loc (vi a :: st) S m := by
  subst hq
  intro p e s mi args below meth c H locs ls hc hZ hS hH hl
  exact lv_i2b (x := iz a) hc.1 hc.2.1 hd (iz_b a) (kk p e s mi args below meth c H locs ls hc hZ hS hH hl)
theorem R_i2s {a : Int} (q : Nat) (hq : pc + 1 = q) (hd : decode M.2.1 pc = .ok (.i2s, 1))  (kk : R Γ M rm mc ms Q k n q loc (vi (a.bmod 65536) :: st) S m) : R Γ M rm mc ms Q k n pc loc (vi a :: st) S m := by
  subst hq
  intro p e s mi args below meth c H locs ls hc hZ hS hH hl
  exact lv_i2s (x := iz a) hc.1 hc.2.1 hd (iz_s a) (kk p e s mi args below meth c H locs ls hc hZ hS hH hl)
theorem R_lcmp {a b : Int} (q : Nat) (hq : pc + 1 = q) (hd : decode M.2.1 pc = .ok (.lcmp, 1)) (ha : rgL a) (hb : rgL b) (kk : R Γ M rm mc ms Q k n q loc (vi (cmpZ a b) :: st) S m) : R Γ M rm mc ms Q k n pc loc (vl b :: vl a :: st) S m := by
  subst hq
  intro p e s mi args below meth c H locs ls hc hZ hS hH hl
  refine W.lcmp (x := lz a) (y := lz b) hc.1 hc.2.1 hd ?_
  rw [lz_cmp ha hb]
  exact kk p e s mi args below meth c H locs ls hc hZ hS hH hl
theorem R_dup {v : AV} (q : Nat) (hq : pc + 1 = q) (hd : decode M.2.1 pc = .ok (.dup, 1)) (hv : cat1 v = true) (kk : R Γ M rm mc ms Q k n q loc (v :: v :: st) S m) : R Γ M rm mc ms Q k n pc loc (v :: st) S m := by
  subst hq
  intro p e s mi args below meth c H locs ls hc hZ hS hH hl
  exact lv_dup hc.1 hc.2.1 hd (by rw [cat_tr, if_pos hv]) (kk p e s mi args below meth c H locs ls hc hZ hS hH hl)
theorem R_dup2 {v w : AV} (q : Nat) (hq : pc + 1 = q) (hd : decode M.2.1 pc = .ok (.dup2, 1)) (hv : cat1 v = true) (hw : cat1 w = true) (kk : R Γ M rm mc ms Q k n q loc (v :: w :: v :: w :: st) S m) : R Γ M rm mc ms Q k n pc loc (v :: w :: st) S m := by
  subst hq
  intro p e s mi args below meth c H locs ls hc hZ hS hH hl
  exact lv_dup2_11 hc.1 hc.2.1 hd (by rw [cat_tr, if_pos hv]) (by rw [cat_tr, if_pos hw]) (kk p e s mi args below meth c H locs ls hc hZ hS hH hl)
theorem R_pop {v : AV} (q : Nat) (hq : pc + 1 = q) (hd : decode M.2.1 pc = .ok (.pop, 1)) (hv : cat1 v = true) (kk : R Γ M rm mc ms Q k n q loc st S m) : R Γ M rm mc ms Q k n pc loc (v :: st) S m := by
  subst hq
  intro p e s mi args below meth c H locs ls hc hZ hS hH hl
  exact lv_pop hc.1 hc.2.1 hd (by rw [cat_tr, if_pos hv]) (kk p e s mi args below meth c H locs ls hc hZ hS hH hl)
theorem R_icmp_eq {a b : Int} {off : Int} (q t : Nat) (hq : pc + 3 = q) (ht : (pc : Int) + off = (t : Int)) (hd : decode M.2.1 pc = .ok (.if_icmp .eq off, 3)) (ha : rg a) (hb : rg b) (kt : (a = b) → R Γ M rm mc ms Q k n t loc st S m) (kf : ¬ (a = b) → R Γ M rm mc ms Q k n q loc st S m) : R Γ M rm mc ms Q k n pc loc (vi b :: vi a :: st) S m := by
  subst hq
  intro p e s mi args below meth c H locs ls hc hZ hS hH hl
  exact lv_icmp_eq hc.1 hc.2.1 hd ht (fun h => kt ((iz_eq ha hb).mp h) p e s mi args below meth c H locs ls hc hZ hS hH hl) (fun h => kf (fun z => h ((iz_eq ha hb).mpr z)) p e s mi args below meth c H locs ls hc hZ hS hH hl)
theorem R_icmp_ne {a b : Int} {off : Int} (q t : Nat) (hq : pc + 3 = q) (ht : (pc : Int) + off = (t : Int)) (hd : decode M.2.1 pc = .ok (.if_icmp .ne off, 3)) (ha : rg a) (hb : rg b) (kt : (a ≠ b) → R Γ M rm mc ms Q k n t loc st S m) (kf : ¬ (a ≠ b) → R Γ M rm mc ms Q k n q loc st S m) : R Γ M rm mc ms Q k n pc loc (vi b :: vi a :: st) S m := by
  subst hq
  intro p e s mi args below meth c H locs ls hc hZ hS hH hl
  exact lv_icmp_ne hc.1 hc.2.1 hd ht (fun h => kt (fun z => h ((iz_eq ha hb).mpr z)) p e s mi args below meth c H locs ls hc hZ hS hH hl) (fun h => kf (fun z => z ((iz_eq ha hb).mp h)) p e s mi args below meth c H locs ls hc hZ hS hH hl)
theorem R_icmp_lt {a b : Int} {off : Int} (q t : Nat) (hq : pc + 3 = q) (ht : (pc : Int) + off = (t : Int)) (hd : decode M.2.1 pc = .ok (.if_icmp .lt off, 3)) (ha : rg a) (hb : rg b) (kt : (a < b) → R Γ M rm mc ms Q k n t loc st S m) (kf : ¬ (a < b) → R Γ M rm mc ms Q k n q loc st S m) : R Γ M rm mc ms Q k n pc loc (vi b :: vi a :: st) S m := by
  subst hq
  intro p e s mi args below meth c H locs ls hc hZ hS hH hl
  exact lv_icmp_lt hc.1 hc.2.1 hd ht (fun h => kt ((iz_lt ha hb).mp h) p e s mi args below meth c H locs ls hc hZ hS hH hl) (fun h => kf (fun z => h ((iz_lt ha hb).mpr z)) p e s mi args below meth c H locs ls hc hZ hS hH hl)
theorem R_icmp_ge {a b : Int} {off : Int} (q t : Nat) (hq : pc + 3 = q) (ht : (pc : Int) + off = (t : Int)) (hd : decode M.2.1 pc = .ok (.if_icmp .ge off, 3)) (ha : rg a) (hb : rg b) (kt : (b ≤ a) → R Γ M rm mc ms Q k n t loc st S m) (kf : ¬ (b ≤ a) → R Γ M rm mc ms Q k n q loc st S m) : R Γ M rm mc ms Q k n pc loc (vi b :: vi a :: st) S m := by
  subst hq
  intro p e s mi args below meth c H locs ls hc hZ hS hH hl
  exact lv_icmp_ge hc.1 hc.2.1 hd ht (fun h => kt ((iz_le hb ha).mp h) p e s mi args below meth c H locs ls hc hZ hS hH hl) (fun h => kf (fun z => h ((iz_le hb ha).mpr z)) p e s mi args below meth c H locs ls hc hZ hS hH hl)
theorem R_icmp_gt {a b : Int} {off : Int} (q t : Nat) (hq : pc + 3 = q) (ht : (pc : Int) + off = (t : Int)) (hd : decode M.2.1 pc = .ok (.if_icmp .gt off, 3)) (ha : rg a) (hb : rg b) (kt : (b < a) → R Γ M rm mc ms Q k n t loc st S m) (kf : ¬ (b < a) → R Γ M rm mc ms Q k n q loc st S m) : R Γ M rm mc ms Q k n pc loc (vi b :: vi a :: st) S m := by
  subst hq
  intro p e s mi args below meth c H locs ls hc hZ hS hH hl
  exact lv_icmp_gt hc.1 hc.2.1 hd ht (fun h => kt ((iz_lt hb ha).mp h) p e s mi args below meth c H locs ls hc hZ hS hH hl) (fun h => kf (fun z => h ((iz_lt hb ha).mpr z)) p e s mi args below meth c H locs ls hc hZ hS hH hl)
theorem R_icmp_le {a b : Int} {off : Int} (q t : Nat) (hq : pc + 3 = q) (ht : (pc : Int) + off = (t : Int)) (hd : decode M.2.1 pc = .ok (.if_icmp .le off, 3)) (ha : rg a) (hb : rg b) (kt : (a ≤ b) → R Γ M rm mc ms Q k n t loc st S m) (kf : ¬ (a ≤ b) → R Γ M rm mc ms Q k n q loc st S m) : R Γ M rm mc ms Q k n pc loc (vi b :: vi a :: st) S m := by
  subst hq
  intro p e s mi args below meth c H locs ls hc hZ hS hH hl
  exact lv_icmp_le hc.1 hc.2.1 hd ht (fun h => kt ((iz_le ha hb).mp h) p e s mi args below meth c H locs ls hc hZ hS hH hl) (fun h => kf (fun z => h ((iz_le ha hb).mpr z)) p e s mi args below meth c H locs ls hc hZ hS hH hl)
theorem R_if_eq {a : Int} {off : Int} (q t : Nat) (hq : pc + 3 = q) (ht : (pc : Int) + off = (t : Int)) (hd : decode M.2.1 pc = .ok (.ifCond .eq off, 3)) (ha : rg a) (kt : (a = 0) → R Γ M rm mc ms Q k n t loc st S m) (kf : ¬ (a = 0) → R Γ M rm mc ms Q k n q loc st S m) : R Γ M rm mc ms Q k n pc loc (vi a :: st) S m := by
  subst hq
  intro p e s mi args below meth c H locs ls hc hZ hS hH hl
  exact lv_if_eq hc.1 hc.2.1 hd ht (fun h => kt ((iz_eq0 ha).mp h) p e s mi args below meth c H locs ls hc hZ hS hH hl) (fun h => kf (fun z => h ((iz_eq0 ha).mpr z)) p e s mi args below meth c H locs ls hc hZ hS hH hl)
theorem R_if_ne {a : Int} {off : Int} (q t : Nat) (hq : pc + 3 = q) (ht : (pc : Int) + off = (t : Int)) (hd : decode M.2.1 pc = .ok (.ifCond .ne off, 3)) (ha : rg a) (kt : (a ≠ 0) → R Γ M rm mc ms Q k n t loc st S m) (kf : ¬ (a ≠ 0) → R Γ M rm mc ms Q k n q loc st S m) : R Γ M rm mc ms Q k n pc loc (vi a :: st) S m := by
  subst hq
  intro p e s mi args below meth c H locs ls hc hZ hS hH hl
  exact lv_if_ne hc.1 hc.2.1 hd ht (fun h => kt (fun z => h ((iz_eq0 ha).mpr z)) p e s mi args below meth c H locs ls hc hZ hS hH hl) (fun h => kf (fun z => z ((iz_eq0 ha).mp h)) p e s mi args below meth c H locs ls hc hZ hS hH hl)
theorem R_if_lt {a : Int} {off : Int} (q t : Nat) (hq : pc + 3 = q) (ht : (pc : Int) + off = (t : Int)) (hd : decode M.2.1 pc = .ok (.ifCond .lt off, 3)) (ha : rg a) (kt : (a < 0) → R Γ M rm mc ms Q k n t loc st S m) (kf : ¬ (a < 0) → R Γ M rm mc ms Q k n q loc st S m) : R Γ M rm mc ms Q k n pc loc (vi a :: st) S m := by
  subst hq
  intro p e s mi args below meth c H locs ls hc hZ hS hH hl
  exact lv_if_lt hc.1 hc.2.1 hd ht (fun h => kt ((iz_lt0 ha).mp h) p e s mi args below meth c H locs ls hc hZ hS hH hl) (fun h => kf (fun z => h ((iz_lt0 ha).mpr z)) p e s mi args below meth c H locs ls hc hZ hS hH hl)
theorem R_if_ge {a : Int} {off : Int} (q t : Nat) (hq : pc + 3 = q) (ht : (pc : Int) + off = (t : Int)) (hd : decode M.2.1 pc = .ok (.ifCond .ge off, 3)) (ha : rg a) (kt : (0 ≤ a) → R Γ M rm mc ms Q k n t loc st S m) (kf : ¬ (0 ≤ a) → R Γ M rm mc ms Q k n q loc st S m) : R Γ M rm mc ms Q k n pc loc (vi a :: st) S m := by
  subst hq
  intro p e s mi args below meth c H locs ls hc hZ hS hH hl
  exact lv_if_ge hc.1 hc.2.1 hd ht (fun h => kt ((iz_0le ha).mp h) p e s mi args below meth c H locs ls hc hZ hS hH hl) (fun h => kf (fun z => h ((iz_0le ha).mpr z)) p e s mi args below meth c H locs ls hc hZ hS hH hl)
theorem R_if_gt {a : Int} {off : Int} (q t : Nat) (hq : pc + 3 = q) (ht : (pc : Int) + off = (t : Int)) (hd : decode M.2.1 pc = .ok (.ifCond .gt off, 3)) (ha : rg a) (kt : (0 < a) → R Γ M rm mc ms Q k n t loc st S m) (kf : ¬ (0 < a) → R Γ M rm mc ms Q k n q loc st S m) : R Γ M rm mc ms Q k n pc loc (vi a :: st) S m := by
  subst hq
  intro p e s mi args below meth c H locs ls hc hZ hS hH hl
  exact lv_if_gt hc.1 hc.2.1 hd ht (fun h => kt ((iz_0lt ha).mp h) p e s mi args below meth c H locs ls hc hZ hS hH hl) (fun h => kf (fun z => h ((iz_0lt ha).mpr z)) p e s mi args below meth c H locs ls hc hZ hS hH hl)
theorem R_if_le {a : Int} {off : Int} (q t : Nat) (hq : pc + 3 = q) (ht : (pc : Int) + off = (t : Int)) (hd : decode M.2.1 pc = .ok (.ifCond .le off, 3)) (ha : rg a) (kt : (a ≤ 0) → R Γ M rm mc ms Q k n t loc st S m) (kf : ¬ (a ≤ 0) → R Γ M rm mc ms Q k n q loc st S m) : R Γ M rm mc ms Q k n pc loc (vi a :: st) S m := by
  subst hq
  intro p e s mi args below meth c H locs ls hc hZ hS hH hl
  exact lv_if_le hc.1 hc.2.1 hd ht (fun h => kt ((iz_le0 ha).mp h) p e s mi args below meth c H locs ls hc hZ hS hH hl) (fun h => kf (fun z => h ((iz_le0 ha).mpr z)) p e s mi args below meth c H locs ls hc hZ hS hH hl)
theorem R_ifb_eq {b : Bool} {off : Int} (q t : Nat) (hq : pc + 3 = q) (ht : (pc : Int) + off = (t : Int)) (hd : decode M.2.1 pc = .ok (.ifCond .eq off, 3)) (kt : b = false → R Γ M rm mc ms Q k n t loc st S m) (kf : b = true → R Γ M rm mc ms Q k n q loc st S m) : R Γ M rm mc ms Q k n pc loc (vi (bI b) :: st) S m :=
  R_if_eq q t hq ht hd (rg_bI b) (fun h => kt ((bI_eq0 b).mp h)) (fun h => kf (by cases b <;> simp_all [bI]))
theorem R_ifb_ne {b : Bool} {off : Int} (q t : Nat) (hq : pc + 3 = q) (ht : (pc : Int) + off = (t : Int)) (hd : decode M.2.1 pc = .ok (.ifCond .ne off, 3)) (kt : b = true → R Γ M rm mc ms Q k n t loc st S m) (kf : b = false → R Γ M rm mc ms Q k n q loc st S m) : R Γ M rm mc ms Q k n pc loc (vi (bI b) :: st) S m :=
  R_if_ne q t hq ht hd (rg_bI b) (fun h => kt (by cases b <;> simp_all [bI])) (fun h => kf (by cases b <;> simp_all [bI]))
theorem rg_cmpZ (a b : Int) : rg (cmpZ a b) := by unfold cmpZ; split <;> (try split) <;> exact ⟨by omega, by omega⟩
theorem R_lif_eq {a b : Int} {off : Int} (q1 q t : Nat) (hq1 : pc + 1 = q1) (hq : q1 + 3 = q) (ht : (q1 : Int) + off = (t : Int)) (hd1 : decode M.2.1 pc = .ok (.lcmp, 1)) (hd : decode M.2.1 q1 = .ok (.ifCond .eq off, 3)) (ha : rgL a) (hb : rgL b) (kt : (a = b) → R Γ M rm mc ms Q k n t loc st S m) (kf : ¬ (a = b) → R Γ M rm mc ms Q k n q loc st S m) : R Γ M rm mc ms Q k n pc loc (vl b :: vl a :: st) S m :=
  R_lcmp q1 hq1 hd1 ha hb (R_if_eq q t hq ht hd (rg_cmpZ a b) (fun h => kt (by unfold cmpZ at h; split at h <;> (try split at h) <;> omega)) (fun h => kf (by unfold cmpZ at h; split at h <;> (try split at h) <;> omega)))
theorem R_lif_ne {a b : Int} {off : Int} (q1 q t : Nat) (hq1 : pc + 1 = q1) (hq : q1 + 3 = q) (ht : (q1 : Int) + off = (t : Int)) (hd1 : decode M.2.1 pc = .ok (.lcmp, 1)) (hd : decode M.2.1 q1 = .ok (.ifCond .ne off, 3)) (ha : rgL a) (hb : rgL b) (kt : (a ≠ b) → R Γ M rm mc ms Q k n t loc st S m) (kf : ¬ (a ≠ b) → R Γ M rm mc ms Q k n q loc st S m) : R Γ M rm mc ms Q k n pc loc (vl b :: vl a :: st) S m :=
  R_lcmp q1 hq1 hd1 ha hb (R_if_ne q t hq ht hd (rg_cmpZ a b) (fun h => kt (by unfold cmpZ at h; split at h <;> (try split at h) <;> omega)) (fun h => kf (by unfold cmpZ at h; split at h <;> (try split at h) <;> omega)))
theorem R_lif_lt {a b : Int} {off : Int} (q1 q t : Nat) (hq1 : pc + 1 = q1) (hq : q1 + 3 = q) (ht : (q1 : Int) + off = (t : Int)) (hd1 : decode M.2.1 pc = .ok (.lcmp, 1)) (hd : decode M.2.1 q1 = .ok (.ifCond .lt off, 3)) (ha : rgL a) (hb : rgL b) (kt : (a < b) → R Γ M rm mc ms Q k n t loc st S m) (kf : ¬ (a < b) → R Γ M rm mc ms Q k n q loc st S m) : R Γ M rm mc ms Q k n pc loc (vl b :: vl a :: st) S m :=
  R_lcmp q1 hq1 hd1 ha hb (R_if_lt q t hq ht hd (rg_cmpZ a b) (fun h => kt (by unfold cmpZ at h; split at h <;> (try split at h) <;> omega)) (fun h => kf (by unfold cmpZ at h; split at h <;> (try split at h) <;> omega)))
theorem R_lif_ge {a b : Int} {off : Int} (q1 q t : Nat) (hq1 : pc + 1 = q1) (hq : q1 + 3 = q) (ht : (q1 : Int) + off = (t : Int)) (hd1 : decode M.2.1 pc = .ok (.lcmp, 1)) (hd : decode M.2.1 q1 = .ok (.ifCond .ge off, 3)) (ha : rgL a) (hb : rgL b) (kt : (b ≤ a) → R Γ M rm mc ms Q k n t loc st S m) (kf : ¬ (b ≤ a) → R Γ M rm mc ms Q k n q loc st S m) : R Γ M rm mc ms Q k n pc loc (vl b :: vl a :: st) S m :=
  R_lcmp q1 hq1 hd1 ha hb (R_if_ge q t hq ht hd (rg_cmpZ a b) (fun h => kt (by unfold cmpZ at h; split at h <;> (try split at h) <;> omega)) (fun h => kf (by unfold cmpZ at h; split at h <;> (try split at h) <;> omega)))
theorem R_lif_gt {a b : Int} {off : Int} (q1 q t : Nat) (hq1 : pc + 1 = q1) (hq : q1 + 3 = q) (ht : (q1 : Int) + off = (t : Int)) (hd1 : decode M.2.1 pc = .ok (.lcmp, 1)) (hd : decode M.2.1 q1 = .ok (.ifCond .gt off, 3)) (ha : rgL a) (hb : rgL b) (kt : (b < a) → R Γ M rm mc ms Q k n t loc st S m) (kf : ¬ (b < a) → R Γ M rm mc ms Q k n q loc st S m) : R Γ M rm mc ms Q k n pc loc (vl b :: vl a :: st) S m :=
  R_lcmp q1 hq1 hd1 ha hb (R_if_gt q t hq ht hd (rg_cmpZ a b) (fun h => kt (by unfold cmpZ at h; split at h <;> (try split at h) <;> omega)) (fun h => kf (by unfold cmpZ at h; split at h <;> (try split at h) <;> omega)))
theorem R_lif_le {a b : Int} {off : Int} (q1 q t : Nat) (hq1 : pc + 1 = q1) (hq : q1 + 3 = q) (ht : (q1 : Int) + off = (t : Int)) (hd1 : decode M.2.1 pc = .ok (.lcmp, 1)) (hd : decode M.2.1 q1 = .ok (.ifCond .le off, 3)) (ha : rgL a) (hb : rgL b) (kt : (a ≤ b) → R Γ M rm mc ms Q k n t loc st S m) (kf : ¬ (a ≤ b) → R Γ M rm mc ms Q k n q loc st S m) : R Γ M rm mc ms Q k n pc loc (vl b :: vl a :: st) S m :=
  R_lcmp q1 hq1 hd1 ha hb (R_if_le q t hq ht hd (rg_cmpZ a b) (fun h => kt (by unfold cmpZ at h; split at h <;> (try split at h) <;> omega)) (fun h => kf (by unfold cmpZ at h; split at h <;> (try split at h) <;> omega)))
theorem R_goto {off : Int} (t : Nat) (ht : (pc : Int) + off = (t : Int)) (hd : decode M.2.1 pc = .ok (.goto off, 3)) (kk : R Γ M rm mc ms Q k n t loc st S m) : R Γ M rm mc ms Q k n pc loc st S m := by
  intro p e s mi args below meth c H locs ls hc hZ hS hH hl
  exact lv_goto hc.1 hc.2.1 hd ht (kk p e s mi args below meth c H locs ls hc hZ hS hH hl)
theorem R_top {a b : Int} (h : a = b) (kk : R Γ M rm mc ms Q k n pc loc (vi b :: st) S m) : R Γ M rm mc ms Q k n pc loc (vi a :: st) S m := h ▸ kk
theorem R_topL {a b : Int} (h : a = b) (kk : R Γ M rm mc ms Q k n pc loc (vl b :: st) S m) : R Γ M rm mc ms Q k n pc loc (vl a :: st) S m := h ▸ kk
theorem R_tsOut {dflt lo hi : Int} {offs : Array Int} {len : Nat} {a : Int} (t : Nat) (hd : decode M.2.1 pc = .ok (.tableswitch dflt lo hi offs, len)) (ha : rg a) (h : a < lo ∨ hi < a) (ht : (pc : Int) + dflt = (t : Int)) (kk : R Γ M rm mc ms Q k n t loc st S m) : R Γ M rm mc ms Q k n pc loc (vi a :: st) S m := by
  intro p e s mi args below meth c H locs ls hc hZ hS hH hl
  exact lv_tableOut hc.1 hc.2.1 hd (by rw [iz_toInt ha]; exact h) ht (kk p e s mi args below meth c H locs ls hc hZ hS hH hl)
theorem R_tsIn {dflt lo hi : Int} {offs : Array Int} {len : Nat} {a off : Int} (t : Nat) (hd : decode M.2.1 pc = .ok (.tableswitch dflt lo hi offs, len)) (ha : rg a) (h1 : lo ≤ a) (h2 : a ≤ hi) (ho : offs[(a - lo).toNat]? = some off) (ht : (pc : Int) + off = (t : Int)) (kk : R Γ M rm mc ms Q k n t loc st S m) : R Γ M rm mc ms Q k n pc loc (vi a :: st) S m := by
  intro p e s mi args below meth c H locs ls hc hZ hS hH hl
  exact lv_tableIn hc.1 hc.2.1 hd (by rw [iz_toInt ha]; omega) (by rw [iz_toInt ha]; omega) (by rw [iz_toInt ha]; exact ho) ht (kk p e s mi args below meth c H locs ls hc hZ hS hH hl)
end RULES
