/-! arrays of arrays -/
section MANEW
variable {Γ : GX} {M : MD} {rm : Room} {mc ms : Nat} {Q : Option AV → Shp → Mem → Prop} {k n pc : Nat} {loc : List (Option AV)} {st : List AV} {S : Shp} {m : Mem} {f : Nat → Nat × Nat}
def newG (m : Mem) (o N : Nat) : Mem := (fun a j => if o ≤ a ∧ a ≤ o + N then 0 else m.1 a j, fun a j => if a = o then (if j < N then some (o + 1 + j) else none) else if o < a ∧ a ≤ o + N then none else m.2 a j)
theorem cE_newG_ne {o N x : Nat} (h : x < o) : cE Γ S (newG m o N) x = cE Γ S m x := by
  unfold cE flds newG
  simp [show ¬ (o ≤ x ∧ x ≤ o + N) by omega, show ¬ x = o by omega, show ¬ (o < x ∧ x ≤ o + N) by omega]
theorem outer_arr (c : ClassId) (N h0 : Nat) : ∀ i, Jvm.Free.Multi.outerC c N h0 i = arrV c N (fun j => if j < i then .ref (h0 + 1 + j) else .null)
  | 0 => by
    show ({ cls := c, slots := Array.replicate N .null, vm := .none } : Cell) = _
    rw [arrV_new]
    congr 1
  | i + 1 => by
    show (Jvm.Free.Multi.outerC c N h0 i).setSlot i (.ref (h0 + 1 + i)) = _
    rw [outer_arr c N h0 i, arrV_store]
    congr 1
    funext j
    unfold updV
    by_cases e : j = i
    · subst e; rw [if_pos rfl, if_pos (by omega)]
    · rw [if_neg e]
      show (if j < i then Value.ref (h0 + 1 + j) else Value.null) = _
      by_cases h : j < i
      · rw [if_pos h, if_pos (by omega)]
      · rw [if_neg h, if_neg (by omega)]
theorem R_manew {ix o : Nat} {zn zk : Int} (N K q o' k' n' : Nat) (hq : pc + 4 = q) (hd : decode M.2.1 pc = .ok (.multianewarray ix 2, 4)) (hw : Cond.classLink M.1.cls ix "[[I" ∈ TW) (hzn : zn = (N : Int)) (hzk : zk = (K : Int)) (hs : f o = (15, N)) (hs1 : ∀ j, j < N → f (o + 1 + j) = (12, K)) (hNK : N ≤ 1000 ∧ K ≤ 1000) (ho : o + 1 + N = o') (hlt : o' < 1000000) (hk : k + 1 + N = k') (hn : n + N + N * K = n') (hal : k' ≤ rm.cells ∧ n' ≤ rm.slots)
    (kk : R Γ M rm mc ms Q k' n' q loc (vr o :: st) (o', f) (newG m o N)) : R Γ M rm mc ms Q k n pc loc (vi zk :: vi zn :: st) (o, f) m := by
  subst hq ho hk hn hzn hzk
  intro p e s mi args below meth c H locs ls hc hZ hS hH hl
  refine ra_size (M := M) hc hZ hS hH (fun hsz => ?_)
  have hts := hc.2.2.2.2.2.2.1
  have hK := hc.2.2.2.2.2.2.2.2.1
  have hAO := hc.2.2.2.2.2.2.2.2.2.2.1.1
  have hZ' : s.heap.size + k = gB Γ + o := hZ
  have hsz' : H.size = gB Γ + o := hsz
  have hrN : rg (N : Int) := rg_n (by omega)
  have hrK : rg (K : Int) := rg_n (by omega)
  have hclN : (iz (N : Int)).toNatClampNeg = N := by rw [iz_clamp hrN, Int.toNat_natCast]
  have hclK : (iz (K : Int)).toNatClampNeg = K := by rw [iz_clamp hrK, Int.toNat_natCast]
  have hn0 : ¬ iz (N : Int) < 0 := fun q => by have := (iz_lt0 hrN).mp q; omega
  have hk0 : ¬ iz (K : Int) < 0 := fun q => by have := (iz_lt0 hrK).mp q; omega
  have eA : "[" ++ (FieldType.array .int).toString = "[[I" := by first | rfl | decide
  intro T hT X
  obtain ⟨vm₁, cA, comp, hW, hfA, hfC, hO, hI, X1, step⟩ := X.multianewarray2F hc.1 (own := M.1.cls) (index := ix) (ty := .int) hc.2.2.2.2.2.1 (by rw [eA]; exact hts _ hw) hAO (hts _ ac_int) (g := F0 mi pc ls (.int (iz (K : Int)) :: .int (iz (N : Int)) :: st.map (tr Γ))) rfl (by rw [hc.2.1]; exact hd) rfl hn0 hk0 (by rw [hclN]; omega) (by rw [hclK]; show K * 4 ≤ _; omega) (by rw [hclK]; omega) rfl rfl (by rw [hclN]; have := hal.1; omega) (by rw [hclN, hclK]; have := hal.2; omega)
  rw [hclN, hclK] at X1 step
  have hTs : (T.setVm vm₁).heap.size = gB Γ + o := by show T.heap.size = _; rw [hT]; exact hsz
  have hcA : cA = gC Γ 3 := Option.some.inj (hfA.symm.trans (hK.2 3 (gC Γ 3, .array .int) rfl).2)
  have hco : comp = gC Γ 0 := Option.some.inj (hfC.symm.trans (hK.2 0 (gC Γ 0, .int) rfl).2)
  subst hcA hco
  obtain ⟨f1, f2, -, -⟩ := Jvm.Free.Multi.fill_facts (T.setVm vm₁) (gC Γ 3) (gC Γ 0) N K (defaultValue .int) N
  have fo := fun (a : Addr) (ha : a < (T.setVm vm₁).heap.size) => Jvm.Free.Multi.fill_old (T.setVm vm₁) (gC Γ 3) (gC Γ 0) N K (defaultValue .int) (a := a) ha N
  have fi := fun (j : Nat) (hj : j < N) => Jvm.Free.Multi.fill_inner (T.setVm vm₁) (gC Γ 3) (gC Γ 0) N K (defaultValue .int) N j hj
  generalize hFl : Jvm.Free.Multi.fill (T.setVm vm₁) (gC Γ 3) (gC Γ 0) N K (defaultValue .int) N = U at X1 step f1 f2 fo fi
  rw [hTs] at f1 f2
  have fo2 : ∀ q : Nat, q < H.size → U.heap[q]? = H[q]? := fun q h => (fo q (by rw [hTs, ← hsz']; exact h)).trans (by show T.heap[q]? = _; rw [hT])
  have hH1 : RepH Γ (o + 1 + N, f) (newG m o N) U.heap := by
    refine ⟨hlt, fun i x hx => ?_⟩
    have hi : i < o + 1 + N := by
      have := (List.getElem?_eq_some_iff.mp hx).1
      rw [wcl_len] at this
      exact this
    rw [wcl_at (S := (o + 1 + N, f)) hi] at hx
    cases hx
    rcases (show i < o ∨ i = o ∨ o < i by omega) with h | h | h
    · show va_at (gD Γ) vwCl (gB Γ + i, cE Γ (o, f) (newG m o N) i) U.heap
      rw [cE_newG_ne h]
      exact (hH.2 i _ (wcl_at (S := (o, f)) h)).kept (fo2 (gB Γ + i) (by omega))
    · subst h
      show va_at (gD Γ) vwCl (gB Γ + i, cE Γ (i, f) (newG m i N) i) U.heap
      rw [cE_ref (t := 15) (len := N) hs (by omega)]
      show U.heap[gB Γ + i]? = some (vp_cell (gC Γ 3) (N, .inr (.inr (.inr (.inr (fun j => ((newG m i N).2 i j).map (adr Γ)))))))
      rw [vp_cell_q, f2, outer_arr]
      congr 2
      funext j
      simp only [newG, if_true]
      by_cases hj : j < N
      · rw [if_pos hj, if_pos hj]
        show Value.ref (gB Γ + i + 1 + j) = Value.ref (adr Γ (i + 1 + j))
        have ej : adr Γ (i + 1 + j) = gB Γ + i + 1 + j := by
          unfold adr
          rw [if_pos (by omega)]
          omega
        rw [ej]
      · rw [if_neg hj, if_neg hj]
        rfl
    · obtain ⟨j, rfl⟩ : ∃ j, i = o + 1 + j := ⟨i - (o + 1), by omega⟩
      have hj : j < N := by omega
      show va_at (gD Γ) vwCl (gB Γ + (o + 1 + j), cE Γ (o, f) (newG m o N) (o + 1 + j)) U.heap
      rw [cE_arr (t := 12) (len := K) (hs1 j hj) (by omega) (by omega)]
      show U.heap[gB Γ + (o + 1 + j)]? = some (vp_cell (gC Γ 0) (K, .inl (fun i => iz ((newG m o N).1 (o + 1 + j) i))))
      have fj := fi j hj
      rw [hTs] at fj
      rw [vp_cell_i, show gB Γ + (o + 1 + j) = gB Γ + o + 1 + j by omega, fj]
      show some ({ cls := gC Γ 0, slots := Array.replicate K (defaultValue .int), vm := .none } : Cell) = _
      rw [arrV_new]
      congr 2
      funext i
      simp only [newG]
      rw [if_pos (by omega)]
      rfl
  have e1 : tr Γ (vr o) = .ref T.heap.size := by rw [tr_ref hH1 (by show o < o + 1 + N; omega), hT, hsz']
  obtain ⟨t, a1, b1⟩ := kk p e s mi args below meth c U.heap locs ls hc (by show s.heap.size + (k + 1 + N) = gB Γ + (o + 1 + N); omega) (hS.grow (by omega) fo2) hH1 hl U rfl X1
  have a2 : Steps p.tables e below (U.setTop (F0 mi (pc + 4) ls (.ref T.heap.size :: st.map (tr Γ)))) t := by
    rw [← e1]
    exact a1
  exact ⟨t, step t a2, b1⟩
end MANEW
