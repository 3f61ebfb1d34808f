/-! the launch's own names: Γ at the law's entry -/
theorem lw_env (l : Launch) {s : State} {b L : Nat} {xs : Nat → Int32} (hts : ∀ w ∈ lw_tbl, w.before #[Value.ref b] s = true) (hX : va_X b L xs s s.heap) (hbl : b < s.heap.size) (hgv : (Jvm.Cond.and given_1 narrow_1).before #[Value.ref b] s = true) : ∃ Γ : GX, Γ.1 = l ∧ gB Γ = s.heap.size ∧ gX Γ = b ∧ gN Γ = L ∧ GOk Γ ∧ EnvS Γ s := by
  have hA : ∀ a : Nat, a < s.heap.size → ¬ (s.heap.size ≤ a) := fun a h => Nat.not_le.mpr h
  have hs : ∀ w ∈ lwF, w.before #[Value.ref b] s = true := flat_of_before _ hgv
  have htw : ∀ w ∈ TW, w.before #[Value.ref b] s = true := fun w hw => hts w (List.mem_filter.mp hw).1
  have hk : ∀ t : Nat, ∃ q : ClassId × (Nat → Nat), t < 12 → u_Kn s (cR t) (cT t) (nF t) q.1 q.2 := fun t => by
    by_cases ht : t < 12
    · obtain ⟨cC, iS, h⟩ := u_known (ws := TW) htw (uw_at ht) (htw _ (inst_at ht))
      exact ⟨(cC, iS), fun _ => h⟩
    · exact ⟨(0, fun _ => 0), fun h => absurd h ht⟩
  obtain ⟨D, hD⟩ := Classical.axiomOfChoice hk
  obtain ⟨c0, k0, p0, i1, i2, i3⟩ := Cond.arrayClass_spec (args := #[Value.ref b]) (first := s) (o := none) (s := s) (idx := []) (htw _ ac_int)
  obtain ⟨c1, k1, p1, b1, b2, b3⟩ := Cond.arrayClass_spec (args := #[Value.ref b]) (first := s) (o := none) (s := s) (idx := []) (htw _ ac_byte)
  obtain ⟨c2, k2, p2, z1, z2, z3⟩ := Cond.arrayClass_spec (args := #[Value.ref b]) (first := s) (o := none) (s := s) (idx := []) (htw _ ac_boolean)
  obtain ⟨p3, c3, k3, a1, -, a3, a4, a5⟩ := arrayOverA_spec (args := #[Value.ref b]) (first := s) (o := none) (s := s) (idx := []) (hts _ ao_A)
  obtain ⟨p4, c4, k4, d1, -, d3, d4, d5⟩ := Cond.arrayOver_spec (args := #[Value.ref b]) (first := s) (o := none) (s := s) (idx := []) (hts _ ao_X1)
  obtain ⟨p5, c5, k5, e1, -, e3, e4, e5⟩ := Cond.arrayOver_spec (args := #[Value.ref b]) (first := s) (o := none) (s := s) (idx := []) (hts _ ao_X2)
  obtain ⟨p6, c6, k6, f1, -, f3, f4, f5⟩ := Cond.arrayOver_spec (args := #[Value.ref b]) (first := s) (o := none) (s := s) (idx := []) (hts _ ao_X7)
  obtain ⟨adK, adV, hVS, hVE⟩ := vk_Sof (args := #[Value.ref b]) (s := s) (N := 12) (tm := tmJ) (len := lenJS) (byt := bytJS) (A := fun q => s.heap.size ≤ q) (fun i hi => by
      have := len_rg i hi
      omega) (fun i hi => hs _ (exJ i hi)) (fun i hi => hs _ (coJ i hi)) (fun i hi => hs _ (arJ i hi)) (fun i hi => hs _ (leJ i hi)) (fun i hi j hj => hs _ (elJ i hi j hj)) (fun i j hi hj hij => (neJ i hi j hj hij).imp (fun h => hs _ h) (fun h => hs _ h)) hA
  refine ⟨(l, (fun t => (D t).1, fun t => (D t).2), fun t => if t = 0 then c0 else if t = 1 then c1 else if t = 2 then c2 else if t = 3 then c3 else if t = 4 then c4 else if t = 5 then c5 else c6, s.heap.size, fun k => if k < 100 then adK k else adV (k - 100), adV, b, L, xs), rfl, rfl, rfl, rfl, fun i hi => ?_, ⟨fun c q hq => ?_, fun k q hq => ?_⟩, fun own ix y host hm => va_Nw.of rfl (hts _ hm), ⟨hts _ ao_A, va_AO.of (hts _ ao_X1), va_AO.of (hts _ ao_X2), va_AO.of (hts _ ao_X7)⟩, ⟨fun i hi => ?_, fun i j hi hj e => ?_⟩, fun i hi => ?_, va_Zof (hts _ ls_COMPACT_STRINGS) (htw _ ini_J0) (va_eqt (hs _ csJ)) hA, va_Zqof (hts _ ls_SIOOBE_FORMATTER) (htw _ ini_J3) (hs _ sfJ) hA, hX, Nat.not_le.mpr hbl, hbl, Nat.le_refl _⟩
  · show (if 100 + i < 100 then adK (100 + i) else adV (100 + i - 100)) = adV i
    rw [if_neg (by omega), show 100 + i - 100 = i by omega]
  · have hc : c < 12 := (List.getElem?_eq_some_iff.mp hq).1
    rw [vw_at hc] at hq
    cases hq
    exact hD c hc
  · have hc : k < 7 := (List.getElem?_eq_some_iff.mp hq).1
    rcases (show k = 0 ∨ k = 1 ∨ k = 2 ∨ k = 3 ∨ k = 4 ∨ k = 5 ∨ k = 6 by omega) with rfl | rfl | rfl | rfl | rfl | rfl | rfl
    · cases hq; exact ⟨fun n z => ⟨fun k h => (by cases h), k0, i2, p0, i3⟩, i1⟩
    · cases hq; exact ⟨fun n z => ⟨fun k h => (by cases h), k1, b2, p1, b3⟩, b1⟩
    · cases hq; exact ⟨fun n z => ⟨fun k h => (by cases h), k2, z2, p2, z3⟩, z1⟩
    · cases hq; exact ⟨fun n z => ⟨fun k h => (by cases h), k3, a3, p3, a4⟩, a5⟩
    · cases hq; exact ⟨fun n z => ⟨fun k h => (by cases h), k4, d3, p4, d4⟩, k4, p4, d3, d4, d1, d5⟩
    · cases hq; exact ⟨fun n z => ⟨fun k h => (by cases h), k5, e3, p5, e4⟩, k5, p5, e3, e4, e1, e5⟩
    · cases hq; exact ⟨fun n z => ⟨fun k h => (by cases h), k6, f3, p6, f4⟩, k6, p6, f3, f4, f1, f5⟩
  · have hv := hVS.1 i hi
    rw [show adK i = (if i < 100 then adK i else adV (i - 100)) by rw [if_pos (by omega)]] at hv
    exact hv
  · refine hVS.2 i j hi hj ?_
    have e2 : (if i < 100 then adK i else adV (i - 100)) = (if j < 100 then adK j else adV (j - 100)) := e
    rw [if_pos (by omega), if_pos (by omega)] at e2
    exact e2
  · refine vk_R.of (A := #[Value.ref b]) (hts _ (srJS i hi)) ?_
    show (tmJ i).eval #[Value.ref b] s none [] s = some (.ref (if i < 100 then adK i else adV (i - 100)))
    rw [if_pos (by omega)]
    exact hVE i hi
