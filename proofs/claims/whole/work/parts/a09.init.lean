/-! behind both constructors -/
def I0 : Nat → Im := fun _ => (false, BkZ, ch0)
def S0 : Nat → Sht := fun _ => (-1, 0, fun _ => 0)
theorem mkP_lo : ∀ a, a < 113 → ∀ k, k < 36 → (match mkP (4, 17, none, none, none, none) a k with | none => true | some r => decide ((a, k, r) ∈ P10 ++ P11)) = true := by decide +kernel
theorem mkP_hi {a k : Nat} (h : 36 ≤ k) : mkP (4, 17, none, none, none, none) a k = none := by
  have e : ∀ c, c < 36 → (k = c) = False := fun c hc => eq_false (by omega)
  unfold mkP
  simp only [e 0 (by decide), e 1 (by decide), e 2 (by decide), e 3 (by decide), e 4 (by decide), e 5 (by decide), e 6 (by decide), e 7 (by decide), e 8 (by decide), e 9 (by decide), e 10 (by decide), e 11 (by decide), e 12 (by decide), e 13 (by decide), e 14 (by decide), e 15 (by decide), e 16 (by decide), e 17 (by decide), e 18 (by decide), e 19 (by decide), e 20 (by decide), e 21 (by decide), e 22 (by decide), e 23 (by decide), e 24 (by decide), e 25 (by decide), e 26 (by decide), e 27 (by decide), e 28 (by decide), e 29 (by decide), e 30 (by decide), e 31 (by decide), e 32 (by decide), e 33 (by decide), e 34 (by decide), e 35 (by decide), if_false, ite_self]
theorem P10_lt : ∀ t ∈ P10, t.1 < 96 := by decide +kernel
theorem V10_lt : ∀ t ∈ V10, t.1 < 96 := by decide +kernel
theorem V98 : ∀ j, j < 13 → (98, j, cuL.getD j 0) ∈ V11 := by decide +kernel
theorem V99 : ∀ j, j < 60 → (99, j, leL.getD j 0) ∈ V11 := by decide +kernel
theorem V100 : ∀ j, j < 11 → (100, j, plL.getD j 0) ∈ V11 := by decide +kernel
theorem V101 : ∀ j, j < 11 → (101, j, plL.getD j 0) ∈ V11 := by decide +kernel
theorem V110 : ∀ j, j < 4 → (110, j, (-4 : Int)) ∈ V11 := by decide +kernel
section
variable {m m' m'' : Mem}
theorem pt_at {l : List (Nat × Nat × Nat)} (h : ptK l m) {t : Nat × Nat × Nat} (ht : t ∈ l) : m.2 t.1 t.2.1 = some t.2.2 := of_decide_eq_true (List.all_eq_true.mp h t ht)
theorem vl_at {l : List (Nat × Nat × Int)} (h : vlK l m) {t : Nat × Nat × Int} (ht : t ∈ l) : m.1 t.1 t.2.1 = t.2.2 := of_decide_eq_true (List.all_eq_true.mp h t ht)
theorem Fz.tr (h : Fz m m') (h' : Fz m' m'') : Fz m m'' := fun a k q => ⟨(h' a k q).1.trans (h a k q).1, (h' a k q).2.trans (h a k q).2⟩
theorem init_PO (h10 : K10 m) (hf : Fz m m') (h11 : K11 m') : PO 4 17 m' := ⟨Or.inl ⟨rfl, rfl⟩, fun a k r q => by
  by_cases ha : a < 113
  · by_cases hk : k < 36
    · have h := mkP_lo a ha k hk
      rw [q] at h
      have hm := of_decide_eq_true h
      rcases List.mem_append.mp hm with h1 | h1
      · rw [(hf a k (P10_lt _ h1)).2]
        exact pt_at h10.1 h1
      · exact pt_at h11.1 h1
    · rw [mkP_hi (by omega)] at q; cases q
  · unfold mkP at q
    rw [if_neg ha] at q
    cases q⟩
theorem ch0_ok : ChOk ch0 := fun c hc => ⟨(show (0 : Int) ≤ 0 by decide), (show (0 : Int) < 4096 by decide), (show (0 : Int) ≤ 0 by decide), (show (0 : Int) ≤ 89 by decide), (show (0 : Int) ≤ 89 by decide), (show (89 : Int) ≤ 89 by decide), (show (0 : Int) ≤ 3 by decide), (show (3 : Int) ≤ 3 by decide), (show (0 : Int) ≤ 255 by decide), (show (255 : Int) ≤ 255 by decide)⟩
theorem BkZ_ok (n : Int) : BkOk n BkZ := ⟨by show 0 ≤ 40; decide, fun k hk => by have : k < 0 := hk; omega, fun k hk => by have : k < 2 * 0 := hk; omega⟩
theorem S0_ok (k : Nat) : ShOk (S0 k) := ⟨Or.inl rfl, fun i _ => rg_0⟩
theorem I0_ok (k : Nat) : ImOk (I0 k) := fun q => absurd q (show ¬ false = true by decide)
theorem TpZ_ok : TpOk TpZ := ⟨by show 0 ≤ 320; decide, fun k hk => by have : k < 0 := hk; omega⟩
theorem init_IC (h10 : K10 m) (hf : Fz m m') (h11 : K11 m') : IC L0 BkZ ch0 TpZ 0 I0 S0 0 m' := by
  have v : ∀ t ∈ V10, m'.1 t.1 t.2.1 = t.2.2 := fun t ht => by
    rw [(hf _ _ (V10_lt t ht)).1]
    exact vl_at h10.2.1 ht
  obtain ⟨-, -, c0, c1, c2, c3⟩ := id h10
  have nf : ¬ false = true := by decide
  refine ⟨4, 17, ⟨init_PO h10 hf h11, ⟨v (30, 0, 0) (by decide), fun k hk => by have : k < 0 := hk; omega, fun k hk => by have : k < 2 * 0 := hk; omega⟩, BkZ_ok _, LdU.c ⟨fun k hk => ?_, fun k hk => ?_, fun r hr p hp => by have : (p : Int) < 0 := hp; omega, fun r hr p hp => by have : (p : Int) < 0 := hp; omega⟩ (Or.inl rfl), L0_ok, ⟨⟨v (45, 0, 0) (by decide), v (45, 1, 0) (by decide), v (45, 2, 89) (by decide), v (45, 3, 3) (by decide), v (45, 4, 255) (by decide)⟩, ⟨v (46, 0, 0) (by decide), v (46, 1, 0) (by decide), v (46, 2, 89) (by decide), v (46, 3, 3) (by decide), v (46, 4, 255) (by decide)⟩⟩, ch0_ok, Or.inr (v (41, 0, 1) (by decide)), fun w => ?_⟩, ⟨⟨v (1, 1, 0) (by decide), fun k hk => by have : k < 0 := hk; omega⟩, TpZ_ok⟩, ⟨v (0, 4, 0) (by decide), by decide, by decide⟩, ⟨⟨(v (48, 0, 0) (by decide)).trans (pI_0 nf), fun q => absurd q nf⟩, ⟨(v (62, 0, 0) (by decide)).trans (pI_0 nf), fun q => absurd q nf⟩, I0_ok 0, I0_ok 1⟩, fun k hk => ⟨?_, S0_ok k⟩, v (0, 10, 0) (by decide), by decide, by decide⟩
  · rcases (show k = 0 ∨ k = 1 ∨ k = 2 ∨ k = 3 ∨ k = 4 ∨ k = 5 ∨ k = 6 by omega) with rfl | rfl | rfl | rfl | rfl | rfl | rfl
    · exact v (4, 0, 0) (by decide)
    · exact v (4, 1, 0) (by decide)
    · exact v (4, 2, 11) (by decide)
    · exact v (4, 3, 20) (by decide)
    · exact v (4, 4, 35) (by decide)
    · exact v (4, 5, 0) (by decide)
    · exact v (4, 6, 1) (by decide)
  · rcases (show k = 0 ∨ k = 1 ∨ k = 2 ∨ k = 3 by omega) with rfl | rfl | rfl | rfl
    · exact v (5, 0, 0) (by decide)
    · exact v (5, 1, 1) (by decide)
    · exact v (5, 2, 1) (by decide)
    · exact v (5, 3, 1) (by decide)
  · have h41 : m'.1 41 0 = 1 := v (41, 0, 1) (by decide)
    rw [h41] at w
    exact absurd w (by decide)
  · rcases (show k = 0 ∨ k = 1 ∨ k = 2 ∨ k = 3 by omega) with rfl | rfl | rfl | rfl
    · exact ⟨v (77, 0, -1) (by decide), fun q => absurd q (show ¬ (0 : Int) ≤ -1 by decide), fun i _ => ((hf 78 i (by decide)).1).trans (c0 i)⟩
    · exact ⟨v (79, 0, -1) (by decide), fun q => absurd q (show ¬ (0 : Int) ≤ -1 by decide), fun i _ => ((hf 80 i (by decide)).1).trans (c1 i)⟩
    · exact ⟨v (81, 0, -1) (by decide), fun q => absurd q (show ¬ (0 : Int) ≤ -1 by decide), fun i _ => ((hf 82 i (by decide)).1).trans (c2 i)⟩
    · exact ⟨v (83, 0, -1) (by decide), fun q => absurd q (show ¬ (0 : Int) ≤ -1 by decide), fun i _ => ((hf 84 i (by decide)).1).trans (c3 i)⟩
theorem init_IR (h10 : K10 m) (hf : Fz m m') (h11 : K11 m') : IR L0 BkZ ch0 TpZ 0 I0 S0 0 m' := by
  have hPO := init_PO h10 hf h11
  obtain ⟨-, hv, ⟨a1, a2, a20, a34⟩, h107, h109, h112⟩ := h11
  have nf : ¬ false = true := by decide
  refine ⟨⟨hPO.rp, ⟨fun j hj => vl_at hv (V101 j hj), fun p hp => by have : (p : Int) < 0 := hp; omega, fun p hp => by have : (p : Int) < 0 := hp; omega⟩, L0_ok, ⟨h107 _, fun k hk => by have : k < 0 := hk; omega, fun k hk => by have : k < 2 * 0 := hk; omega⟩, BkZ_ok _, Or.inr ⟨a20, fun c hc j hj => rfl⟩, ch0_ok⟩, ⟨TpZ_ok, ⟨by decide, by decide⟩, fun k _ => I0_ok k, fun k _ => S0_ok k, by decide, by decide⟩, ⟨a1, fun k hk => by have : k < 0 := hk; omega⟩, a2, fun k hk => ⟨(h109 k).trans (pI_0 nf), fun q => absurd q nf, by rw [h107]; decide⟩, fun k hk => ⟨?_, fun q => absurd q (show ¬ (0 : Int) ≤ -1 by decide), fun i _ => h112 _⟩, a34, fun j hj => vl_at hv (V100 j hj), fun j hj => vl_at hv (V98 j hj), fun j hj => vl_at hv (V99 j hj)⟩
  show m'.1 110 k = (if (-1 : Int) < 0 then -4 else 0)
  rw [if_pos (by decide)]
  exact vl_at hv (V110 k hk)
end
