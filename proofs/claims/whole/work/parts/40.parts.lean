section
variable {Γ : GX} {M : MD} {rm : Room} {mc ms : Nat} {Q : Option AV → Shp → Mem → Prop} {k n pc : Nat} {loc : List (Option AV)} {st : List AV} {S : Shp} {m : Mem}
theorem R_ldcw {ix : Nat} {v : Int32} (z : Int) (q : Nat) (hq : pc + 3 = q) (hd : decode M.2.1 pc = .ok (.ldc_w ix, 3)) (hw : Cond.constant M.1.cls ix v ∈ TW) (hz : iz z = v) (kk : R Γ M rm mc ms Q k n q loc (vi z :: st) S m) : R Γ M rm mc ms Q k n pc loc st S m := by
  subst hq
  intro p e s mi args below meth c H locs ls hc hZ hS hH hl
  exact lv_ldcw hc.1 hc.2.1 hc.2.2.2.2.2.1 (hz ▸ hc.2.2.2.2.2.2.1 _ hw) hd (kk p e s mi args below meth c H locs ls hc hZ hS hH hl)
end
/-! worth -/
def wD (mk : Nat → Int) : Int := mk 3 * mk 2 * mk 1 * mk 0
def wN (mk ab : Nat → Int) : Int := ab 3 * (mk 2 * mk 1 * mk 0) + -ab 2 * (mk 3 * mk 1 * mk 0) + -ab 1 * (mk 3 * mk 2 * mk 0) + ab 0 * (mk 3 * mk 2 * mk 1)
def wth (mk ab : Nat → Int) (w : Int) : Int := if mk 0 = 0 ∨ mk 1 = 0 ∨ mk 2 = 0 ∨ mk 3 = 0 then -1000004 else if w % 2 = 0 then rT (wN mk ab) (wD mk) else rB (wN mk ab) (wD mk)
def a_worth (L : Ld) (B : Bk) (ch : Cs) (kn yr w : Int) : Int := if (0 ≤ kn ∧ kn ≤ 1) ∧ (0 ≤ yr ∧ yr ≤ 89) ∧ (0 ≤ w ∧ w ≤ 1) then wth (qtM L B ch kn.toNat yr) (qtB L B ch kn.toNat yr) w else -1000000
theorem qt_rg (L : Ld) (B : Bk) (ch : Cs) (kn : Nat) (yr : Int) (hB : B.1 ≤ 40) (g : Nat) : 0 ≤ qtM L B ch kn yr g ∧ qtM L B ch kn yr g ≤ 80 ∧ 0 ≤ qtB L B ch kn yr g ∧ qtB L B ch kn yr g ≤ 80 := by
  have h1 := cnt_le (qtP L B ch kn yr g) (2 * B.1)
  have h2 := cnt_le (qtQ L B ch kn yr g) (2 * B.1)
  unfold qtM qtB; omega
theorem w_bd {a b c : Int} (ha : 0 < a ∧ a ≤ 80) (hb : 0 < b ∧ b ≤ 80) (hc : 0 < c ∧ c ≤ 80) : 0 < a * b * c ∧ a * b * c ≤ 512000 := by
  have h1 := Int.mul_pos (Int.mul_pos ha.1 hb.1) hc.1
  have h2 := mulb (mulb (x := a) (y := b) (X := 80) (Y := 80) (by omega) (by omega)) (y := c) (Y := 80) (by omega)
  omega
theorem w_t {t q : Int} (ht : 0 ≤ t ∧ t ≤ 80) (hq : 0 < q ∧ q ≤ 512000) : 0 ≤ t * q ∧ t * q ≤ 40960000 := by
  have := mulb (x := t) (y := q) (X := 80) (Y := 512000) (by omega) (by omega)
  omega
/-! parts -/
def ptD (B : Bk) (ch : Cs) (gr : Int) : Int := 2 * tgN B ch 0 * tgN B ch 1 * (ptX B ch gr : Int)
def pM (L : Ld) (B : Bk) (ch : Cs) (gr : Int) (g : Nat) : Int := pMr (tgM B ch 0 gr) (tgA L B ch 0 gr) (tgM B ch 1 gr) (tgA L B ch 1 gr) (tgN B ch 0) (tgN B ch 1) g
def pB (L : Ld) (B : Bk) (ch : Cs) (gr : Int) (g : Nat) : Int := pBt (tgM B ch 0 gr) (tgA L B ch 0 gr) (tgM B ch 1 gr) (tgA L B ch 1 gr) (tgN B ch 0) (tgN B ch 1) g
def pV (B : Bk) (ch : Cs) (gr : Int) (g : Nat) : Int := pDn (tgM B ch 0 gr) (tgM B ch 1 gr) (tgN B ch 0) (tgN B ch 1) g
def ptA (L : Ld) (B : Bk) (ch : Cs) (gr w : Int) (g : Nat) : Int := if w < 2 ∨ 4 ≤ w then pM L B ch gr g * (ptD B ch gr / pV B ch gr g) else 0
def ptB (L : Ld) (B : Bk) (ch : Cs) (gr w : Int) (g : Nat) : Int := if 2 ≤ w then pB L B ch gr g * (ptD B ch gr / pV B ch gr g) else 0
def ptN (L : Ld) (B : Bk) (ch : Cs) (gr w : Int) (n : Nat) : Int := sumN (fun g => ptA L B ch gr w g + ptB L B ch gr w g) n
def a_parts (L : Ld) (B : Bk) (ch : Cs) (gr w : Int) : Int := if (0 ≤ gr ∧ gr ≤ 3) ∧ (0 ≤ w ∧ w ≤ 5) then (if tgN B ch 0 = 0 ∨ tgN B ch 1 = 0 then -4 else if w % 2 = 0 then rT (ptN L B ch gr w 15) (ptD B ch gr) else rB (ptN L B ch gr w 15) (ptD B ch gr)) else -1
/-! enough -/
def needd (W a b : Int) : Int := W - W * a / b
theorem needd_rg {W a b : Int} (h0 : 0 ≤ W) (h1 : W ≤ 11988) (hb : 1 ≤ b) (ha : 0 ≤ a ∧ a ≤ b) : 0 ≤ needd W a b ∧ needd W a b ≤ 12000 := by
  have h2 : 0 ≤ W * a / b := Int.ediv_nonneg (Int.mul_nonneg h0 ha.1) (by omega)
  have h3 : W * a / b ≤ W := by
    have := Int.mul_le_mul_of_nonneg_left ha.2 h0
    have h4 : W * a / b ≤ W * b / b := Int.ediv_le_ediv (by omega) this
    rw [Int.mul_ediv_cancel _ (by omega)] at h4
    exact h4
  unfold needd; omega
def a_enough (L : Ld) (B : Bk) (ch : Cs) (a b w : Int) : Int := if (1 ≤ b ∧ b ≤ 999) ∧ (0 ≤ a ∧ a ≤ b) ∧ (0 ≤ w ∧ w ≤ 1) then (if sumN (L.2.1 0) (npN L) = 0 then -4 else if fwB (tgM B ch 0 0) (L.2.1 0) (npN L) (needd (sumN (L.2.1 0) (npN L)) a b) < 0 then -4 else if w = 0 then fwB (tgM B ch 0 0) (L.2.1 0) (npN L) (needd (sumN (L.2.1 0) (npN L)) a b) else (lbG (tgM B ch 0 0) (L.2.1 0) (npN L) 0 (fwB (tgM B ch 0 0) (L.2.1 0) (npN L) (needd (sumN (L.2.1 0) (npN L)) a b)) (needd (sumN (L.2.1 0) (npN L)) a b) : Int)) else -1
section
variable {B : Bk} {L : Ld} {ch : Cs} {gr : Int}
theorem tgN_rg {np : Int} (hO : BkOk np B) (c : Nat) : 0 ≤ tgN B ch c ∧ tgN B ch c ≤ 80 := by
  have := cnt_le (inC B ch c) (2 * B.1)
  have := hO.1
  unfold tgN; omega
theorem tgM_N (c g : Nat) : 0 ≤ tgM B ch c gr g ∧ tgM B ch c gr g ≤ tgN B ch c := by
  have : cnt (tgP B ch c gr g) (2 * B.1) ≤ cnt (inC B ch c) (2 * B.1) := cnt_mono (fun k hk q => by simp [tgP] at q; exact q.1)
  unfold tgM tgN; omega
theorem ptD_rg {np : Int} (hO : BkOk np B) (hg : 0 ≤ gr ∧ gr ≤ 3) (h0 : tgN B ch 0 ≠ 0) (h1 : tgN B ch 1 ≠ 0) : 0 < ptD B ch gr ∧ ptD B ch gr ≤ 270848000000000000 := by
  have a0 := tgN_rg (ch := ch) hO 0
  have a1 := tgN_rg (ch := ch) hO 1
  have x0 := lcmU_pos (ddN B ch gr) 15
  have x1 := ptX_le (ch := ch) hO hg
  have x2 : 0 < ptX B ch gr := x0
  have b1 := mulb (mulb (x := 2 * tgN B ch 0) (y := tgN B ch 1) (X := 160) (Y := 80) (by omega) (by omega)) (y := (ptX B ch gr : Int)) (Y := 21160000000000) (by omega)
  have b2 : 0 < 2 * tgN B ch 0 * tgN B ch 1 * (ptX B ch gr : Int) := Int.mul_pos (Int.mul_pos (by omega) (by omega)) (by omega)
  unfold ptD
  omega
theorem oE_N (x a b : Nat) : oE (x : Int) (a : Int) (b : Int) = ((oN x a b : Nat) : Int) := by unfold oE oN; split <;> split <;> first | rfl | omega
theorem pV_eq (g : Nat) : pV B ch gr g = 2 * tgN B ch 0 * tgN B ch 1 * (ddN B ch gr g : Int) := by
  unfold pV pDn pD0 ddN
  rw [tgM_n, tgM_n, oE_N, oE_N, Int.natCast_mul, ← Int.mul_assoc]
theorem pV_dv {g : Nat} (hg : g < 15) (h0 : tgN B ch 0 ≠ 0) (h1 : tgN B ch 1 ≠ 0) : pV B ch gr g = 0 ∨ 0 < pV B ch gr g ∧ pV B ch gr g ∣ ptD B ch gr := by
  rw [pV_eq]
  by_cases e : ddN B ch gr g = 0
  · left; rw [e]; simp
  · right
    have p0 : 0 ≤ tgN B ch 0 := by unfold tgN; omega
    have p1 : 0 ≤ tgN B ch 1 := by unfold tgN; omega
    refine ⟨Int.mul_pos (Int.mul_pos (by omega) (by omega)) (by omega), ?_⟩
    unfold ptD
    exact Int.mul_dvd_mul_left _ (Int.ofNat_dvd.mpr (lcmU_dvd hg e))
theorem oE_le {x a b c : Int} (ha : x ≤ 0 → b ≤ c) (hb : 0 < x → a ≤ c) : oE x a b ≤ c := by unfold oE; split; exact hb (by assumption); exact ha (by omega)
/-- a term is no more than one whole -/
theorem frac_le {T V D : Int} (hD : 0 < D) (hV : V = 0 ∨ 0 < V ∧ V ∣ D) (hT : -V ≤ T ∧ T ≤ V) : -D ≤ T * (D / V) ∧ T * (D / V) ≤ D := by
  rcases hV with h | ⟨h, q, hq⟩
  · rw [h, Int.ediv_zero, Int.mul_zero]; omega
  · have e : D / V = q := by rw [hq]; exact Int.mul_ediv_cancel_left _ (by omega)
    have hq0 : 0 ≤ q := by
      rcases (show 0 ≤ q ∨ q < 0 by omega) with h2 | h2
      · exact h2
      · have := Int.mul_neg_of_pos_of_neg h h2; omega
    rw [e]
    have h2 := Int.mul_le_mul_of_nonneg_right hT.2 hq0
    have h3 := Int.mul_le_mul_of_nonneg_right hT.1 hq0
    rw [← hq] at h2
    rw [Int.neg_mul, ← hq] at h3
    exact ⟨h3, h2⟩
theorem term_le (hm0 : ∀ c, 0 ≤ tgN B ch c) (g : Nat) : (-pV B ch gr g ≤ pM L B ch gr g ∧ pM L B ch gr g ≤ pV B ch gr g) ∧ (-pV B ch gr g ≤ pB L B ch gr g ∧ pB L B ch gr g ≤ pV B ch gr g) := by
  have n0 := hm0 0
  have n1 := hm0 1
  have m0 := tgM_N (B := B) (ch := ch) (gr := gr) 0 g
  have m1 := tgM_N (B := B) (ch := ch) (gr := gr) 1 g
  have a0 := tgA_le L B ch 0 gr g
  have a1 := tgA_le L B ch 1 gr g
  unfold pV pM pB pDn pMr pBt
  have u0 : 0 ≤ pU0 (tgM B ch 0 gr) (tgA L B ch 0 gr) (tgA L B ch 1 gr) g ∧ pU0 (tgM B ch 0 gr) (tgA L B ch 0 gr) (tgA L B ch 1 gr) g ≤ pD0 (tgM B ch 0 gr) (tgM B ch 1 gr) g := by
    unfold pU0 pD0 oE; split <;> omega
  have u1 : 0 ≤ pU0 (tgM B ch 1 gr) (tgA L B ch 1 gr) (tgA L B ch 0 gr) g ∧ pU0 (tgM B ch 1 gr) (tgA L B ch 1 gr) (tgA L B ch 0 gr) g ≤ pD0 (tgM B ch 1 gr) (tgM B ch 0 gr) g := by
    unfold pU0 pD0 oE; split <;> omega
  generalize pU0 (tgM B ch 0 gr) (tgA L B ch 0 gr) (tgA L B ch 1 gr) g = x0 at u0 ⊢
  generalize pU0 (tgM B ch 1 gr) (tgA L B ch 1 gr) (tgA L B ch 0 gr) g = x1 at u1 ⊢
  generalize pD0 (tgM B ch 0 gr) (tgM B ch 1 gr) g = d0 at u0 ⊢
  generalize pD0 (tgM B ch 1 gr) (tgM B ch 0 gr) g = d1 at u1 ⊢
  generalize tgM B ch 0 gr g = w0 at m0 a0 ⊢
  generalize tgM B ch 1 gr g = w1 at m1 a1 ⊢
  generalize tgN B ch 0 = k0 at n0 m0 ⊢
  generalize tgN B ch 1 = k1 at n1 m1 ⊢
  have b1 := mulb (x := w1) (y := k0) (X := k1) (Y := k0) m1 ⟨n0, Int.le_refl _⟩
  have b2 := mulb (x := w0) (y := k1) (X := k0) (Y := k1) m0 ⟨n1, Int.le_refl _⟩
  have b3 := mulb (x := x0) (y := d1) (X := d0) (Y := d1) u0 ⟨by omega, Int.le_refl _⟩
  have b4 := mulb (x := x1) (y := d0) (X := d1) (Y := d0) u1 ⟨by omega, Int.le_refl _⟩
  have e1 : k1 * k0 = k0 * k1 := Int.mul_comm _ _
  have e2 : d1 * d0 = d0 * d1 := Int.mul_comm _ _
  have e3 : 2 * k0 * k1 * d0 * d1 = 2 * (k0 * k1 * (d0 * d1)) := by simp only [Int.mul_assoc]
  rw [e3]
  generalize k0 * k1 = K at *
  generalize d0 * d1 = Dd at *
  generalize w1 * k0 = A at *
  generalize w0 * k1 = Bq at *
  generalize x0 * d1 = X at *
  generalize x1 * d0 = Y at *
  have hK : 0 ≤ K := by omega
  have hDd : 0 ≤ Dd := by omega
  have key : ∀ u v U V : Int, -U ≤ u → u ≤ U → -V ≤ v → v ≤ V → 0 ≤ U → 0 ≤ V → -(U * V) ≤ u * v ∧ u * v ≤ U * V := by
    intro u v U V h1 h2 h3 h4 h5 h6
    rcases (show 0 ≤ u ∨ u < 0 by omega) with q | q
    · have t1 : u * v ≤ u * V := Int.mul_le_mul_of_nonneg_left h4 q
      have t2 : u * V ≤ U * V := Int.mul_le_mul_of_nonneg_right h2 h6
      have t3 : u * -V ≤ u * v := Int.mul_le_mul_of_nonneg_left h3 q
      rw [Int.mul_neg] at t3
      omega
    · have t1 : (-u) * v ≤ (-u) * V := Int.mul_le_mul_of_nonneg_left h4 (by omega)
      have t2 : (-u) * V ≤ U * V := Int.mul_le_mul_of_nonneg_right (by omega) h6
      have t3 : (-u) * -V ≤ (-u) * v := Int.mul_le_mul_of_nonneg_left h3 (by omega)
      rw [Int.mul_neg] at t3
      rw [Int.neg_mul] at t1
      rw [Int.neg_mul u v] at t3
      omega
  have k1' := key (A - Bq) (X + Y) K (2 * Dd) (by omega) (by omega) (by omega) (by omega) hK (by omega)
  have k2' := key (A + Bq) (Y - X) (2 * K) Dd (by omega) (by omega) (by omega) (by omega) (by omega) hDd
  have f1 : K * (2 * Dd) = 2 * (K * Dd) := by rw [Int.mul_left_comm]
  have f2 : 2 * K * Dd = 2 * (K * Dd) := Int.mul_assoc _ _ _
  rw [f1] at k1'
  rw [f2] at k2'
  exact ⟨k1', k2'⟩
theorem pt_rg {np : Int} (hO : BkOk np B) (hg : 0 ≤ gr ∧ gr ≤ 3) (h0 : tgN B ch 0 ≠ 0) (h1 : tgN B ch 1 ≠ 0) (w : Int) (k : Nat) (hk : k ≤ 15) : -(2 * k * ptD B ch gr) ≤ ptN L B ch gr w k ∧ ptN L B ch gr w k ≤ 2 * k * ptD B ch gr ∧ (k < 15 → (-ptD B ch gr ≤ ptA L B ch gr w k ∧ ptA L B ch gr w k ≤ ptD B ch gr) ∧ (-ptD B ch gr ≤ ptB L B ch gr w k ∧ ptB L B ch gr w k ≤ ptD B ch gr)) := by
  have hD := ptD_rg hO hg h0 h1
  have ht : ∀ k, k < 15 → (-ptD B ch gr ≤ ptA L B ch gr w k ∧ ptA L B ch gr w k ≤ ptD B ch gr) ∧ (-ptD B ch gr ≤ ptB L B ch gr w k ∧ ptB L B ch gr w k ≤ ptD B ch gr) := fun k hk => by
    have t := term_le (L := L) (B := B) (ch := ch) (gr := gr) (fun c => (tgN_rg hO c).1) k
    have v := pV_dv (gr := gr) hk h0 h1
    have f1 := frac_le hD.1 v t.1
    have f2 := frac_le hD.1 v t.2
    unfold ptA ptB
    constructor
    · split <;> omega
    · split <;> omega
  have hs : ∀ k : Nat, k ≤ 15 → -(2 * k * ptD B ch gr) ≤ ptN L B ch gr w k ∧ ptN L B ch gr w k ≤ 2 * k * ptD B ch gr := by
    intro k
    induction k with
    | zero => intro _; simp [ptN, sumN]
    | succ k ih =>
      intro hk
      have i1 := ih (by omega)
      have i2 := ht k (by omega)
      have e : ptN L B ch gr w (k + 1) = ptN L B ch gr w k + (ptA L B ch gr w k + ptB L B ch gr w k) := rfl
      have e2 : (2 * ((k + 1 : Nat) : Int)) * ptD B ch gr = 2 * (k : Int) * ptD B ch gr + 2 * ptD B ch gr := by
        rw [← Int.add_mul]; congr 1
      rw [e, e2]
      omega
  exact ⟨(hs k hk).1, (hs k hk).2, fun h => ht k h⟩
end
section
variable {Γ : GX} {m : Mem} {B : Bk} {L : Ld} {ch : Cs} {o d : Nat}
theorem c_X10_worth (kn yr w : Int) (hCS : CS o d L B ch m) (hkn : rg kn) (hyr : rg yr) (hw : rg w) : C Γ mX10_worth 6 240 0 0 [vr 0, vi kn, vi yr, vi w] SH m (QA o d L B ch m (a_worth L B ch kn yr w)) := by
  refine C_of_R rfl (Nat.le_of_ble_eq_true rfl) ?_
  have hr := qt_rg L B ch kn.toNat yr hCS.2.2.1.1
  have Lp : ∀ k, k ≤ 4 → ∀ mm z, ((0 ≤ kn ∧ kn ≤ 1) ∧ (0 ≤ yr ∧ yr ≤ 89) ∧ (0 ≤ w ∧ w ≤ 1)) → Fs m mm → CS o d L B ch mm → Tl 88 89 90 mm (qtM L B ch kn.toNat yr) (qtB L B ch kn.toNat yr) (tgN B ch 0) → (∀ j, j < k → qtM L B ch kn.toNat yr j ≠ 0) → z = (k : Int) → R Γ mX10_worth { frames := 6, cells := 0, slots := 0, locals := 240 } 0 0 (QA o d L B ch m (a_worth L B ch kn yr w)) 0 0 41 [some (vr 0), some (vi kn), some (vi yr), some (vi w), some (vi z)] [] SH mm := by
    refine up_ind 4 (fun k hk ih mm z hbad hf hCS hT h0 hz => ?_)
    have hPO := hCS.1
    have hP := hPO.2
    have ea : a_worth L B ch kn yr w = wth (qtM L B ch kn.toNat yr) (qtB L B ch kn.toNat yr) w := if_pos hbad
    refine R_iload 43 rfl dX10_worth_41 rfl ?_
    refine R_iconst 44 rfl dX10_worth_43 ?_
    refine R_icmp_ge 47 70 rfl rfl dX10_worth_44 (by first | assumption | exact ⟨by omega, by omega⟩) (by first | assumption | exact ⟨by omega, by omega⟩) (fun h44 => ?_) (fun h44 => ?_)
    · have g0 := h0 0 (by omega)
      have g1 := h0 1 (by omega)
      have g2 := h0 2 (by omega)
      have g3 := h0 3 (by omega)
      have v0 := hr 0
      have v1 := hr 1
      have v2 := hr 2
      have v3 := hr 3
      have D0 := w_bd (a := qtM L B ch kn.toNat yr 3) (b := qtM L B ch kn.toNat yr 2) (c := qtM L B ch kn.toNat yr 1) (by omega) (by omega) (by omega)
      have D2 := w_bd (a := qtM L B ch kn.toNat yr 3) (b := qtM L B ch kn.toNat yr 2) (c := qtM L B ch kn.toNat yr 0) (by omega) (by omega) (by omega)
      have D3 := w_bd (a := qtM L B ch kn.toNat yr 3) (b := qtM L B ch kn.toNat yr 1) (c := qtM L B ch kn.toNat yr 0) (by omega) (by omega) (by omega)
      have D4 := w_bd (a := qtM L B ch kn.toNat yr 2) (b := qtM L B ch kn.toNat yr 1) (c := qtM L B ch kn.toNat yr 0) (by omega) (by omega) (by omega)
      have D1 : 0 < wD (qtM L B ch kn.toNat yr) ∧ wD (qtM L B ch kn.toNat yr) ≤ 40960000 := by
        have := mulb (x := qtM L B ch kn.toNat yr 3 * qtM L B ch kn.toNat yr 2 * qtM L B ch kn.toNat yr 1) (y := qtM L B ch kn.toNat yr 0) (X := 512000) (Y := 80) (by omega) (by omega)
        have h2 := Int.mul_pos D0.1 (show 0 < qtM L B ch kn.toNat yr 0 by omega)
        unfold wD; omega
      have T0 := w_t (t := qtB L B ch kn.toNat yr 0) (by omega) D0
      have T1 := w_t (t := qtB L B ch kn.toNat yr 1) (by omega) D2
      have T2 := w_t (t := qtB L B ch kn.toNat yr 2) (by omega) D3
      have T3 := w_t (t := qtB L B ch kn.toNat yr 3) (by omega) D4
      have T1n : -qtB L B ch kn.toNat yr 1 * (qtM L B ch kn.toNat yr 3 * qtM L B ch kn.toNat yr 2 * qtM L B ch kn.toNat yr 0) = -(qtB L B ch kn.toNat yr 1 * (qtM L B ch kn.toNat yr 3 * qtM L B ch kn.toNat yr 2 * qtM L B ch kn.toNat yr 0)) := Int.neg_mul _ _
      have T2n : -qtB L B ch kn.toNat yr 2 * (qtM L B ch kn.toNat yr 3 * qtM L B ch kn.toNat yr 1 * qtM L B ch kn.toNat yr 0) = -(qtB L B ch kn.toNat yr 2 * (qtM L B ch kn.toNat yr 3 * qtM L B ch kn.toNat yr 1 * qtM L B ch kn.toNat yr 0)) := Int.neg_mul _ _
      refine R_aload_n 71 rfl dX10_worth_70 rfl ?_
      refine R_getP 13 74 rfl dX10_worth_71 rfl rfl fl_X10_88 (hP _ _ _ rfl) ?_
      refine R_aload_n 75 rfl dX10_worth_74 rfl ?_
      refine R_getP 12 78 rfl dX10_worth_75 rfl rfl fl_X10_82 (hP _ _ _ rfl) ?_
      refine R_getP 1 81 rfl dX10_worth_78 rfl rfl fl_X10_244 (hP _ _ _ rfl) ?_
      refine R_iconst 82 rfl dX10_worth_81 ?_
      refine R_iald 3 83 rfl dX10_worth_82 rfl (by first | rfl | omega) (by decide) (by decide) ?_
      refine R_top (b := qtB L B ch kn.toNat yr 3) (hT.2 3 (by omega)).2 ?_
      refine R_i2l 84 rfl dX10_worth_83 (by first | assumption | exact ⟨by omega, by omega⟩) ?_
      refine R_aload_n 85 rfl dX10_worth_84 rfl ?_
      refine R_getP 12 88 rfl dX10_worth_85 rfl rfl fl_X10_82 (hP _ _ _ rfl) ?_
      refine R_getP 0 91 rfl dX10_worth_88 rfl rfl fl_X10_242 (hP _ _ _ rfl) ?_
      refine R_iconst 92 rfl dX10_worth_91 ?_
      refine R_iald 3 93 rfl dX10_worth_92 rfl (by first | rfl | omega) (by decide) (by decide) ?_
      refine R_top (b := qtM L B ch kn.toNat yr 3) (hT.2 3 (by omega)).1 ?_
      refine R_i2l 94 rfl dX10_worth_93 (by first | assumption | exact ⟨by omega, by omega⟩) ?_
      refine R_callV_V (M' := mX6_become) 97 rfl dX10_worth_94 ml_X10_281 kmX6_become im_X6_become se_X6_become rfl ⟨by decide, rfl⟩ (c_X6_becomeR _ _ ⟨by omega, by omega⟩ ⟨by omega, by omega⟩) rfl rfl ⟨Nat.le_of_ble_eq_true rfl, Nat.le_of_ble_eq_true rfl⟩ (Nat.le_of_ble_eq_true rfl) ⟨Nat.le_of_ble_eq_true rfl, Nat.le_of_ble_eq_true rfl⟩ ?_
      rintro m94 h94
      obtain ⟨f94, r94⟩ := h94
      replace hCS := hCS.fr f94 is91_c
      replace hT := hT.fr f94 rfl rfl rfl
      clear hPO hP
      have hPO := hCS.1
      have hP := hPO.2
      have r94b := Rt_re r94 (by omega) D1.1 (show _ = qtB L B ch kn.toNat yr 3 * (qtM L B ch kn.toNat yr 2 * qtM L B ch kn.toNat yr 1 * qtM L B ch kn.toNat yr 0) * _ by unfold wD; rw [Int.mul_assoc (qtB L B ch kn.toNat yr 3), Int.mul_comm (qtM L B ch kn.toNat yr 2 * qtM L B ch kn.toNat yr 1 * qtM L B ch kn.toNat yr 0)]; simp only [Int.mul_assoc])
      refine R_aload_n 98 rfl dX10_worth_97 rfl ?_
      refine R_getP 13 101 rfl dX10_worth_98 rfl rfl fl_X10_88 (hP _ _ _ rfl) ?_
      refine R_aload_n 102 rfl dX10_worth_101 rfl ?_
      refine R_getP 12 105 rfl dX10_worth_102 rfl rfl fl_X10_82 (hP _ _ _ rfl) ?_
      refine R_getP 1 108 rfl dX10_worth_105 rfl rfl fl_X10_244 (hP _ _ _ rfl) ?_
      refine R_iconst 109 rfl dX10_worth_108 ?_
      refine R_iald 2 110 rfl dX10_worth_109 rfl (by first | rfl | omega) (by decide) (by decide) ?_
      refine R_top (b := qtB L B ch kn.toNat yr 2) (hT.2 2 (by omega)).2 ?_
      refine R_ineg 111 rfl dX10_worth_110 ?_
      refine R_i2l 112 rfl dX10_worth_111 (by first | assumption | exact ⟨by omega, by omega⟩) ?_
      refine R_aload_n 113 rfl dX10_worth_112 rfl ?_
      refine R_getP 12 116 rfl dX10_worth_113 rfl rfl fl_X10_82 (hP _ _ _ rfl) ?_
      refine R_getP 0 119 rfl dX10_worth_116 rfl rfl fl_X10_242 (hP _ _ _ rfl) ?_
      refine R_iconst 120 rfl dX10_worth_119 ?_
      refine R_iald 2 121 rfl dX10_worth_120 rfl (by first | rfl | omega) (by decide) (by decide) ?_
      refine R_top (b := qtM L B ch kn.toNat yr 2) (hT.2 2 (by omega)).1 ?_
      refine R_i2l 122 rfl dX10_worth_121 (by first | assumption | exact ⟨by omega, by omega⟩) ?_
      refine R_callV_V (M' := mX6_add) 125 rfl dX10_worth_122 ml_X10_287 kmX6_add im_X6_add se_X6_add rfl ⟨by decide, rfl⟩ (c_X6_addM _ (wD (qtM L B ch kn.toNat yr)) _ (qtM L B ch kn.toNat yr 2) (qtM L B ch kn.toNat yr 3 * qtM L B ch kn.toNat yr 1 * qtM L B ch kn.toNat yr 0) r94b ⟨D1.1, by omega⟩ (by omega) (by unfold wD; simp only [Int.mul_assoc, Int.mul_left_comm]) ⟨by omega, by omega⟩) rfl rfl ⟨Nat.le_of_ble_eq_true rfl, Nat.le_of_ble_eq_true rfl⟩ (Nat.le_of_ble_eq_true rfl) ⟨Nat.le_of_ble_eq_true rfl, Nat.le_of_ble_eq_true rfl⟩ ?_
      rintro m122 h122
      obtain ⟨f122, r122⟩ := h122
      replace hCS := hCS.fr f122 is91_c
      replace hT := hT.fr f122 rfl rfl rfl
      clear hPO hP
      have hPO := hCS.1
      have hP := hPO.2
      refine R_aload_n 126 rfl dX10_worth_125 rfl ?_
      refine R_getP 13 129 rfl dX10_worth_126 rfl rfl fl_X10_88 (hP _ _ _ rfl) ?_
      refine R_aload_n 130 rfl dX10_worth_129 rfl ?_
      refine R_getP 12 133 rfl dX10_worth_130 rfl rfl fl_X10_82 (hP _ _ _ rfl) ?_
      refine R_getP 1 136 rfl dX10_worth_133 rfl rfl fl_X10_244 (hP _ _ _ rfl) ?_
      refine R_iconst 137 rfl dX10_worth_136 ?_
      refine R_iald 1 138 rfl dX10_worth_137 rfl (by first | rfl | omega) (by decide) (by decide) ?_
      refine R_top (b := qtB L B ch kn.toNat yr 1) (hT.2 1 (by omega)).2 ?_
      refine R_ineg 139 rfl dX10_worth_138 ?_
      refine R_i2l 140 rfl dX10_worth_139 (by first | assumption | exact ⟨by omega, by omega⟩) ?_
      refine R_aload_n 141 rfl dX10_worth_140 rfl ?_
      refine R_getP 12 144 rfl dX10_worth_141 rfl rfl fl_X10_82 (hP _ _ _ rfl) ?_
      refine R_getP 0 147 rfl dX10_worth_144 rfl rfl fl_X10_242 (hP _ _ _ rfl) ?_
      refine R_iconst 148 rfl dX10_worth_147 ?_
      refine R_iald 1 149 rfl dX10_worth_148 rfl (by first | rfl | omega) (by decide) (by decide) ?_
      refine R_top (b := qtM L B ch kn.toNat yr 1) (hT.2 1 (by omega)).1 ?_
      refine R_i2l 150 rfl dX10_worth_149 (by first | assumption | exact ⟨by omega, by omega⟩) ?_
      refine R_callV_V (M' := mX6_add) 153 rfl dX10_worth_150 ml_X10_287 kmX6_add im_X6_add se_X6_add rfl ⟨by decide, rfl⟩ (c_X6_addM _ (wD (qtM L B ch kn.toNat yr)) _ (qtM L B ch kn.toNat yr 1) (qtM L B ch kn.toNat yr 3 * qtM L B ch kn.toNat yr 2 * qtM L B ch kn.toNat yr 0) r122 ⟨D1.1, by omega⟩ (by omega) (by unfold wD; simp only [Int.mul_assoc, Int.mul_left_comm]) ⟨by omega, by omega⟩) rfl rfl ⟨Nat.le_of_ble_eq_true rfl, Nat.le_of_ble_eq_true rfl⟩ (Nat.le_of_ble_eq_true rfl) ⟨Nat.le_of_ble_eq_true rfl, Nat.le_of_ble_eq_true rfl⟩ ?_
      rintro m150 h150
      obtain ⟨f150, r150⟩ := h150
      replace hCS := hCS.fr f150 is91_c
      replace hT := hT.fr f150 rfl rfl rfl
      clear hPO hP
      have hPO := hCS.1
      have hP := hPO.2
      refine R_aload_n 154 rfl dX10_worth_153 rfl ?_
      refine R_getP 13 157 rfl dX10_worth_154 rfl rfl fl_X10_88 (hP _ _ _ rfl) ?_
      refine R_aload_n 158 rfl dX10_worth_157 rfl ?_
      refine R_getP 12 161 rfl dX10_worth_158 rfl rfl fl_X10_82 (hP _ _ _ rfl) ?_
      refine R_getP 1 164 rfl dX10_worth_161 rfl rfl fl_X10_244 (hP _ _ _ rfl) ?_
      refine R_iconst 165 rfl dX10_worth_164 ?_
      refine R_iald 0 166 rfl dX10_worth_165 rfl (by first | rfl | omega) (by decide) (by decide) ?_
      refine R_top (b := qtB L B ch kn.toNat yr 0) (hT.2 0 (by omega)).2 ?_
      refine R_i2l 167 rfl dX10_worth_166 (by first | assumption | exact ⟨by omega, by omega⟩) ?_
      refine R_aload_n 168 rfl dX10_worth_167 rfl ?_
      refine R_getP 12 171 rfl dX10_worth_168 rfl rfl fl_X10_82 (hP _ _ _ rfl) ?_
      refine R_getP 0 174 rfl dX10_worth_171 rfl rfl fl_X10_242 (hP _ _ _ rfl) ?_
      refine R_iconst 175 rfl dX10_worth_174 ?_
      refine R_iald 0 176 rfl dX10_worth_175 rfl (by first | rfl | omega) (by decide) (by decide) ?_
      refine R_top (b := qtM L B ch kn.toNat yr 0) (hT.2 0 (by omega)).1 ?_
      refine R_i2l 177 rfl dX10_worth_176 (by first | assumption | exact ⟨by omega, by omega⟩) ?_
      refine R_callV_V (M' := mX6_add) 180 rfl dX10_worth_177 ml_X10_287 kmX6_add im_X6_add se_X6_add rfl ⟨by decide, rfl⟩ (c_X6_addM _ (wD (qtM L B ch kn.toNat yr)) _ (qtM L B ch kn.toNat yr 0) (qtM L B ch kn.toNat yr 3 * qtM L B ch kn.toNat yr 2 * qtM L B ch kn.toNat yr 1) r150 ⟨D1.1, by omega⟩ (by omega) (by unfold wD; exact Int.mul_comm _ _) ⟨by omega, by omega⟩) rfl rfl ⟨Nat.le_of_ble_eq_true rfl, Nat.le_of_ble_eq_true rfl⟩ (Nat.le_of_ble_eq_true rfl) ⟨Nat.le_of_ble_eq_true rfl, Nat.le_of_ble_eq_true rfl⟩ ?_
      rintro m177 h177
      obtain ⟨f177, r177⟩ := h177
      replace hCS := hCS.fr f177 is91_c
      replace hT := hT.fr f177 rfl rfl rfl
      clear hPO hP
      have hPO := hCS.1
      have hP := hPO.2
      refine R_aload_n 181 rfl dX10_worth_180 rfl ?_
      refine R_getP 13 184 rfl dX10_worth_181 rfl rfl fl_X10_88 (hP _ _ _ rfl) ?_
      refine R_iload_n 185 rfl dX10_worth_184 rfl ?_
      refine R_callV_l (M' := mX6_part) 188 rfl dX10_worth_185 ml_X10_297 kmX6_part im_X6_part se_X6_part rfl ⟨by decide, rfl⟩ (c_X6_part _ (by omega)) rfl rfl ⟨Nat.le_of_ble_eq_true rfl, Nat.le_of_ble_eq_true rfl⟩ (Nat.le_of_ble_eq_true rfl) ⟨Nat.le_of_ble_eq_true rfl, Nat.le_of_ble_eq_true rfl⟩ ?_
      refine R_l2i 189 rfl dX10_worth_188 ?_
      refine R_ireturn dX10_worth_189 rfl ?_
      refine QI_mk ⟨Eq.symm ?_, hf.tr ((((f94.tr f122).tr f150).tr f177).s is91_q), hCS⟩
      have r2 : Rt _ (wN (qtM L B ch kn.toNat yr) (qtB L B ch kn.toNat yr)) (wD (qtM L B ch kn.toNat yr)) := r177
      rw [ea, wth, if_neg (by omega), ← r2.1, ← r2.2]
    · have q5 := hT.2 k (by omega)
      have q6 := hr k
      refine R_aload_n 48 rfl dX10_worth_47 rfl ?_
      refine R_getP 12 51 rfl dX10_worth_48 rfl rfl fl_X10_82 (hP _ _ _ rfl) ?_
      refine R_getP 0 54 rfl dX10_worth_51 rfl rfl fl_X10_242 (hP _ _ _ rfl) ?_
      refine R_iload 56 rfl dX10_worth_54 rfl ?_
      refine R_iald k 57 rfl dX10_worth_56 rfl (by first | rfl | omega) (by omega) (by decide) ?_
      refine R_if_ne 60 64 rfl rfl dX10_worth_57 (by first | assumption | exact ⟨by omega, by omega⟩) (fun h57 => ?_) (fun h57 => ?_)
      · refine R_iinc [_, _, _, _, _] 67 rfl dX10_worth_64 rfl rfl (by decide) ?_
        refine R_goto 41 rfl dX10_worth_67 ?_
        exact ih (by omega) _ _ hbad hf hCS hT (fun j hj => by by_cases e : j = k; (subst e; omega); exact h0 j (by omega)) (by omega)
      · refine R_ldcw (-1000004) 63 rfl dX10_worth_60 kc_X10_327 (by decide) ?_
        refine R_ireturn dX10_worth_63 rfl ?_
        refine QI_mk ⟨?_, hf, hCS⟩
        rw [ea, wth, if_pos (by rcases (show k = 0 ∨ k = 1 ∨ k = 2 ∨ k = 3 by omega) with rfl | rfl | rfl | rfl <;> omega)]
  refine R_iload_n 1 rfl dX10_worth_0 rfl ?_
  refine R_iconst 2 rfl dX10_worth_1 ?_
  refine R_iconst 3 rfl dX10_worth_2 ?_
  refine R_callS_i (M' := mX10_within) 6 rfl dX10_worth_3 ml_X10_108 kmX10_within st_X10_within (c_X10_within _ _ _ (by first | assumption | exact ⟨by omega, by omega⟩) (by first | assumption | exact ⟨by omega, by omega⟩) (by first | assumption | exact ⟨by omega, by omega⟩)) rfl rfl ⟨Nat.le_of_ble_eq_true rfl, Nat.le_of_ble_eq_true rfl⟩ (Nat.le_of_ble_eq_true rfl) ⟨Nat.le_of_ble_eq_true rfl, Nat.le_of_ble_eq_true rfl⟩ ?_
  refine R_ifp_eq 9 28 rfl rfl dX10_worth_6 (fun h6 => ?_) (fun h6 => ?_)
  · refine R_ldcw (-1000000) 31 rfl dX10_worth_28 kc_X10_322 (by decide) ?_
    refine R_ireturn dX10_worth_31 rfl ?_
    exact QI_mk ⟨by unfold a_worth; rw [if_neg (by omega)], Fs.rf, hCS⟩
  · refine R_iload_n 10 rfl dX10_worth_9 rfl ?_
    refine R_iconst 11 rfl dX10_worth_10 ?_
    refine R_bipush 13 rfl dX10_worth_11 (by decide) ?_
    refine R_callS_i (M' := mX10_within) 16 rfl dX10_worth_13 ml_X10_108 kmX10_within st_X10_within (c_X10_within _ _ _ (by first | assumption | exact ⟨by omega, by omega⟩) (by first | assumption | exact ⟨by omega, by omega⟩) (by first | assumption | exact ⟨by omega, by omega⟩)) rfl rfl ⟨Nat.le_of_ble_eq_true rfl, Nat.le_of_ble_eq_true rfl⟩ (Nat.le_of_ble_eq_true rfl) ⟨Nat.le_of_ble_eq_true rfl, Nat.le_of_ble_eq_true rfl⟩ ?_
    refine R_ifp_eq 19 28 rfl rfl dX10_worth_16 (fun h16 => ?_) (fun h16 => ?_)
    · refine R_ldcw (-1000000) 31 rfl dX10_worth_28 kc_X10_322 (by decide) ?_
      refine R_ireturn dX10_worth_31 rfl ?_
      exact QI_mk ⟨by unfold a_worth; rw [if_neg (by omega)], Fs.rf, hCS⟩
    · refine R_iload_n 20 rfl dX10_worth_19 rfl ?_
      refine R_iconst 21 rfl dX10_worth_20 ?_
      refine R_iconst 22 rfl dX10_worth_21 ?_
      refine R_callS_i (M' := mX10_within) 25 rfl dX10_worth_22 ml_X10_108 kmX10_within st_X10_within (c_X10_within _ _ _ (by first | assumption | exact ⟨by omega, by omega⟩) (by first | assumption | exact ⟨by omega, by omega⟩) (by first | assumption | exact ⟨by omega, by omega⟩)) rfl rfl ⟨Nat.le_of_ble_eq_true rfl, Nat.le_of_ble_eq_true rfl⟩ (Nat.le_of_ble_eq_true rfl) ⟨Nat.le_of_ble_eq_true rfl, Nat.le_of_ble_eq_true rfl⟩ ?_
      refine R_ifp_ne 28 32 rfl rfl dX10_worth_25 (fun h25 => ?_) (fun h25 => ?_)
      · refine R_aload_n 33 rfl dX10_worth_32 rfl ?_
        refine R_iload_n 34 rfl dX10_worth_33 rfl ?_
        refine R_iload_n 35 rfl dX10_worth_34 rfl ?_
        refine R_callV_V (M' := mX10_tallyQuarters) 38 rfl dX10_worth_35 ml_X10_323 kmX10_tallyQuarters im_X10_tallyQuarters se_X10_tallyQuarters rfl ⟨by decide, rfl⟩ (c_X10_tallyQuarters kn.toNat _ _ hCS (by omega) (by omega) (by omega)) rfl rfl ⟨Nat.le_of_ble_eq_true rfl, Nat.le_of_ble_eq_true rfl⟩ (Nat.le_of_ble_eq_true rfl) ⟨Nat.le_of_ble_eq_true rfl, Nat.le_of_ble_eq_true rfl⟩ ?_
        rintro m35 h35
        refine R_iconst 39 rfl dX10_worth_38 ?_
        refine R_istore [_, _, _, _, _] 41 rfl dX10_worth_39 rfl (by decide) ?_
        exact Lp 0 (by omega) _ _ (by omega) h35.1 h35.2.1 h35.2.2.2 (fun j hj => by omega) rfl
      · refine R_ldcw (-1000000) 31 rfl dX10_worth_28 kc_X10_322 (by decide) ?_
        refine R_ireturn dX10_worth_31 rfl ?_
        exact QI_mk ⟨by unfold a_worth; rw [if_neg (by omega)], Fs.rf, hCS⟩
theorem c_X10_parts (gr w : Int) (hCS : CS o d L B ch m) (hg : rg gr) (hw : rg w) : C Γ mX10_parts 6 240 0 0 [vr 0, vi gr, vi w] SH m (QB o d L B ch m (a_parts L B ch gr w)) := by
  refine C_of_R rfl (Nat.le_of_ble_eq_true rfl) ?_
  have hO := hCS.2.2.1
  have t0 := tg_rg L B ch 0 gr hO.1
  have t1 := tg_rg L B ch 1 gr hO.1
  have hr0 : ∀ g, g < 15 → (0 ≤ tgM B ch 0 gr g ∧ tgM B ch 0 gr g ≤ 80) ∧ 0 ≤ tgA L B ch 0 gr g ∧ tgA L B ch 0 gr g ≤ 80 := fun g h => by have := t0 g h; omega
  have hr1 : ∀ g, g < 15 → (0 ≤ tgM B ch 1 gr g ∧ tgM B ch 1 gr g ≤ 80) ∧ 0 ≤ tgA L B ch 1 gr g ∧ tgA L B ch 1 gr g ≤ 80 := fun g h => by have := t1 g h; omega
  have hn := And.intro (tgN_rg (ch := ch) hO 0) (tgN_rg (ch := ch) hO 1)
  have Lp : ∀ k, k ≤ 15 → ∀ mm z, ((0 ≤ gr ∧ gr ≤ 3) ∧ (0 ≤ w ∧ w ≤ 5)) → tgN B ch 0 ≠ 0 → tgN B ch 1 ≠ 0 → Fs m mm → CS o d L B ch mm → Tl 85 86 87 mm (tgM B ch 0 gr) (tgA L B ch 0 gr) (tgN B ch 0) → Tl 88 89 90 mm (tgM B ch 1 gr) (tgA L B ch 1 gr) (tgN B ch 1) → Rt mm (ptN L B ch gr w k) (ptD B ch gr) → z = (k : Int) → R Γ mX10_parts { frames := 6, cells := 0, slots := 0, locals := 240 } 0 0 (QB o d L B ch m (a_parts L B ch gr w)) 0 0 77 [some (vr 0), some (vi gr), some (vi w), some (vi z)] [] SH mm := by
    refine up_ind 15 (fun k hk ih mm z hbad n0 n1 hf hCS hT hU hR hz => ?_)
    have hPO := hCS.1
    have hP := hPO.2
    have hD := ptD_rg (ch := ch) hO hbad.1 n0 n1
    have hS := pt_rg (L := L) hO hbad.1 n0 n1 w k hk
    have hS2 : 2 * (k : Int) * ptD B ch gr ≤ 2 * (k : Int) * 270848000000000000 := Int.mul_le_mul_of_nonneg_left hD.2 (by omega)
    have eN : ptN L B ch gr w (k + 1) = ptN L B ch gr w k + (ptA L B ch gr w k + ptB L B ch gr w k) := rfl
    have step : ∀ m1, k < 15 → Fr is91 mm m1 → Rt m1 (ptN L B ch gr w k + ptA L B ch gr w k) (ptD B ch gr) → R Γ mX10_parts { frames := 6, cells := 0, slots := 0, locals := 240 } 0 0 (QB o d L B ch m (a_parts L B ch gr w)) 0 0 98 [some (vr 0), some (vi gr), some (vi w), some (vi z)] [] SH m1 := by
      intro m1 hk2 hf1 hR1
      have v := pV_dv (B := B) (ch := ch) (gr := gr) hk2 n0 n1
      have hS3 := (hS.2.2 hk2)
      have hCS1 := hCS.fr hf1 is91_c
      have hPO := hCS1.1
      have hP := hPO.2
      have hT1 := hT.fr hf1 rfl rfl rfl
      have hU1 := hU.fr hf1 rfl rfl rfl
      refine R_iload_n 99 rfl dX10_parts_98 rfl ?_
      refine R_iconst 100 rfl dX10_parts_99 ?_
      refine R_icmp_lt 103 108 rfl rfl dX10_parts_100 (by first | assumption | exact ⟨by omega, by omega⟩) (by first | assumption | exact ⟨by omega, by omega⟩) (fun h100 => ?_) (fun h100 => ?_)
      · refine R_iinc [_, _, _, _] 111 rfl dX10_parts_108 rfl rfl (by decide) ?_
        refine R_goto 77 rfl dX10_parts_111 ?_
        first
          | exact ih hk2 _ _ hbad n0 n1 (hf.tr ((hf1.tr f105).s is91_q)) (hCS1.fr f105 is91_c) (hT1.fr f105 rfl rfl rfl) (hU1.fr f105 rfl rfl rfl) (by rw [eN, eB, ← Int.add_assoc]; exact r105) (by omega)
          | exact ih hk2 _ _ hbad n0 n1 (hf.tr (hf1.s is91_q)) hCS1 hT1 hU1 (by rw [eN, show ptB L B ch gr w k = 0 from if_neg (by omega), Int.add_zero]; exact hR1) (by omega)
      · have eB : ptB L B ch gr w k = pB L B ch gr k * (ptD B ch gr / pV B ch gr k) := if_pos (by omega)
        rw [eB] at hS3
        refine R_aload_n 104 rfl dX10_parts_103 rfl ?_
        refine R_iload_n 105 rfl dX10_parts_104 rfl ?_
        refine R_callV_V (M' := mX10_addBetter) 108 rfl dX10_parts_105 ml_X10_319 kmX10_addBetter im_X10_addBetter se_X10_addBetter rfl ⟨by decide, rfl⟩ (c_X10_addBetter _ k _ _ hPO hz hk2 hT1 hU1 hr0 hr1 hn hR1 ⟨hD.1, by omega⟩ v (show _ ≤ _ + pB L B ch gr k * (ptD B ch gr / pV B ch gr k) ∧ _ + pB L B ch gr k * (ptD B ch gr / pV B ch gr k) ≤ _ from ⟨by omega, by omega⟩)) rfl rfl ⟨Nat.le_of_ble_eq_true rfl, Nat.le_of_ble_eq_true rfl⟩ (Nat.le_of_ble_eq_true rfl) ⟨Nat.le_of_ble_eq_true rfl, Nat.le_of_ble_eq_true rfl⟩ ?_
        rintro m105 h105
        obtain ⟨f105, r105⟩ := h105
        refine R_iinc [_, _, _, _] 111 rfl dX10_parts_108 rfl rfl (by decide) ?_
        refine R_goto 77 rfl dX10_parts_111 ?_
        first
          | exact ih hk2 _ _ hbad n0 n1 (hf.tr ((hf1.tr f105).s is91_q)) (hCS1.fr f105 is91_c) (hT1.fr f105 rfl rfl rfl) (hU1.fr f105 rfl rfl rfl) (by rw [eN, eB, ← Int.add_assoc]; exact r105) (by omega)
          | exact ih hk2 _ _ hbad n0 n1 (hf.tr (hf1.s is91_q)) hCS1 hT1 hU1 (by rw [eN, show ptB L B ch gr w k = 0 from if_neg (by omega), Int.add_zero]; exact hR1) (by omega)
    refine R_iload_n 78 rfl dX10_parts_77 rfl ?_
    refine R_bipush 80 rfl dX10_parts_78 (by decide) ?_
    refine R_icmp_ge 83 114 rfl rfl dX10_parts_80 (by first | assumption | exact ⟨by omega, by omega⟩) (by first | assumption | exact ⟨by omega, by omega⟩) (fun h80 => ?_) (fun h80 => ?_)
    · refine R_aload_n 115 rfl dX10_parts_114 rfl ?_
      refine R_getP 13 118 rfl dX10_parts_115 rfl rfl fl_X10_88 (hP _ _ _ rfl) ?_
      refine R_iload_n 119 rfl dX10_parts_118 rfl ?_
      refine R_callV_l (M' := mX6_part) 122 rfl dX10_parts_119 ml_X10_297 kmX6_part im_X6_part se_X6_part rfl ⟨by decide, rfl⟩ (c_X6_part _ (by omega)) rfl rfl ⟨Nat.le_of_ble_eq_true rfl, Nat.le_of_ble_eq_true rfl⟩ (Nat.le_of_ble_eq_true rfl) ⟨Nat.le_of_ble_eq_true rfl, Nat.le_of_ble_eq_true rfl⟩ ?_
      refine R_lreturn dX10_parts_122 rfl ?_
      have ek : k = 15 := by omega
      subst ek
      refine QL_mk ⟨Eq.symm ?_, hf, hCS⟩
      rw [a_parts, if_pos hbad, if_neg (by omega), ← hR.1, ← hR.2]
    · have hk2 : k < 15 := by omega
      have hS3 := (hS.2.2 hk2)
      have v := pV_dv (B := B) (ch := ch) (gr := gr) hk2 n0 n1
      refine R_iload_n 84 rfl dX10_parts_83 rfl ?_
      refine R_iconst 85 rfl dX10_parts_84 ?_
      refine R_icmp_lt 88 93 rfl rfl dX10_parts_85 (by first | assumption | exact ⟨by omega, by omega⟩) (by first | assumption | exact ⟨by omega, by omega⟩) (fun h85 => ?_) (fun h85 => ?_)
      · have eA : ptA L B ch gr w k = pM L B ch gr k * (ptD B ch gr / pV B ch gr k) := if_pos (by omega)
        rw [eA] at hS3
        refine R_aload_n 94 rfl dX10_parts_93 rfl ?_
        refine R_iload_n 95 rfl dX10_parts_94 rfl ?_
        refine R_callV_V (M' := mX10_addMore) 98 rfl dX10_parts_95 ml_X10_316 kmX10_addMore im_X10_addMore se_X10_addMore rfl ⟨by decide, rfl⟩ (c_X10_addMore _ k _ _ hPO hz hk2 hT hU hr0 hr1 hn hR ⟨hD.1, by omega⟩ v (show _ ≤ _ + pM L B ch gr k * (ptD B ch gr / pV B ch gr k) ∧ _ + pM L B ch gr k * (ptD B ch gr / pV B ch gr k) ≤ _ from ⟨by omega, by omega⟩)) rfl rfl ⟨Nat.le_of_ble_eq_true rfl, Nat.le_of_ble_eq_true rfl⟩ (Nat.le_of_ble_eq_true rfl) ⟨Nat.le_of_ble_eq_true rfl, Nat.le_of_ble_eq_true rfl⟩ ?_
        rintro m95 h95
        obtain ⟨f95, r95⟩ := h95
        first
          | exact step _ hk2 f95 (by rw [eA]; exact r95)
          | exact step _ hk2 Fr.rf (by rw [show ptA L B ch gr w k = 0 from if_neg (by omega), Int.add_zero]; exact hR)
      · refine R_iload_n 89 rfl dX10_parts_88 rfl ?_
        refine R_iconst 90 rfl dX10_parts_89 ?_
        refine R_icmp_lt 93 98 rfl rfl dX10_parts_90 (by first | assumption | exact ⟨by omega, by omega⟩) (by first | assumption | exact ⟨by omega, by omega⟩) (fun h90 => ?_) (fun h90 => ?_)
        · first
            | exact step _ hk2 f95 (by rw [eA]; exact r95)
            | exact step _ hk2 Fr.rf (by rw [show ptA L B ch gr w k = 0 from if_neg (by omega), Int.add_zero]; exact hR)
        · have eA : ptA L B ch gr w k = pM L B ch gr k * (ptD B ch gr / pV B ch gr k) := if_pos (by omega)
          rw [eA] at hS3
          refine R_aload_n 94 rfl dX10_parts_93 rfl ?_
          refine R_iload_n 95 rfl dX10_parts_94 rfl ?_
          refine R_callV_V (M' := mX10_addMore) 98 rfl dX10_parts_95 ml_X10_316 kmX10_addMore im_X10_addMore se_X10_addMore rfl ⟨by decide, rfl⟩ (c_X10_addMore _ k _ _ hPO hz hk2 hT hU hr0 hr1 hn hR ⟨hD.1, by omega⟩ v (show _ ≤ _ + pM L B ch gr k * (ptD B ch gr / pV B ch gr k) ∧ _ + pM L B ch gr k * (ptD B ch gr / pV B ch gr k) ≤ _ from ⟨by omega, by omega⟩)) rfl rfl ⟨Nat.le_of_ble_eq_true rfl, Nat.le_of_ble_eq_true rfl⟩ (Nat.le_of_ble_eq_true rfl) ⟨Nat.le_of_ble_eq_true rfl, Nat.le_of_ble_eq_true rfl⟩ ?_
          rintro m95 h95
          obtain ⟨f95, r95⟩ := h95
          first
            | exact step _ hk2 f95 (by rw [eA]; exact r95)
            | exact step _ hk2 Fr.rf (by rw [show ptA L B ch gr w k = 0 from if_neg (by omega), Int.add_zero]; exact hR)
  have hPO := hCS.1
  have hP := hPO.2
  refine R_iload_n 1 rfl dX10_parts_0 rfl ?_
  refine R_iconst 2 rfl dX10_parts_1 ?_
  refine R_iconst 3 rfl dX10_parts_2 ?_
  refine R_callS_i (M' := mX10_within) 6 rfl dX10_parts_3 ml_X10_108 kmX10_within st_X10_within (c_X10_within _ _ _ (by first | assumption | exact ⟨by omega, by omega⟩) (by first | assumption | exact ⟨by omega, by omega⟩) (by first | assumption | exact ⟨by omega, by omega⟩)) rfl rfl ⟨Nat.le_of_ble_eq_true rfl, Nat.le_of_ble_eq_true rfl⟩ (Nat.le_of_ble_eq_true rfl) ⟨Nat.le_of_ble_eq_true rfl, Nat.le_of_ble_eq_true rfl⟩ ?_
  refine R_ifp_eq 9 18 rfl rfl dX10_parts_6 (fun h6 => ?_) (fun h6 => ?_)
  · refine R_ldc2 (-1) 21 rfl dX10_parts_18 kl_X10_268 (by decide) ?_
    refine R_lreturn dX10_parts_21 rfl ?_
    exact QL_mk ⟨by unfold a_parts; rw [if_neg (by omega)], Fs.rf, hCS⟩
  · refine R_iload_n 10 rfl dX10_parts_9 rfl ?_
    refine R_iconst 11 rfl dX10_parts_10 ?_
    refine R_iconst 12 rfl dX10_parts_11 ?_
    refine R_callS_i (M' := mX10_within) 15 rfl dX10_parts_12 ml_X10_108 kmX10_within st_X10_within (c_X10_within _ _ _ (by first | assumption | exact ⟨by omega, by omega⟩) (by first | assumption | exact ⟨by omega, by omega⟩) (by first | assumption | exact ⟨by omega, by omega⟩)) rfl rfl ⟨Nat.le_of_ble_eq_true rfl, Nat.le_of_ble_eq_true rfl⟩ (Nat.le_of_ble_eq_true rfl) ⟨Nat.le_of_ble_eq_true rfl, Nat.le_of_ble_eq_true rfl⟩ ?_
    refine R_ifp_ne 18 22 rfl rfl dX10_parts_15 (fun h15 => ?_) (fun h15 => ?_)
    · refine R_aload_n 23 rfl dX10_parts_22 rfl ?_
      refine R_aload_n 24 rfl dX10_parts_23 rfl ?_
      refine R_getP 11 27 rfl dX10_parts_24 rfl rfl fl_X10_78 (hP _ _ _ rfl) ?_
      refine R_iconst 28 rfl dX10_parts_27 ?_
      refine R_iload_n 29 rfl dX10_parts_28 rfl ?_
      refine R_callV_V (M' := mX10_tallyGroups) 32 rfl dX10_parts_29 ml_X10_235 kmX10_tallyGroups im_X10_tallyGroups se_X10_tallyGroups rfl ⟨by decide, rfl⟩ (c_X10_tallyGroups85 0 _ _ hCS rfl (by omega) (by omega)) rfl rfl ⟨Nat.le_of_ble_eq_true rfl, Nat.le_of_ble_eq_true rfl⟩ (Nat.le_of_ble_eq_true rfl) ⟨Nat.le_of_ble_eq_true rfl, Nat.le_of_ble_eq_true rfl⟩ ?_
      rintro m29 h29
      obtain ⟨f29, hCS, hKF, hT⟩ := h29
      clear hPO hP
      have hPO := hCS.1
      have hP := hPO.2
      refine R_aload_n 33 rfl dX10_parts_32 rfl ?_
      refine R_aload_n 34 rfl dX10_parts_33 rfl ?_
      refine R_getP 12 37 rfl dX10_parts_34 rfl rfl fl_X10_82 (hP _ _ _ rfl) ?_
      refine R_iconst 38 rfl dX10_parts_37 ?_
      refine R_iload_n 39 rfl dX10_parts_38 rfl ?_
      refine R_callV_V (M' := mX10_tallyGroups) 42 rfl dX10_parts_39 ml_X10_235 kmX10_tallyGroups im_X10_tallyGroups se_X10_tallyGroups rfl ⟨by decide, rfl⟩ (c_X10_tallyGroups88 1 _ _ hCS rfl (by omega) (by omega)) rfl rfl ⟨Nat.le_of_ble_eq_true rfl, Nat.le_of_ble_eq_true rfl⟩ (Nat.le_of_ble_eq_true rfl) ⟨Nat.le_of_ble_eq_true rfl, Nat.le_of_ble_eq_true rfl⟩ ?_
      rintro m39 h39
      obtain ⟨f39, hCS, hKF, hU⟩ := h39
      clear hPO hP
      have hPO := hCS.1
      have hP := hPO.2
      replace hT := hT.ft f39
      have e0 := hT.1
      have e1 := hU.1
      refine R_aload_n 43 rfl dX10_parts_42 rfl ?_
      refine R_getP 11 46 rfl dX10_parts_43 rfl rfl fl_X10_78 (hP _ _ _ rfl) ?_
      refine R_getI 2 49 rfl dX10_parts_46 rfl rfl fl_X10_313 ?_
      refine R_if_eq 52 62 rfl rfl dX10_parts_49 (by first | assumption | exact ⟨by omega, by omega⟩) (fun h49 => ?_) (fun h49 => ?_)
      · refine R_ldc2 (-4) 65 rfl dX10_parts_62 kl_X10_279 (by decide) ?_
        refine R_lreturn dX10_parts_65 rfl ?_
        exact QL_mk ⟨by unfold a_parts; rw [if_pos (by omega), if_pos (by omega)], f29.s85.tr f39.s88, hCS⟩
      · refine R_aload_n 53 rfl dX10_parts_52 rfl ?_
        refine R_getP 12 56 rfl dX10_parts_53 rfl rfl fl_X10_82 (hP _ _ _ rfl) ?_
        refine R_getI 2 59 rfl dX10_parts_56 rfl rfl fl_X10_313 ?_
        refine R_if_ne 62 66 rfl rfl dX10_parts_59 (by first | assumption | exact ⟨by omega, by omega⟩) (fun h59 => ?_) (fun h59 => ?_)
        · refine R_aload_n 67 rfl dX10_parts_66 rfl ?_
          refine R_getP 13 70 rfl dX10_parts_67 rfl rfl fl_X10_88 (hP _ _ _ rfl) ?_
          refine R_lconst 71 rfl dX10_parts_70 ?_
          refine R_lconst 72 rfl dX10_parts_71 ?_
          refine R_callV_V (M' := mX6_become) 75 rfl dX10_parts_72 ml_X10_281 kmX6_become im_X6_become se_X6_become rfl ⟨by decide, rfl⟩ (c_X6_becomeR _ _ ⟨by decide, by decide⟩ ⟨by decide, by decide⟩) rfl rfl ⟨Nat.le_of_ble_eq_true rfl, Nat.le_of_ble_eq_true rfl⟩ (Nat.le_of_ble_eq_true rfl) ⟨Nat.le_of_ble_eq_true rfl, Nat.le_of_ble_eq_true rfl⟩ ?_
          rintro m72 h72
          obtain ⟨f72, r72⟩ := h72
          refine R_iconst 76 rfl dX10_parts_75 ?_
          refine R_istore_n [_, _, _, _] 77 rfl dX10_parts_76 rfl (by decide) ?_
          exact Lp 0 (by omega) _ _ (by omega) (by omega) (by omega) ((f29.s85.tr f39.s88).tr (f72.s is91_q)) (hCS.fr f72 is91_c) (hT.fr f72 rfl rfl rfl) (hU.fr f72 rfl rfl rfl) (Rt_0 r72 (ptD_rg hO (by omega) (by omega) (by omega)).1) rfl
        · refine R_ldc2 (-4) 65 rfl dX10_parts_62 kl_X10_279 (by decide) ?_
          refine R_lreturn dX10_parts_65 rfl ?_
          exact QL_mk ⟨by unfold a_parts; rw [if_pos (by omega), if_pos (by omega)], f29.s85.tr f39.s88, hCS⟩
    · refine R_ldc2 (-1) 21 rfl dX10_parts_18 kl_X10_268 (by decide) ?_
      refine R_lreturn dX10_parts_21 rfl ?_
      exact QL_mk ⟨by unfold a_parts; rw [if_neg (by omega)], Fs.rf, hCS⟩
theorem c_X10_enough (a b w : Int) (hCS : CS o d L B ch m) (ha : rg a) (hb : rg b) (hw : rg w) : C Γ mX10_enough 6 240 0 0 [vr 0, vi a, vi b, vi w] SH m (QA o d L B ch m (a_enough L B ch a b w)) := by
  refine C_of_R rfl (Nat.le_of_ble_eq_true rfl) ?_
  have hPO := hCS.1
  have hP := hPO.2
  have hr := tg_rg L B ch 0 0 hCS.2.2.1.1
  have hr' : ∀ g, g < 15 → 0 ≤ tgM B ch 0 0 g ∧ tgM B ch 0 0 g ≤ 80 := fun g h => ⟨(hr g h).1, (hr g h).2.1⟩
  have hLO := hCS.2.2.2.2.1
  have h5 := allB_rg hLO
  have h7 := sumW_rg hLO
  have h9 := npN_le hLO
  have hL2 := hCS.2.2.2.1
  have hnd : (1 ≤ b ∧ b ≤ 999) → (0 ≤ a ∧ a ≤ b) → 0 ≤ needd (sumN (L.2.1 0) (npN L)) a b ∧ needd (sumN (L.2.1 0) (npN L)) a b ≤ 12000 := fun q1 q2 => needd_rg h7.1 (by omega) (by omega) q2
  have h8 := fwB_rg (tgM B ch 0 0) (L.2.1 0) (npN L) (needd (sumN (L.2.1 0) (npN L)) a b)
  rcases hCS.2.2.2.1 with ⟨rfl, -⟩ | ⟨rfl, -⟩
  all_goals
    refine R_iload_n 1 rfl dX10_enough_0 rfl ?_
    refine R_iconst 2 rfl dX10_enough_1 ?_
    refine R_sipush 5 rfl dX10_enough_2 (by decide) ?_
    refine R_callS_i (M' := mX10_within) 8 rfl dX10_enough_5 ml_X10_108 kmX10_within st_X10_within (c_X10_within _ _ _ (by first | assumption | exact ⟨by omega, by omega⟩) (by first | assumption | exact ⟨by omega, by omega⟩) (by first | assumption | exact ⟨by omega, by omega⟩)) rfl rfl ⟨Nat.le_of_ble_eq_true rfl, Nat.le_of_ble_eq_true rfl⟩ (Nat.le_of_ble_eq_true rfl) ⟨Nat.le_of_ble_eq_true rfl, Nat.le_of_ble_eq_true rfl⟩ ?_
    refine R_ifp_eq 11 29 rfl rfl dX10_enough_8 (fun h8 => ?_) (fun h8 => ?_)
    · refine R_iconst 30 rfl dX10_enough_29 ?_
      refine R_ireturn dX10_enough_30 rfl ?_
      exact QI_mk ⟨by unfold a_enough; rw [if_neg (by omega)], Fs.rf, hCS⟩
    · refine R_iload_n 12 rfl dX10_enough_11 rfl ?_
      refine R_iconst 13 rfl dX10_enough_12 ?_
      refine R_iload_n 14 rfl dX10_enough_13 rfl ?_
      refine R_callS_i (M' := mX10_within) 17 rfl dX10_enough_14 ml_X10_108 kmX10_within st_X10_within (c_X10_within _ _ _ (by first | assumption | exact ⟨by omega, by omega⟩) (by first | assumption | exact ⟨by omega, by omega⟩) (by first | assumption | exact ⟨by omega, by omega⟩)) rfl rfl ⟨Nat.le_of_ble_eq_true rfl, Nat.le_of_ble_eq_true rfl⟩ (Nat.le_of_ble_eq_true rfl) ⟨Nat.le_of_ble_eq_true rfl, Nat.le_of_ble_eq_true rfl⟩ ?_
      refine R_ifp_eq 20 29 rfl rfl dX10_enough_17 (fun h17 => ?_) (fun h17 => ?_)
      · refine R_iconst 30 rfl dX10_enough_29 ?_
        refine R_ireturn dX10_enough_30 rfl ?_
        exact QI_mk ⟨by unfold a_enough; rw [if_neg (by omega)], Fs.rf, hCS⟩
      · refine R_iload_n 21 rfl dX10_enough_20 rfl ?_
        refine R_iconst 22 rfl dX10_enough_21 ?_
        refine R_iconst 23 rfl dX10_enough_22 ?_
        refine R_callS_i (M' := mX10_within) 26 rfl dX10_enough_23 ml_X10_108 kmX10_within st_X10_within (c_X10_within _ _ _ (by first | assumption | exact ⟨by omega, by omega⟩) (by first | assumption | exact ⟨by omega, by omega⟩) (by first | assumption | exact ⟨by omega, by omega⟩)) rfl rfl ⟨Nat.le_of_ble_eq_true rfl, Nat.le_of_ble_eq_true rfl⟩ (Nat.le_of_ble_eq_true rfl) ⟨Nat.le_of_ble_eq_true rfl, Nat.le_of_ble_eq_true rfl⟩ ?_
        refine R_ifp_ne 29 31 rfl rfl dX10_enough_26 (fun h26 => ?_) (fun h26 => ?_)
        · refine R_aload_n 32 rfl dX10_enough_31 rfl ?_
          refine R_getP 2 35 rfl dX10_enough_32 rfl rfl fl_X10_26 (PO_o hPO) ?_
          refine R_aload_n 36 rfl dX10_enough_35 rfl ?_
          refine R_getP 2 39 rfl dX10_enough_36 rfl rfl fl_X10_26 (PO_o hPO) ?_
          refine R_callV_i (M' := mX4_allParishes) 42 rfl dX10_enough_39 ml_X10_273 kmX4_allParishes im_X4_allParishes se_X4_allParishes rfl ⟨by decide, rfl⟩ (c_X4_allParishes hL2 hLO) rfl rfl ⟨Nat.le_of_ble_eq_true rfl, Nat.le_of_ble_eq_true rfl⟩ (Nat.le_of_ble_eq_true rfl) ⟨Nat.le_of_ble_eq_true rfl, Nat.le_of_ble_eq_true rfl⟩ ?_
          refine R_callV_i (M' := mX4_marriagesOf) 45 rfl dX10_enough_42 ml_X10_276 kmX4_marriagesOf im_X4_marriagesOf se_X4_marriagesOf rfl ⟨by decide, rfl⟩ (c_X4_marriagesOf _ hPO hL2 hLO ⟨by omega, by omega⟩) rfl rfl ⟨Nat.le_of_ble_eq_true rfl, Nat.le_of_ble_eq_true rfl⟩ (Nat.le_of_ble_eq_true rfl) ⟨Nat.le_of_ble_eq_true rfl, Nat.le_of_ble_eq_true rfl⟩ ?_
          refine R_top (b := sumN (L.2.1 0) (npN L)) (mOf_all L) ?_
          refine R_istore [_, _, _, _, _, _, _] 47 rfl dX10_enough_45 rfl (by decide) ?_
          refine R_iload 49 rfl dX10_enough_47 rfl ?_
          refine R_if_ne 52 55 rfl rfl dX10_enough_49 (by first | assumption | exact ⟨by omega, by omega⟩) (fun h49 => ?_) (fun h49 => ?_)
          · refine R_aload_n 56 rfl dX10_enough_55 rfl ?_
            refine R_aload_n 57 rfl dX10_enough_56 rfl ?_
            refine R_getP 12 60 rfl dX10_enough_57 rfl rfl fl_X10_82 (hP _ _ _ rfl) ?_
            refine R_iconst 61 rfl dX10_enough_60 ?_
            refine R_iconst 62 rfl dX10_enough_61 ?_
            refine R_callV_V (M' := mX10_tallyGroups) 65 rfl dX10_enough_62 ml_X10_235 kmX10_tallyGroups im_X10_tallyGroups se_X10_tallyGroups rfl ⟨by decide, rfl⟩ (c_X10_tallyGroups88 0 _ _ hCS rfl (by omega) (by omega)) rfl rfl ⟨Nat.le_of_ble_eq_true rfl, Nat.le_of_ble_eq_true rfl⟩ (Nat.le_of_ble_eq_true rfl) ⟨Nat.le_of_ble_eq_true rfl, Nat.le_of_ble_eq_true rfl⟩ ?_
            rintro m62 h62
            obtain ⟨f62, hCS, hKF, hT⟩ := h62
            clear hPO hP
            have hPO := hCS.1
            have hP := hPO.2
            first | have k62 := (LdC_4 hCS.2.2.2.1).1.1 | have k62 := (LdC_17 hCS.2.2.2.1).1.1
            have hnd2 := hnd (by omega) (by omega)
            refine R_iload 67 rfl dX10_enough_65 rfl ?_
            refine R_iload_n 68 rfl dX10_enough_67 rfl ?_
            refine R_iload_n 69 rfl dX10_enough_68 rfl ?_
            refine R_callS_i (M' := mX10_leastDrawn) 72 rfl dX10_enough_69 ml_X10_304 kmX10_leastDrawn st_X10_leastDrawn (c_X10_leastDrawn _ _ _ (by omega) (by omega) (by omega)) rfl rfl ⟨Nat.le_of_ble_eq_true rfl, Nat.le_of_ble_eq_true rfl⟩ (Nat.le_of_ble_eq_true rfl) ⟨Nat.le_of_ble_eq_true rfl, Nat.le_of_ble_eq_true rfl⟩ ?_
            refine R_top (b := needd (sumN (L.2.1 0) (npN L)) a b) rfl ?_
            refine R_istore [_, _, _, _, _, _, _] 74 rfl dX10_enough_72 rfl (by decide) ?_
            refine R_aload_n 75 rfl dX10_enough_74 rfl ?_
            refine R_aload_n 76 rfl dX10_enough_75 rfl ?_
            refine R_getP 2 79 rfl dX10_enough_76 rfl rfl fl_X10_26 (PO_o hPO) ?_
            refine R_getI 0 82 rfl dX10_enough_79 rfl rfl fl_X10_125 ?_
            refine R_iload 84 rfl dX10_enough_82 rfl ?_
            refine R_callV_i (M' := mX10_fewestBelow) 87 rfl dX10_enough_84 ml_X10_307 kmX10_fewestBelow im_X10_fewestBelow se_X10_fewestBelow rfl ⟨by decide, rfl⟩ (c_X10_fewestBelow _ _ (npN L) hCS hT hr' (by omega) (by omega) (by omega)) rfl rfl ⟨Nat.le_of_ble_eq_true rfl, Nat.le_of_ble_eq_true rfl⟩ (Nat.le_of_ble_eq_true rfl) ⟨Nat.le_of_ble_eq_true rfl, Nat.le_of_ble_eq_true rfl⟩ ?_
            refine R_istore [_, _, _, _, _, _, _] 89 rfl dX10_enough_87 rfl (by decide) ?_
            refine R_iload 91 rfl dX10_enough_89 rfl ?_
            refine R_if_ge 94 97 rfl rfl dX10_enough_91 (by first | assumption | exact ⟨by omega, by omega⟩) (fun h91 => ?_) (fun h91 => ?_)
            · refine R_iload_n 98 rfl dX10_enough_97 rfl ?_
              refine R_if_ne 101 106 rfl rfl dX10_enough_98 (by first | assumption | exact ⟨by omega, by omega⟩) (fun h98 => ?_) (fun h98 => ?_)
              · refine R_aload_n 107 rfl dX10_enough_106 rfl ?_
                refine R_iload 109 rfl dX10_enough_107 rfl ?_
                refine R_iload 111 rfl dX10_enough_109 rfl ?_
                refine R_callV_i (M' := mX10_leastBits) 114 rfl dX10_enough_111 ml_X10_310 kmX10_leastBits im_X10_leastBits se_X10_leastBits rfl ⟨by decide, rfl⟩ (c_X10_leastBits _ _ hCS hT hr' (by omega) hnd2) rfl rfl ⟨Nat.le_of_ble_eq_true rfl, Nat.le_of_ble_eq_true rfl⟩ (Nat.le_of_ble_eq_true rfl) ⟨Nat.le_of_ble_eq_true rfl, Nat.le_of_ble_eq_true rfl⟩ ?_
                refine R_ireturn dX10_enough_114 rfl ?_
                first
                  | exact QI_mk ⟨by unfold a_enough; rw [if_pos (by omega), if_neg (by omega), if_neg (by omega), if_pos (by omega)], f62.s88, hCS⟩
                  | exact QI_mk ⟨by unfold a_enough; rw [if_pos (by omega), if_neg (by omega), if_neg (by omega), if_neg (by omega)], f62.s88, hCS⟩
              · refine R_iload 103 rfl dX10_enough_101 rfl ?_
                refine R_goto 114 rfl dX10_enough_103 ?_
                refine R_ireturn dX10_enough_114 rfl ?_
                first
                  | exact QI_mk ⟨by unfold a_enough; rw [if_pos (by omega), if_neg (by omega), if_neg (by omega), if_pos (by omega)], f62.s88, hCS⟩
                  | exact QI_mk ⟨by unfold a_enough; rw [if_pos (by omega), if_neg (by omega), if_neg (by omega), if_neg (by omega)], f62.s88, hCS⟩
            · refine R_bipush 96 rfl dX10_enough_94 (by decide) ?_
              refine R_ireturn dX10_enough_96 rfl ?_
              exact QI_mk ⟨by unfold a_enough; rw [if_pos (by omega), if_neg (by omega), if_pos (by omega)], f62.s88, hCS⟩
          · refine R_bipush 54 rfl dX10_enough_52 (by decide) ?_
            refine R_ireturn dX10_enough_54 rfl ?_
            exact QI_mk ⟨by unfold a_enough; rw [if_pos (by omega), if_pos (by omega)], Fs.rf, hCS⟩
        · refine R_iconst 30 rfl dX10_enough_29 ?_
          refine R_ireturn dX10_enough_30 rfl ?_
          exact QI_mk ⟨by unfold a_enough; rw [if_neg (by omega)], Fs.rf, hCS⟩
end
