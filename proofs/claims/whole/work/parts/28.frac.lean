/-! fractions in lowest terms -/
def fibP : Nat → Nat × Nat
  | 0 => (0, 1)
  | n + 1 => ((fibP n).2, (fibP n).1 + (fibP n).2)
def fib (n : Nat) : Nat := (fibP n).1
theorem fib_s (n : Nat) : fib (n + 2) = fib (n + 1) + fib n := by show (fibP n).1 + (fibP n).2 = (fibP n).2 + (fibP n).1; omega
theorem fib_93 : 9223372036854775808 < fib 93 := by decide +kernel
/-- how many steps the common measure takes -/
def eS (g l : Nat) : Nat := if h : l = 0 then 0 else 1 + eS l (g % l)
termination_by l
decreasing_by exact Nat.mod_lt _ (Nat.pos_of_ne_zero h)
theorem eS_0 (g : Nat) : eS g 0 = 0 := by unfold eS; rw [dif_pos rfl]
theorem eS_s {g l : Nat} (h : l ≠ 0) : eS g l = 1 + eS l (g % l) := by rw [eS, dif_neg h]
theorem eS_fib (n : Nat) : (∀ g l, n + 1 ≤ eS g l → fib (n + 2) ≤ l) ∧ (∀ g l, l < g → n + 1 ≤ eS g l → fib (n + 3) ≤ g) := by
  induction n with
  | zero =>
    refine ⟨fun g l h => ?_, fun g l hg h => ?_⟩
    · by_cases e : l = 0
      · subst e; rw [eS_0] at h; omega
      · show 1 ≤ l; omega
    · by_cases e : l = 0
      · subst e; rw [eS_0] at h; omega
      · show 2 ≤ g; omega
  | succ n ih =>
    have hA : ∀ g l, n + 1 + 1 ≤ eS g l → fib (n + 1 + 2) ≤ l := fun g l h => by
      by_cases e : l = 0
      · subst e; rw [eS_0] at h; omega
      · rw [eS_s e] at h
        exact ih.2 l (g % l) (Nat.mod_lt _ (by omega)) (by omega)
    refine ⟨hA, fun g l hg h => ?_⟩
    have h1 := hA g l h
    have e : l ≠ 0 := fun e => by subst e; rw [eS_0] at h; omega
    rw [eS_s e] at h
    have h2 := ih.1 l (g % l) (by omega)
    have h3 : g % l + l ≤ g := by
      have h4 := Nat.div_add_mod g l
      have h5 : 1 ≤ g / l := (Nat.one_le_div_iff (by omega)).mpr (by omega)
      have h6 : l * 1 ≤ l * (g / l) := Nat.mul_le_mul_left l h5
      omega
    have h7 := fib_s (n + 2)
    show fib (n + 2 + 2) ≤ g
    have h8 : fib (n + 1 + 2) = fib (n + 2 + 1) := rfl
    omega
theorem eS_91 {g l : Nat} (h : l < 9223372036854775808) : eS g l ≤ 91 := by
  rcases Nat.lt_or_ge 91 (eS g l) with q | q
  · have := (eS_fib 91).1 g l (by omega)
    have h2 := fib_93
    have e : fib (91 + 2) = fib 93 := rfl
    omega
  · exact q
def gcI (a b : Int) : Int := (Int.gcd a b : Int)
def rT (n d : Int) : Int := n / gcI n d
def rB (n d : Int) : Int := d / gcI n d
theorem gcI_pos {n d : Int} (h : 0 < d) : 0 < gcI n d := by
  have : 0 < Int.gcd n d := Int.gcd_pos_of_ne_zero_right _ (by omega)
  unfold gcI; omega
theorem gcI_l (n d : Int) : gcI n d ∣ n := Int.gcd_dvd_left ..
theorem gcI_r (n d : Int) : gcI n d ∣ d := Int.gcd_dvd_right ..
theorem rT_mul {n d : Int} : rT n d * gcI n d = n := Int.ediv_mul_cancel (gcI_l n d)
theorem rB_mul {n d : Int} : rB n d * gcI n d = d := Int.ediv_mul_cancel (gcI_r n d)
theorem rB_pos {n d : Int} (h : 0 < d) : 0 < rB n d := by
  have h1 := gcI_pos (n := n) h
  have h2 := rB_mul (n := n) (d := d)
  rcases (show 0 < rB n d ∨ rB n d ≤ 0 by omega) with q | q
  · exact q
  · have := Int.mul_nonpos_of_nonpos_of_nonneg q (Int.le_of_lt h1)
    omega
theorem rTB {n d : Int} : rT n d * d = n * rB n d := by
  have h1 := rT_mul (n := n) (d := d)
  have h2 := rB_mul (n := n) (d := d)
  calc rT n d * d = rT n d * (rB n d * gcI n d) := by rw [h2]
    _ = (rT n d * gcI n d) * rB n d := by rw [Int.mul_comm (rB n d), Int.mul_assoc]
    _ = n * rB n d := by rw [h1]
theorem rB_dvd {n d : Int} : rB n d ∣ d := ⟨gcI n d, (rB_mul).symm⟩
theorem gcI_scale {c n d : Int} (hc : 0 < c) : gcI (c * n) (c * d) = c * gcI n d := by
  unfold gcI
  rw [Int.gcd_mul_left]
  have : (c.natAbs : Int) = c := by omega
  rw [Int.natCast_mul, this]
theorem red_scale {c n d : Int} (hc : 0 < c) : rT (c * n) (c * d) = rT n d ∧ rB (c * n) (c * d) = rB n d := by
  unfold rT rB
  rw [gcI_scale hc]
  exact ⟨Int.mul_ediv_mul_of_pos _ _ hc, Int.mul_ediv_mul_of_pos _ _ hc⟩
/-- one number, one fraction -/
theorem red_eq {n d n' d' : Int} (h : 0 < d) (h' : 0 < d') (e : n * d' = n' * d) : rT n d = rT n' d' ∧ rB n d = rB n' d' := by
  have h1 := red_scale (c := d') (n := n) (d := d) h'
  have h2 := red_scale (c := d) (n := n') (d := d') h
  rw [← h1.1, ← h1.2, ← h2.1, ← h2.2, Int.mul_comm d' n, e, Int.mul_comm n' d, Int.mul_comm d' d]
  exact ⟨rfl, rfl⟩
theorem rT_le {n d : Int} (h : 0 < d) (k : Int) (hk : -k ≤ n ∧ n ≤ k) : -k ≤ rT n d ∧ rT n d ≤ k := by
  have h1 := gcI_pos (n := n) h
  have h2 := rT_mul (n := n) (d := d)
  generalize rT n d = t at h2 ⊢
  generalize gcI n d = g at h1 h2
  rcases (show t < 0 ∨ 0 ≤ t by omega) with q | q
  · have h3 : t * g ≤ t * 1 := Int.mul_le_mul_of_nonpos_left (by omega) (by omega)
    omega
  · have h3 : t * 1 ≤ t * g := Int.mul_le_mul_of_nonneg_left (by omega) q
    omega
theorem rB_le {n d : Int} (h : 0 < d) : rB n d ≤ d := by
  have h1 := gcI_pos (n := n) h
  have h2 := rB_mul (n := n) (d := d)
  have h3 := rB_pos (n := n) h
  generalize rB n d = t at h2 h3 ⊢
  generalize gcI n d = g at h1 h2
  have h4 : t * 1 ≤ t * g := Int.mul_le_mul_of_nonneg_left (by omega) (by omega)
  omega
section
variable {Γ : GX} {S : Shp} {m : Mem}
theorem gcd_step {g l : Nat} : Nat.gcd g l = Nat.gcd l (g % l) := by rw [Nat.gcd_comm g l, Nat.gcd_rec l g, Nat.gcd_comm]
theorem c_X6_commonOf (a b : Int) (x y : Nat) (ha : a = (x : Int)) (hb : b = (y : Int)) (hx : x < 9223372036854775808) (hy : y < 9223372036854775808) : C Γ mX6_commonOf 0 0 0 0 [vl a, vl b] S m (Ql S m (Nat.gcd x y : Int)) := by
  refine C_of_R rfl (Nat.le_of_ble_eq_true rfl) ?_
  subst ha; subst hb
  have Lp : ∀ n g l i w0 w9, eS g l ≤ n → i + n ≤ 99 → Nat.gcd g l = Nat.gcd x y → g < 9223372036854775808 → l < 9223372036854775808 → R Γ mX6_commonOf { frames := 0, cells := 0, slots := 0, locals := 0 } 0 0 (Ql S m (Nat.gcd x y : Int)) 0 0 9 [w0, none, some (vl (y : Int)), none, some (vl (g : Int)), none, some (vl (l : Int)), none, some (vi (i : Int)), w9, none] [] S m := by
    intro n
    induction n with
    | zero =>
      intro g l i w0 w9 hn hi hg h1 h2
      have e : l = 0 := by
        by_cases e : l = 0
        · exact e
        · rw [eS_s e] at hn; omega
      subst e
      refine R_iload 11 rfl dX6_commonOf_9 rfl ?_
      refine R_bipush 13 rfl dX6_commonOf_11 (by decide) ?_
      refine R_icmp_ge 16 44 rfl rfl dX6_commonOf_13 (by first | assumption | exact ⟨by omega, by omega⟩) (by first | assumption | exact ⟨by omega, by omega⟩) (fun h13 => ?_) (fun h13 => ?_)
      · refine R_lload 46 rfl dX6_commonOf_44 rfl ?_
        refine R_lreturn dX6_commonOf_46 rfl ?_
        exact Ql_mk (by rw [← hg, Nat.gcd_zero_right])
      · refine R_lload 18 rfl dX6_commonOf_16 rfl ?_
        refine R_lconst 19 rfl dX6_commonOf_18 ?_
        refine R_lif_eq 20 23 44 rfl rfl rfl dX6_commonOf_19 dX6_commonOf_20 ⟨by omega, by omega⟩ ⟨by decide, by decide⟩ (fun h20 => ?_) (fun h20 => ?_)
        · refine R_lload 46 rfl dX6_commonOf_44 rfl ?_
          refine R_lreturn dX6_commonOf_46 rfl ?_
          exact Ql_mk (by rw [← hg, Nat.gcd_zero_right])
        · omega
    | succ n ih =>
      intro g l i w0 w9 hn hi hg h1 h2
      refine R_iload 11 rfl dX6_commonOf_9 rfl ?_
      refine R_bipush 13 rfl dX6_commonOf_11 (by decide) ?_
      refine R_icmp_ge 16 44 rfl rfl dX6_commonOf_13 (by first | assumption | exact ⟨by omega, by omega⟩) (by first | assumption | exact ⟨by omega, by omega⟩) (fun h13 => ?_) (fun h13 => ?_)
      · refine R_lload 46 rfl dX6_commonOf_44 rfl ?_
        refine R_lreturn dX6_commonOf_46 rfl ?_
        first | omega | exact Ql_mk (by have e : l = 0 := (by have : (l : Int) = 0 := h20; omega); subst e; rw [← hg, Nat.gcd_zero_right])
      · refine R_lload 18 rfl dX6_commonOf_16 rfl ?_
        refine R_lconst 19 rfl dX6_commonOf_18 ?_
        refine R_lif_eq 20 23 44 rfl rfl rfl dX6_commonOf_19 dX6_commonOf_20 ⟨by omega, by omega⟩ ⟨by decide, by decide⟩ (fun h20 => ?_) (fun h20 => ?_)
        · refine R_lload 46 rfl dX6_commonOf_44 rfl ?_
          refine R_lreturn dX6_commonOf_46 rfl ?_
          first | omega | exact Ql_mk (by have e : l = 0 := (by have : (l : Int) = 0 := h20; omega); subst e; rw [← hg, Nat.gcd_zero_right])
        · have e : l ≠ 0 := fun e => h20 (by subst e; rfl)
          refine R_lload 25 rfl dX6_commonOf_23 rfl ?_
          refine R_lload 27 rfl dX6_commonOf_25 rfl ?_
          refine R_lrem_p 28 rfl dX6_commonOf_27 ⟨by omega, by omega⟩ ⟨by omega, by omega⟩ (by omega) (by omega) ?_
          refine R_lstore [_, _, _, _, _, _, _, _, _, _, _] 30 rfl dX6_commonOf_28 rfl (by decide) ?_
          refine R_lload 32 rfl dX6_commonOf_30 rfl ?_
          refine R_lstore [_, _, _, _, _, _, _, _, _, _, _] 34 rfl dX6_commonOf_32 rfl (by decide) ?_
          refine R_lload 36 rfl dX6_commonOf_34 rfl ?_
          refine R_lstore [_, _, _, _, _, _, _, _, _, _, _] 38 rfl dX6_commonOf_36 rfl (by decide) ?_
          refine R_iinc [_, _, _, _, _, _, _, _, _, _, _] 41 rfl dX6_commonOf_38 rfl rfl (by decide) ?_
          refine R_goto 9 rfl dX6_commonOf_41 ?_
          have e2 : ((g : Int) % (l : Int)) = ((g % l : Nat) : Int) := (Int.natCast_emod g l).symm
          have e3 := Nat.mod_lt g (Nat.pos_of_ne_zero e)
          have e4 := gcd_step (g := g) (l := l)
          rw [eS_s e] at hn
          rw [e2]
          exact ih l (g % l) (i + 1) _ _ (by omega) (by omega) (by rw [← e4]; exact hg) (by omega) (by omega)
  refine R_lload_n 1 rfl dX6_commonOf_0 rfl ?_
  refine R_lstore [_, _, _, _, _, _, _, _, _, _, _] 3 rfl dX6_commonOf_1 rfl (by decide) ?_
  refine R_lload_n 4 rfl dX6_commonOf_3 rfl ?_
  refine R_lstore [_, _, _, _, _, _, _, _, _, _, _] 6 rfl dX6_commonOf_4 rfl (by decide) ?_
  refine R_iconst 7 rfl dX6_commonOf_6 ?_
  refine R_istore [_, _, _, _, _, _, _, _, _, _, _] 9 rfl dX6_commonOf_7 rfl (by decide) ?_
  exact Lp 91 x y 0 _ _ (eS_91 hy) (by omega) rfl hx hy
theorem gcI_le {n d : Int} (h : 0 < d) : gcI n d ≤ d := Int.le_of_dvd h (gcI_r n d)
theorem tdivT {n d : Int} : n.tdiv (gcI n d) = rT n d := Int.tdiv_eq_ediv_of_dvd (gcI_l n d)
theorem tdivB {n d : Int} : d.tdiv (gcI n d) = rB n d := Int.tdiv_eq_ediv_of_dvd (gcI_r n d)
def raM (m : Mem) (n d : Int) : Mem := setI (setI m 91 0 (rT n d)) 91 1 (rB n d)
theorem c_X6_become (P Q : Int) (hP : -9223372036854775808 < P ∧ P < 9223372036854775808) (hQ : 0 < Q ∧ Q < 9223372036854775808) : C Γ mX6_become 1 40 0 0 [vr 91, vl P, vl Q] SH m (Qv SH (raM m P Q)) := by
  refine C_of_R rfl (Nat.le_of_ble_eq_true rfl) ?_
  have g1 := gcI_pos (n := P) hQ.1
  have g2 := gcI_le (n := P) hQ.1
  refine R_lload_n 1 rfl dX6_become_0 rfl ?_
  refine R_labs 4 rfl dX6_become_1 ml_X6_16 ⟨by omega, by omega⟩ ⟨Nat.le_of_ble_eq_true rfl, Nat.le_of_ble_eq_true rfl⟩ ⟨Nat.le_of_ble_eq_true rfl, Nat.le_of_ble_eq_true rfl⟩ ?_
  refine R_lload_n 5 rfl dX6_become_4 rfl ?_
  refine R_callS_l (M' := mX6_commonOf) 8 rfl dX6_become_5 ml_X6_22 kmX6_commonOf st_X6_commonOf (c_X6_commonOf _ _ P.natAbs Q.natAbs (by split <;> omega) (by omega) (by omega) (by omega)) rfl rfl ⟨Nat.le_of_ble_eq_true rfl, Nat.le_of_ble_eq_true rfl⟩ (Nat.le_of_ble_eq_true rfl) ⟨Nat.le_of_ble_eq_true rfl, Nat.le_of_ble_eq_true rfl⟩ ?_
  refine R_topL (b := gcI P Q) rfl ?_
  refine R_lstore [_, _, _, _, _, _, _] 10 rfl dX6_become_8 rfl (by decide) ?_
  refine R_lload_n 11 rfl dX6_become_10 rfl ?_
  refine R_lconst 12 rfl dX6_become_11 ?_
  refine R_lif_lt 13 16 23 rfl rfl rfl dX6_become_12 dX6_become_13 ⟨by omega, by omega⟩ ⟨by decide, by decide⟩ (fun h13 => ?_) (fun h13 => ?_)
  · exfalso; simp at *; omega
  · refine R_lload 18 rfl dX6_become_16 rfl ?_
    refine R_lconst 19 rfl dX6_become_18 ?_
    refine R_lif_ge 20 23 24 rfl rfl rfl dX6_become_19 dX6_become_20 ⟨by omega, by omega⟩ ⟨by decide, by decide⟩ (fun h20 => ?_) (fun h20 => ?_)
    · refine R_aload_n 25 rfl dX6_become_24 rfl ?_
      refine R_lload_n 26 rfl dX6_become_25 rfl ?_
      refine R_lload 28 rfl dX6_become_26 rfl ?_
      refine R_ldiv 29 rfl dX6_become_28 ⟨by omega, by omega⟩ ⟨by omega, by omega⟩ (by omega) ?_
      refine R_topL tdivT ?_
      refine R_putL 0 32 rfl dX6_become_29 rfl rfl fl_X6_7 ?_
      refine R_aload_n 33 rfl dX6_become_32 rfl ?_
      refine R_lload_n 34 rfl dX6_become_33 rfl ?_
      refine R_lload 36 rfl dX6_become_34 rfl ?_
      refine R_ldiv 37 rfl dX6_become_36 ⟨by omega, by omega⟩ ⟨by omega, by omega⟩ (by omega) ?_
      refine R_topL tdivB ?_
      refine R_putL 1 40 rfl dX6_become_37 rfl rfl fl_X6_13 ?_
      refine R_return dX6_become_40 rfl ?_
      exact Qv_mk rfl
    · exfalso; simp at *; omega
theorem lcm_pos {b a D : Int} (hb : 0 < b) (ha : 0 < a) (hD : 0 < D) (h1 : b ∣ D) (h2 : a ∣ D) : 0 < b / gcI b a * a ∧ b / gcI b a * a ≤ D ∧ b * (a / gcI b a) = b / gcI b a * a := by
  have g1 := gcI_pos (n := b) ha
  obtain ⟨b1, e1⟩ := gcI_l b a
  obtain ⟨a1, e2⟩ := gcI_r b a
  have d1 : b / gcI b a = b1 := by
    have : b / gcI b a = (gcI b a * b1) / gcI b a := by rw [← e1]
    rw [this, Int.mul_ediv_cancel_left _ (by omega)]
  have d2 : a / gcI b a = a1 := by
    have : a / gcI b a = (gcI b a * a1) / gcI b a := by rw [← e2]
    rw [this, Int.mul_ediv_cancel_left _ (by omega)]
  have e3 : b * (a / gcI b a) = b / gcI b a * a := by
    rw [d1, d2]
    calc b * a1 = gcI b a * b1 * a1 := by rw [← e1]
      _ = b1 * (gcI b a * a1) := by rw [Int.mul_comm (gcI b a) b1, Int.mul_assoc]
      _ = b1 * a := by rw [← e2]
  have hb1 : 0 < b1 := by
    rcases (show 0 < b1 ∨ b1 ≤ 0 by omega) with q | q
    · exact q
    · have := Int.mul_nonpos_of_nonneg_of_nonpos (Int.le_of_lt g1) q; omega
  have hq : 0 < b1 * a := Int.mul_pos hb1 ha
  refine ⟨by rw [d1]; exact hq, ?_, e3⟩
  rw [d1]
  have hl : ((Int.lcm b a : Nat) : Int) ∣ D := Int.coe_lcm_dvd h1 h2
  have hm : (Int.gcd b a * Int.lcm b a : Nat) = (b * a).natAbs := by rw [Int.gcd_mul_lcm, Int.natAbs_mul]
  have hm2 : gcI b a * ((Int.lcm b a : Nat) : Int) = b * a := by
    have h3 : ((Int.gcd b a * Int.lcm b a : Nat) : Int) = ((b * a).natAbs : Int) := by rw [hm]
    rw [Int.natCast_mul] at h3
    have h4 := Int.mul_pos hb ha
    show (Int.gcd b a : Int) * _ = _
    rw [h3]; omega
  have hm3 : gcI b a * ((Int.lcm b a : Nat) : Int) = gcI b a * (b1 * a) := by
    rw [hm2, ← Int.mul_assoc, ← e1]
  have hm4 : ((Int.lcm b a : Nat) : Int) = b1 * a := Int.eq_of_mul_eq_mul_left (by omega) hm3
  rw [hm4] at hl
  exact Int.le_of_dvd hD hl
/-- a sum over one denominator D -/
theorem add_pure {N D aT aB : Int} (hD : 0 < D) (ha : 0 < aB) (hd : aB ∣ D) {P Q : Int} (hP : P = rT N D * (aB / gcI (rB N D) aB) + aT * (rB N D / gcI (rB N D) aB)) (hQ : Q = rB N D / gcI (rB N D) aB * aB) (k : Int) (hk : -k ≤ N + aT * (D / aB) ∧ N + aT * (D / aB) ≤ k) :
    0 < Q ∧ Q ≤ D ∧ (-k ≤ P ∧ P ≤ k) ∧ rT P Q = rT (N + aT * (D / aB)) D ∧ rB P Q = rB (N + aT * (D / aB)) D := by
  have hb := rB_pos (n := N) hD
  obtain ⟨h1, h2, h3⟩ := lcm_pos hb ha hD (rB_dvd (n := N)) hd
  rw [← hQ] at h1 h2 h3
  have h4 := rTB (n := N) (d := D)
  have h5 : D / aB * aB = D := Int.ediv_mul_cancel hd
  have key : P * D = (N + aT * (D / aB)) * Q := by
    generalize hx : aB / gcI (rB N D) aB = x at hP h3
    generalize hy : rB N D / gcI (rB N D) aB = y at hP hQ
    generalize rT N D = t at hP h4
    generalize rB N D = b at h3 h4
    generalize D / aB = w at h5 ⊢
    have e1 : P * D = t * D * x + aT * D * y := by rw [hP, Int.add_mul, Int.mul_assoc t x D, Int.mul_comm x D, ← Int.mul_assoc t D x, Int.mul_assoc aT y D, Int.mul_comm y D, ← Int.mul_assoc aT D y]
    have e2 : (N + aT * w) * Q = N * Q + aT * (w * aB) * y := by
      rw [Int.add_mul, hQ]
      congr 1
      rw [Int.mul_assoc aT w, Int.mul_assoc aT (w * aB), Int.mul_assoc w aB y, Int.mul_comm y aB]
    rw [e1, e2, h4, h5, Int.mul_assoc N b x, h3]
  refine ⟨h1, h2, ?_, red_eq h1 hD key⟩
  generalize N + aT * (D / aB) = n' at key hk ⊢
  have f1 : n' * Q ≤ k * Q := Int.mul_le_mul_of_nonneg_right hk.2 (by omega)
  have f2 : -k * Q ≤ n' * Q := Int.mul_le_mul_of_nonneg_right hk.1 (by omega)
  have hk0 : 0 ≤ k := by omega
  have f3 : k * Q ≤ k * D := Int.mul_le_mul_of_nonneg_left h2 hk0
  have f4 : -k * D ≤ -k * Q := by rw [Int.neg_mul, Int.neg_mul]; omega
  constructor
  · exact Int.le_of_mul_le_mul_right (by omega : -k * D ≤ P * D) hD
  · exact Int.le_of_mul_le_mul_right (by omega : P * D ≤ k * D) hD
theorem tdivl {b a : Int} : b.tdiv (gcI b a) = b / gcI b a := Int.tdiv_eq_ediv_of_dvd (gcI_l b a)
theorem tdivr {b a : Int} : a.tdiv (gcI b a) = a / gcI b a := Int.tdiv_eq_ediv_of_dvd (gcI_r b a)
theorem raM_eq {m : Mem} {n d n' d' : Int} (h : rT n d = rT n' d' ∧ rB n d = rB n' d') : raM m n d = raM m n' d' := by unfold raM; rw [h.1, h.2]
theorem c_X6_add (N D aT aB : Int) (h0 : m.1 91 0 = rT N D) (h1 : m.1 91 1 = rB N D) (hD : 0 < D ∧ D < 9223372036854775808) (ha : 0 < aB) (hd : aB ∣ D) (hk : -9223372036854775807 ≤ N + aT * (D / aB) ∧ N + aT * (D / aB) ≤ 9223372036854775807) : C Γ mX6_add 2 80 0 0 [vr 91, vl aT, vl aB] SH m (Qv SH (raM m (N + aT * (D / aB)) D)) := by
  refine C_of_R rfl (Nat.le_of_ble_eq_true rfl) ?_
  have b1 := rB_pos (n := N) hD.1
  have b2 := rB_le (n := N) hD.1
  have a2 : aB ≤ D := Int.le_of_dvd hD.1 hd
  have g1 := gcI_pos (n := rB N D) ha
  have g2 := gcI_le (n := rB N D) ha
  obtain ⟨f1, f2, f3, f4⟩ := add_pure (N := N) (aT := aT) hD.1 ha hd rfl rfl _ hk
  have t1 : -9223372036854775808 ≤ rT N D ∧ rT N D < 9223372036854775808 → True := fun _ => trivial
  refine R_aload_n 1 rfl dX6_add_0 rfl ?_
  refine R_getL 1 4 rfl dX6_add_1 rfl rfl fl_X6_13 ?_
  rw [h1]
  refine R_lload_n 5 rfl dX6_add_4 rfl ?_
  refine R_callS_l (M' := mX6_commonOf) 8 rfl dX6_add_5 ml_X6_22 kmX6_commonOf st_X6_commonOf (c_X6_commonOf _ _ (rB N D).natAbs aB.natAbs (by omega) (by omega) (by omega) (by omega)) rfl rfl ⟨Nat.le_of_ble_eq_true rfl, Nat.le_of_ble_eq_true rfl⟩ (Nat.le_of_ble_eq_true rfl) ⟨Nat.le_of_ble_eq_true rfl, Nat.le_of_ble_eq_true rfl⟩ ?_
  refine R_topL (b := gcI (rB N D) aB) rfl ?_
  refine R_lstore [_, _, _, _, _, _, _] 10 rfl dX6_add_8 rfl (by decide) ?_
  refine R_lload_n 11 rfl dX6_add_10 rfl ?_
  refine R_lconst 12 rfl dX6_add_11 ?_
  refine R_lif_lt 13 16 23 rfl rfl rfl dX6_add_12 dX6_add_13 ⟨by omega, by omega⟩ ⟨by decide, by decide⟩ (fun h13 => ?_) (fun h13 => ?_)
  · exfalso; simp at *; omega
  · refine R_lload 18 rfl dX6_add_16 rfl ?_
    refine R_lconst 19 rfl dX6_add_18 ?_
    refine R_lif_ge 20 23 24 rfl rfl rfl dX6_add_19 dX6_add_20 ⟨by omega, by omega⟩ ⟨by decide, by decide⟩ (fun h20 => ?_) (fun h20 => ?_)
    · refine R_aload_n 25 rfl dX6_add_24 rfl ?_
      refine R_aload_n 26 rfl dX6_add_25 rfl ?_
      refine R_getL 0 29 rfl dX6_add_26 rfl rfl fl_X6_7 ?_
      rw [h0]
      refine R_lload_n 30 rfl dX6_add_29 rfl ?_
      refine R_lload 32 rfl dX6_add_30 rfl ?_
      refine R_ldiv 33 rfl dX6_add_32 ⟨by omega, by omega⟩ ⟨by omega, by omega⟩ (by omega) ?_
      refine R_topL tdivr ?_
      refine R_lmul 34 rfl dX6_add_33 ?_
      refine R_lload_n 35 rfl dX6_add_34 rfl ?_
      refine R_aload_n 36 rfl dX6_add_35 rfl ?_
      refine R_getL 1 39 rfl dX6_add_36 rfl rfl fl_X6_13 ?_
      rw [h1]
      refine R_lload 41 rfl dX6_add_39 rfl ?_
      refine R_ldiv 42 rfl dX6_add_41 ⟨by omega, by omega⟩ ⟨by omega, by omega⟩ (by omega) ?_
      refine R_topL tdivl ?_
      refine R_lmul 43 rfl dX6_add_42 ?_
      refine R_ladd 44 rfl dX6_add_43 ?_
      refine R_aload_n 45 rfl dX6_add_44 rfl ?_
      refine R_getL 1 48 rfl dX6_add_45 rfl rfl fl_X6_13 ?_
      rw [h1]
      refine R_lload 50 rfl dX6_add_48 rfl ?_
      refine R_ldiv 51 rfl dX6_add_50 ⟨by omega, by omega⟩ ⟨by omega, by omega⟩ (by omega) ?_
      refine R_topL tdivl ?_
      refine R_lload_n 52 rfl dX6_add_51 rfl ?_
      refine R_lmul 53 rfl dX6_add_52 ?_
      refine R_callV_v (M' := mX6_become) 56 rfl dX6_add_53 ml_X6_26 kmX6_become im_X6_become se_X6_become rfl ⟨by decide, rfl⟩ (c_X6_become _ _ ⟨by omega, by omega⟩ ⟨by omega, by omega⟩) rfl rfl ⟨Nat.le_of_ble_eq_true rfl, Nat.le_of_ble_eq_true rfl⟩ (Nat.le_of_ble_eq_true rfl) ⟨Nat.le_of_ble_eq_true rfl, Nat.le_of_ble_eq_true rfl⟩ ?_
      refine R_return dX6_add_56 rfl ?_
      exact Qv_mk (raM_eq f4)
    · exfalso; simp at *; omega
theorem c_X6_part (w : Int) (hw : 0 ≤ w ∧ w ≤ 5) : C Γ mX6_part 0 0 0 0 [vr 91, vi w] SH m (Ql SH m (if w % 2 = 0 then m.1 91 0 else m.1 91 1)) := by
  refine C_of_R rfl (Nat.le_of_ble_eq_true rfl) ?_
  refine R_iload_n 1 rfl dX6_part_0 rfl ?_
  refine R_iconst 2 rfl dX6_part_1 ?_
  refine R_irem_p 3 rfl dX6_part_2 (by first | assumption | exact ⟨by omega, by omega⟩) (by first | assumption | exact ⟨by omega, by omega⟩) (by omega) (by omega) ?_
  refine R_if_ne 6 13 rfl rfl dX6_part_3 (by first | assumption | exact ⟨by omega, by omega⟩) (fun h3 => ?_) (fun h3 => ?_)
  · refine R_aload_n 14 rfl dX6_part_13 rfl ?_
    refine R_getL 1 17 rfl dX6_part_14 rfl rfl fl_X6_13 ?_
    refine R_lreturn dX6_part_17 rfl ?_
    exact Ql_mk (by split <;> omega)
  · refine R_aload_n 7 rfl dX6_part_6 rfl ?_
    refine R_getL 0 10 rfl dX6_part_7 rfl rfl fl_X6_7 ?_
    refine R_goto 17 rfl dX6_part_10 ?_
    refine R_lreturn dX6_part_17 rfl ?_
    exact Ql_mk (by split <;> omega)
theorem c_X11_common (a b : Int) (ha : -9223372036854775808 < a ∧ a < 9223372036854775808) (hb : 0 ≤ b ∧ b < 9223372036854775808) : C Γ mX11_common 0 0 0 0 [vl a, vl b] S m (Ql S m (gcI a b)) := by
  refine C_of_R rfl (Nat.le_of_ble_eq_true rfl) ?_
  have Lp : ∀ n g l z4 z6 w9, l ≤ n → Int.gcd a b = Nat.gcd g l → g < 9223372036854775808 → l < 9223372036854775808 → z4 = (g : Int) → z6 = (l : Int) → R Γ mX11_common { frames := 0, cells := 0, slots := 0, locals := 0 } 0 0 (Ql S m (gcI a b)) 0 0 17 [some (vl a), none, some (vl b), none, some (vl z4), none, some (vl z6), none, w9, none] [] S m := by
    intro n
    induction n with
    | zero =>
      intro g l z4 z6 w9 hn hg h1 h2 e4 e6
      have e : l = 0 := Nat.le_zero.mp hn
      subst e
      refine R_lload 19 rfl dX11_common_17 rfl ?_
      refine R_lconst 20 rfl dX11_common_19 ?_
      refine R_lif_eq 21 24 42 rfl rfl rfl dX11_common_20 dX11_common_21 ⟨by omega, by omega⟩ ⟨by decide, by decide⟩ (fun h21 => ?_) (fun h21 => ?_)
      · refine R_lload 44 rfl dX11_common_42 rfl ?_
        refine R_lreturn dX11_common_44 rfl ?_
        exact Ql_mk (by unfold gcI; rw [e4, hg, Nat.gcd_zero_right])
      · exact absurd e6 h21
    | succ n ih =>
      intro g l z4 z6 w9 hn hg h1 h2 e4 e6
      refine R_lload 19 rfl dX11_common_17 rfl ?_
      refine R_lconst 20 rfl dX11_common_19 ?_
      refine R_lif_eq 21 24 42 rfl rfl rfl dX11_common_20 dX11_common_21 ⟨by omega, by omega⟩ ⟨by decide, by decide⟩ (fun h21 => ?_) (fun h21 => ?_)
      · refine R_lload 44 rfl dX11_common_42 rfl ?_
        refine R_lreturn dX11_common_44 rfl ?_
        exact Ql_mk (by have e : l = 0 := (by have : z6 = 0 := h21; omega); subst e; unfold gcI; rw [e4, hg, Nat.gcd_zero_right])
      · have e : l ≠ 0 := fun e => h21 (by rw [e6, e]; rfl)
        refine R_lload 26 rfl dX11_common_24 rfl ?_
        refine R_lload 28 rfl dX11_common_26 rfl ?_
        refine R_lrem_p 29 rfl dX11_common_28 ⟨by omega, by omega⟩ ⟨by omega, by omega⟩ (by omega) (by omega) ?_
        refine R_lstore [_, _, _, _, _, _, _, _, _, _] 31 rfl dX11_common_29 rfl (by decide) ?_
        refine R_lload 33 rfl dX11_common_31 rfl ?_
        refine R_lstore [_, _, _, _, _, _, _, _, _, _] 35 rfl dX11_common_33 rfl (by decide) ?_
        refine R_lload 37 rfl dX11_common_35 rfl ?_
        refine R_lstore [_, _, _, _, _, _, _, _, _, _] 39 rfl dX11_common_37 rfl (by decide) ?_
        refine R_goto 17 rfl dX11_common_39 ?_
        have e2 : ((g : Int) % (l : Int)) = ((g % l : Nat) : Int) := (Int.natCast_emod g l).symm
        have e3 := Nat.mod_lt g (Nat.pos_of_ne_zero e)
        have e5 := gcd_step (g := g) (l := l)
        exact ih l (g % l) _ _ _ (by omega) (by rw [← e5]; exact hg) (by omega) (by omega) e6 (by rw [e4, e6]; exact e2)
  refine R_lload_n 1 rfl dX11_common_0 rfl ?_
  refine R_lconst 2 rfl dX11_common_1 ?_
  refine R_lif_ge 3 6 11 rfl rfl rfl dX11_common_2 dX11_common_3 ⟨by omega, by omega⟩ ⟨by decide, by decide⟩ (fun h3 => ?_) (fun h3 => ?_)
  · refine R_lload_n 12 rfl dX11_common_11 rfl ?_
    refine R_lstore [_, _, _, _, _, _, _, _, _, _] 14 rfl dX11_common_12 rfl (by decide) ?_
    refine R_lload_n 15 rfl dX11_common_14 rfl ?_
    refine R_lstore [_, _, _, _, _, _, _, _, _, _] 17 rfl dX11_common_15 rfl (by decide) ?_
    simp at h3
    exact Lp _ a.natAbs b.natAbs _ _ _ (Nat.le_refl _) rfl (by omega) (by omega) (by omega) (by omega)
  · refine R_lload_n 7 rfl dX11_common_6 rfl ?_
    refine R_lneg 8 rfl dX11_common_7 ?_
    refine R_goto 12 rfl dX11_common_8 ?_
    refine R_lstore [_, _, _, _, _, _, _, _, _, _] 14 rfl dX11_common_12 rfl (by decide) ?_
    refine R_lload_n 15 rfl dX11_common_14 rfl ?_
    refine R_lstore [_, _, _, _, _, _, _, _, _, _] 17 rfl dX11_common_15 rfl (by decide) ?_
    simp at h3
    exact Lp _ a.natAbs b.natAbs _ _ _ (Nat.le_refl _) rfl (by omega) (by omega) (by omega) (by omega)
end
