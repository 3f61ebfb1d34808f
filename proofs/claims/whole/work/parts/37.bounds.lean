/-! bounds of sums -/
theorem mulb {x y X Y : Int} (hx : 0 ≤ x ∧ x ≤ X) (hy : 0 ≤ y ∧ y ≤ Y) : 0 ≤ x * y ∧ x * y ≤ X * Y :=
  ⟨Int.mul_nonneg hx.1 hy.1, Int.mul_le_mul hx.2 hy.2 hy.1 (by omega)⟩
def nz (x : Nat) : Nat := if x = 0 then 1 else x
theorem nz_pos (x : Nat) : 0 < nz x := by unfold nz; split <;> omega
theorem nz_id {x : Nat} (h : x ≠ 0) : nz x = x := by unfold nz; rw [if_neg h]
def lcmU (f : Nat → Nat) : Nat → Nat
  | 0 => 1
  | n + 1 => Nat.lcm (lcmU f n) (nz (f n))
def prodU (f : Nat → Nat) : Nat → Nat
  | 0 => 1
  | n + 1 => prodU f n * nz (f n)
def sumU (f : Nat → Nat) : Nat → Nat
  | 0 => 0
  | n + 1 => sumU f n + f n
theorem lcmU_pos (f : Nat → Nat) (n : Nat) : 0 < lcmU f n := by
  induction n with
  | zero => exact Nat.one_pos
  | succ n ih => exact Nat.lcm_pos ih (nz_pos _)
theorem lcmU_dvd {f : Nat → Nat} {n g : Nat} (hg : g < n) (h : f g ≠ 0) : f g ∣ lcmU f n := by
  induction n with
  | zero => omega
  | succ n ih =>
    by_cases e : g = n
    · subst e
      have := Nat.dvd_lcm_right (lcmU f g) (nz (f g))
      rw [nz_id h] at this
      unfold lcmU
      rw [nz_id h]
      exact this
    · exact Nat.dvd_trans (ih (by omega)) (Nat.dvd_lcm_left _ _)
theorem lcmU_min {f : Nat → Nat} {n K : Nat} (h : ∀ g, g < n → f g ≠ 0 → f g ∣ K) : lcmU f n ∣ K := by
  induction n with
  | zero => exact Nat.one_dvd K
  | succ n ih =>
    refine Nat.lcm_dvd (ih (fun g hg => h g (by omega))) ?_
    by_cases e : f n = 0
    · unfold nz; rw [if_pos e]; exact Nat.one_dvd K
    · rw [nz_id e]; exact h n (by omega) e
theorem prodU_pos (f : Nat → Nat) (n : Nat) : 0 < prodU f n := by
  induction n with
  | zero => exact Nat.one_pos
  | succ n ih => exact Nat.mul_pos ih (nz_pos _)
theorem prodU_dvd {f : Nat → Nat} {n g : Nat} (hg : g < n) : nz (f g) ∣ prodU f n := by
  induction n with
  | zero => omega
  | succ n ih =>
    by_cases e : g = n
    · subst e; exact Nat.dvd_mul_left _ _
    · exact Nat.dvd_trans (ih (by omega)) (Nat.dvd_mul_right _ _)
theorem prodU_le {f g : Nat → Nat} {n : Nat} (h : ∀ k, k < n → nz (f k) ≤ nz (g k)) : prodU f n ≤ prodU g n := by
  induction n with
  | zero => exact Nat.le_refl _
  | succ n ih => exact Nat.mul_le_mul (ih (fun k hk => h k (by omega))) (h n (by omega))
theorem cube_le (x : Nat) : x * x * x ≤ 3 ^ x := by
  induction x with
  | zero => simp
  | succ x ih =>
    by_cases h2 : x ≤ 2
    · rcases (show x = 0 ∨ x = 1 ∨ x = 2 by omega) with rfl | rfl | rfl <;> decide
    · have h3 : 3 ^ (x + 1) = 3 * 3 ^ x := by rw [Nat.pow_succ, Nat.mul_comm]
      have e1 : (x + 1) * (x + 1) * (x + 1) = x * x * x + 3 * (x * x) + 3 * x + 1 := by
        simp only [Nat.add_mul, Nat.mul_add, Nat.mul_one, Nat.one_mul]
        omega
      have h4 : 3 * (x * x) ≤ x * x * x := by rw [Nat.mul_comm (x * x) x]; exact Nat.mul_le_mul_right _ (by omega)
      have h5 : 3 * x ≤ x * x := Nat.mul_le_mul_right _ (by omega)
      have h6 : 3 * (3 * x) ≤ 3 * (x * x) := Nat.mul_le_mul_left _ h5
      omega
theorem nz_cube (x : Nat) : nz x * nz x * nz x ≤ 3 ^ x := by
  unfold nz
  split
  · rename_i h; subst h; decide
  · exact cube_le x
theorem prodU_cube (f : Nat → Nat) (n : Nat) : prodU f n * prodU f n * prodU f n ≤ 3 ^ sumU f n := by
  induction n with
  | zero => exact Nat.le_refl _
  | succ n ih =>
    have h1 := nz_cube (f n)
    have h2 := Nat.mul_le_mul ih h1
    unfold prodU sumU
    rw [Nat.pow_add]
    have e : prodU f n * nz (f n) * (prodU f n * nz (f n)) * (prodU f n * nz (f n)) = prodU f n * prodU f n * prodU f n * (nz (f n) * nz (f n) * nz (f n)) := by
      simp only [Nat.mul_assoc, Nat.mul_left_comm, Nat.mul_comm]
    rw [e]
    exact h2
theorem cube_bd {x S c C : Nat} (h : x * x * x ≤ 3 ^ S) (hS : S ≤ C) (hc : 3 ^ C < (c + 1) * (c + 1) * (c + 1)) : x ≤ c := by
  have h1 : 3 ^ S ≤ 3 ^ C := Nat.pow_le_pow_right (by decide) hS
  rcases Nat.lt_or_ge c x with q | q
  · have h2 : (c + 1) * (c + 1) * (c + 1) ≤ x * x * x := Nat.mul_le_mul (Nat.mul_le_mul q q) q
    omega
  · exact q
theorem prod80 {f : Nat → Nat} {n : Nat} (h : sumU f n ≤ 80) : prodU f n ≤ 5300000000000 := cube_bd (prodU_cube f n) h (by decide)
theorem prod40 {f : Nat → Nat} {n : Nat} (h : sumU f n ≤ 40) : prodU f n ≤ 2300000 := cube_bd (prodU_cube f n) h (by decide)
/-- groups that don't overlap -/
theorem sum_cnt {P : Nat → Nat → Bool} {G : Nat → Int} {N n : Nat} (h : ∀ g k, k < N → P g k = true → G k = (g : Int)) : sumU (fun g => cnt (P g) N) n ≤ N := by
  induction N with
  | zero =>
    have : ∀ n, sumU (fun g => cnt (P g) 0) n = 0 := fun n => by
      induction n with
      | zero => rfl
      | succ n ih => unfold sumU; rw [ih]; rfl
    rw [this]; exact Nat.le_refl 0
  | succ N ih =>
    have h1 := ih (fun g k hk => h g k (by omega))
    have h2 : ∀ n, sumU (fun g => cnt (P g) (N + 1)) n ≤ sumU (fun g => cnt (P g) N) n + 1 ∧ ((∀ g, g < n → ¬ P g N = true) → sumU (fun g => cnt (P g) (N + 1)) n = sumU (fun g => cnt (P g) N) n) := by
      intro n
      induction n with
      | zero => exact ⟨Nat.zero_le _, fun _ => rfl⟩
      | succ n ih2 =>
        simp only [sumU]
        by_cases e : P n N = true
        · have e2 : ∀ g, g < n → ¬ P g N = true := fun g hg q => by
            have q1 := h g N (by omega) q
            have q2 := h n N (by omega) e
            omega
          have e3 := ih2.2 e2
          rw [e3, cnt_y e]
          exact ⟨by omega, fun q => absurd e (q n (by omega))⟩
        · rw [cnt_n e]
          exact ⟨by have := ih2.1; omega, fun q => by rw [ih2.2 (fun g hg => q g (by omega))]⟩
    have := (h2 n).1
    omega
/-- marks by their marriages -/
theorem cnt_two {f : Nat → Bool} {h : Nat → Bool} {p : Nat → Bool} {n : Nat} (hp : ∀ k, k < 2 * n → p k = (f (k / 2) && h (k % 2))) : cnt p (2 * n) = cnt f n * ((if h 0 = true then 1 else 0) + (if h 1 = true then 1 else 0)) := by
  induction n with
  | zero => simp [cnt]
  | succ n ih =>
    have e1 : cnt p (2 * (n + 1)) = cnt p (2 * n) + (if p (2 * n) = true then 1 else 0) + (if p (2 * n + 1) = true then 1 else 0) := rfl
    have e2 : cnt f (n + 1) = cnt f n + (if f n = true then 1 else 0) := rfl
    have e3 := hp (2 * n) (by omega)
    have e4 := hp (2 * n + 1) (by omega)
    rw [show 2 * n / 2 = n by omega, show 2 * n % 2 = 0 by omega] at e3
    rw [show (2 * n + 1) / 2 = n by omega, show (2 * n + 1) % 2 = 1 by omega] at e4
    rw [e1, e2, e3, e4, ih (fun k hk => hp k (by omega)), Nat.add_mul]
    cases f n <;> simp <;> omega
section
variable {B : Bk} {L : Ld} {ch : Cs}
/-- a marriage of a choice, sides aside -/
def inM (B : Bk) (ch : Cs) (c j : Nat) : Bool := tb (ch c 0) (B.2.1 0 j) && (decide (ch c 1 ≤ B.2.1 1 j) && decide (B.2.1 1 j ≤ ch c 2)) && tb (ch c 4) (B.2.1 2 j)
def gM (B : Bk) (gr : Int) (j : Nat) : Int := if gr = 0 then B.2.1 0 j else B.2.1 2 j
def eM (B : Bk) (ch : Cs) (c : Nat) (gr : Int) (g j : Nat) : Bool := inM B ch c j && decide (gM B gr j = (g : Int))
def sdN (ch : Cs) (c : Nat) : Nat := (if tb (ch c 3) 0 = true then 1 else 0) + (if tb (ch c 3) 1 = true then 1 else 0)
theorem tg_two (c g : Nat) {gr : Int} (hg : gr = 0 ∨ gr = 1) : cnt (tgP B ch c gr g) (2 * B.1) = cnt (eM B ch c gr g) B.1 * sdN ch c := by
  refine cnt_two (h := fun s => tb (ch c 3) (s : Int)) (fun k hk => ?_)
  have e : grp B k gr = gM B gr (k / 2) := by
    rcases hg with rfl | rfl
    · rfl
    · unfold grp gM; rw [if_neg (by omega), if_pos rfl, if_neg (by omega)]
  unfold tgP eM inC inM
  rw [e]
  generalize tb (ch c 0) (B.2.1 0 (k / 2)) = x1
  generalize (decide (ch c 1 ≤ B.2.1 1 (k / 2)) && decide (B.2.1 1 (k / 2) ≤ ch c 2)) = x2
  generalize tb (ch c 3) ((k % 2 : Nat) : Int) = x3
  generalize tb (ch c 4) (B.2.1 2 (k / 2)) = x4
  cases x1 <;> cases x2 <;> cases x3 <;> cases x4 <;> simp
theorem sdN_le (ch : Cs) (c : Nat) : sdN ch c ≤ 2 := by unfold sdN; split <;> split <;> omega
def mkN (B : Bk) (ch : Cs) (gr : Int) (c g : Nat) : Nat := cnt (tgP B ch c gr g) (2 * B.1)
def oN (x a b : Nat) : Nat := if 0 < x then a else b
def ddN (B : Bk) (ch : Cs) (gr : Int) (g : Nat) : Nat := oN (mkN B ch gr 0 g) (mkN B ch gr 0 g) (mkN B ch gr 1 g) * oN (mkN B ch gr 1 g) (mkN B ch gr 1 g) (mkN B ch gr 0 g)
def ptX (B : Bk) (ch : Cs) (gr : Int) : Nat := lcmU (ddN B ch gr) 15
theorem four_dvd {a b : Nat} (ha : a ≤ 2) (hb : b ≤ 2) (h0 : a ≠ 0) (h1 : b ≠ 0) : a * b ∣ 4 := by
  rcases (show a = 1 ∨ a = 2 by omega) with rfl | rfl <;> rcases (show b = 1 ∨ b = 2 by omega) with rfl | rfl <;> decide
theorem ptX_le {np gr : Int} (hO : BkOk np B) (hg : 0 ≤ gr ∧ gr ≤ 3) : ptX B ch gr ≤ 21160000000000 := by
  by_cases hgr : gr = 0 ∨ gr = 1
  · have h1 := fun c g => tg_two (B := B) (ch := ch) c g hgr
    let T : Nat → Nat := fun g => cnt (fun j => decide (gM B gr j = (g : Int))) B.1
    let E : Nat → Nat → Nat := fun c g => cnt (eM B ch c gr g) B.1
    let s : Nat → Nat := sdN ch
    let E0 : Nat → Nat := fun g => oN (mkN B ch gr 0 g) (E 0 g) (E 1 g)
    let E1 : Nat → Nat := fun g => oN (mkN B ch gr 1 g) (E 1 g) (E 0 g)
    have hm : ∀ c g, mkN B ch gr c g = E c g * s c := h1
    have hT : prodU T 15 ≤ 2300000 := prod40 (Nat.le_trans (sum_cnt (G := gM B gr) (fun g k hk q => by simpa using q)) hO.1)
    have hE : ∀ c g, E c g ≤ T g := fun c g => cnt_mono (fun k hk q => by simp [eM] at q; simp [q.2])
    have nzm : ∀ a b, a ≤ b → nz a ≤ nz b := fun a b h => by unfold nz; split <;> split <;> omega
    have hE0 : prodU E0 15 ≤ 2300000 := Nat.le_trans (prodU_le (fun k hk => nzm _ _ (by show oN _ _ _ ≤ _; unfold oN; split; exact hE _ _; exact hE _ _))) hT
    have hE1 : prodU E1 15 ≤ 2300000 := Nat.le_trans (prodU_le (fun k hk => nzm _ _ (by show oN _ _ _ ≤ _; unfold oN; split; exact hE _ _; exact hE _ _))) hT
    have hd : ptX B ch gr ∣ 4 * (prodU E0 15 * prodU E1 15) := by
      refine lcmU_min (fun g hg h0 => ?_)
      have key : ∀ a b a' b' : Nat, a ≤ 2 → b ≤ 2 → a' * a * (b' * b) ≠ 0 → E0 g = a' → E1 g = b' → a' * a * (b' * b) ∣ 4 * (prodU E0 15 * prodU E1 15) := by
        intro a b a' b' ha hb hne e0 e1
        have n1 : a ≠ 0 := fun e => hne (by rw [e]; simp)
        have n2 : b ≠ 0 := fun e => hne (by rw [e]; simp)
        have n3 : a' ≠ 0 := fun e => hne (by rw [e]; simp)
        have n4 : b' ≠ 0 := fun e => hne (by rw [e]; simp)
        have d1 : a' ∣ prodU E0 15 := by have := prodU_dvd (f := E0) hg; rw [e0, nz_id n3] at this; exact this
        have d2 : b' ∣ prodU E1 15 := by have := prodU_dvd (f := E1) hg; rw [e1, nz_id n4] at this; exact this
        have e : a' * a * (b' * b) = a * b * (a' * b') := by simp only [Nat.mul_assoc, Nat.mul_left_comm, Nat.mul_comm]
        rw [e]
        exact Nat.mul_dvd_mul (four_dvd ha hb n1 n2) (Nat.mul_dvd_mul d1 d2)
      unfold ddN at h0 ⊢
      have s0 : s 0 ≤ 2 := sdN_le ch 0
      have s1 : s 1 ≤ 2 := sdN_le ch 1
      by_cases q0 : 0 < mkN B ch gr 0 g
      · by_cases q1 : 0 < mkN B ch gr 1 g
        · have x0 : E0 g = E 0 g := if_pos q0
          have x1 : E1 g = E 1 g := if_pos q1
          unfold oN at h0 ⊢
          rw [if_pos q0, if_pos q1, hm, hm] at h0 ⊢
          exact key _ _ _ _ s0 s1 h0 x0 x1
        · have x0 : E0 g = E 0 g := if_pos q0
          have x1 : E1 g = E 0 g := if_neg q1
          unfold oN at h0 ⊢
          rw [if_pos q0, if_neg q1, hm] at h0 ⊢
          exact key _ _ _ _ s0 s0 h0 x0 x1
      · by_cases q1 : 0 < mkN B ch gr 1 g
        · have x0 : E0 g = E 1 g := if_neg q0
          have x1 : E1 g = E 1 g := if_pos q1
          unfold oN at h0 ⊢
          rw [if_neg q0, if_pos q1, hm] at h0 ⊢
          exact key _ _ _ _ s1 s1 h0 x0 x1
        · exfalso
          unfold oN at h0
          rw [if_neg q0, if_neg q1, show mkN B ch gr 1 g = 0 by omega] at h0
          simp at h0
    have h3 := Nat.le_of_dvd (Nat.mul_pos (by decide) (Nat.mul_pos (prodU_pos _ _) (prodU_pos _ _))) hd
    have h4 := Nat.mul_le_mul hE0 hE1
    omega
  · have hb : ∀ c g, mkN B ch gr c g ≤ 80 := fun c g => Nat.le_trans (cnt_le _ _) (by have := hO.1; omega)
    have hz : ∀ c g, 2 ≤ g → mkN B ch gr c g = 0 := fun c g h2 => by
      have : cnt (tgP B ch c gr g) (2 * B.1) ≤ cnt (fun _ => false) (2 * B.1) := cnt_mono (fun k hk q => by
        simp [tgP] at q
        have r := (hO.2.2 k hk).2.2.2.2.2.2
        have q2 := q.2
        unfold grp at q2
        rw [if_neg (by omega), if_neg (by omega)] at q2
        split at q2 <;> omega)
      have z : ∀ n, cnt (fun _ => false) n = 0 := fun n => by
        induction n with
        | zero => rfl
        | succ n ih => rw [cnt_n (by simp)]; exact ih
      rw [z] at this
      unfold mkN; omega
    have hd80 : ∀ g, ddN B ch gr g ≤ 6400 := fun g => by
      have a1 := hb 0 g
      have a2 := hb 1 g
      have : ∀ x y : Nat, x ≤ 80 → y ≤ 80 → x * y ≤ 6400 := fun x y hx hy => Nat.mul_le_mul hx hy
      unfold ddN oN
      apply this <;> split <;> assumption
    have hnz : ∀ g, nz (ddN B ch gr g) ≤ 6400 := fun g => by have := hd80 g; unfold nz; split <;> omega
    have hd : ptX B ch gr ∣ nz (ddN B ch gr 0) * nz (ddN B ch gr 1) := by
      refine lcmU_min (fun g hg h0 => ?_)
      rcases (show g = 0 ∨ g = 1 ∨ 2 ≤ g by omega) with rfl | rfl | h2
      · have := Nat.dvd_mul_right (nz (ddN B ch gr 0)) (nz (ddN B ch gr 1))
        rw [nz_id h0] at this ⊢
        exact this
      · have := Nat.dvd_mul_left (nz (ddN B ch gr 1)) (nz (ddN B ch gr 0))
        rw [nz_id h0] at this ⊢
        exact this
      · exfalso
        unfold ddN oN at h0
        rw [hz 0 g h2, hz 1 g h2] at h0
        simp at h0
    have h3 := Nat.le_of_dvd (Nat.mul_pos (nz_pos _) (nz_pos _)) hd
    have h4 := Nat.mul_le_mul (hnz 0) (hnz 1)
    omega
end
