/-! numbers: a mathematical integer stands for the machine's int (iz) and long (lz) -/
def iz (z : Int) : Int32 := Int32.ofInt z
def lz (z : Int) : Int64 := Int64.ofInt z
def rg (z : Int) : Prop := -2147483648 ≤ z ∧ z < 2147483648
def rgL (z : Int) : Prop := -9223372036854775808 ≤ z ∧ z < 9223372036854775808
def bI (b : Bool) : Int := if b = true then 1 else 0
theorem bI_01 (b : Bool) : bI b = 0 ∨ bI b = 1 := by cases b <;> simp [bI]
theorem rg_bI (b : Bool) : rg (bI b) := by cases b <;> simp [bI, rg]
theorem bI_t : bI true = 1 := rfl
theorem bI_f : bI false = 0 := rfl
theorem bI_eq0 (b : Bool) : bI b = 0 ↔ b = false := by cases b <;> simp [bI]
theorem bI_eq1 (b : Bool) : bI b = 1 ↔ b = true := by cases b <;> simp [bI]
theorem rg_of {z : Int} (h1 : -2147483648 ≤ z) (h2 : z < 2147483648) : rg z := ⟨h1, h2⟩
theorem rg_n {n : Nat} (h : n < 2147483648) : rg (n : Int) := ⟨by omega, by omega⟩
theorem rg_i (x : Int32) : rg x.toInt := ⟨by have := x.le_toInt; omega, by have := x.toInt_lt; omega⟩
theorem rg_L {z : Int} (h : rg z) : rgL z := ⟨by have := h.1; omega, by have := h.2; omega⟩
theorem iz_toInt {z : Int} (h : rg z) : (iz z).toInt = z := Int32.toInt_ofInt_of_le (by have := h.1; omega) (by have := h.2; omega)
theorem lz_toInt {z : Int} (h : rgL z) : (lz z).toInt = z := Int64.toInt_ofInt_of_le (by have := h.1; omega) (by have := h.2; omega)
theorem iz_of (x : Int32) : iz x.toInt = x := Int32.ofInt_toInt x
theorem iz_lt {a b : Int} (ha : rg a) (hb : rg b) : iz a < iz b ↔ a < b := by rw [Int32.lt_iff_toInt_lt, iz_toInt ha, iz_toInt hb]
theorem iz_le {a b : Int} (ha : rg a) (hb : rg b) : iz a ≤ iz b ↔ a ≤ b := by rw [Int32.le_iff_toInt_le, iz_toInt ha, iz_toInt hb]
theorem iz_eq {a b : Int} (ha : rg a) (hb : rg b) : iz a = iz b ↔ a = b := by rw [← Int32.toInt_inj, iz_toInt ha, iz_toInt hb]
theorem lz_lt {a b : Int} (ha : rgL a) (hb : rgL b) : lz a < lz b ↔ a < b := by rw [Int64.lt_iff_toInt_lt, lz_toInt ha, lz_toInt hb]
theorem lz_eq {a b : Int} (ha : rgL a) (hb : rgL b) : lz a = lz b ↔ a = b := by rw [← Int64.toInt_inj, lz_toInt ha, lz_toInt hb]
theorem rg_0 : rg 0 := ⟨by omega, by omega⟩
theorem iz_lt0 {a : Int} (ha : rg a) : iz a < 0 ↔ a < 0 := iz_lt (b := 0) ha rg_0
theorem iz_le0 {a : Int} (ha : rg a) : iz a ≤ 0 ↔ a ≤ 0 := iz_le (b := 0) ha rg_0
theorem iz_0le {a : Int} (ha : rg a) : 0 ≤ iz a ↔ 0 ≤ a := iz_le (a := 0) rg_0 ha
theorem iz_0lt {a : Int} (ha : rg a) : 0 < iz a ↔ 0 < a := iz_lt (a := 0) rg_0 ha
theorem iz_eq0 {a : Int} (ha : rg a) : iz a = 0 ↔ a = 0 := iz_eq (b := 0) ha rg_0
theorem iz_add (a b : Int) : iz a + iz b = iz (a + b) := (Int32.ofInt_add a b).symm
theorem iz_sub (a b : Int) : iz a - iz b = iz (a - b) := (Int32.ofInt_sub a b).symm
theorem iz_mul (a b : Int) : iz a * iz b = iz (a * b) := (Int32.ofInt_mul a b).symm
theorem iz_neg (a : Int) : - iz a = iz (-a) := (Int32.ofInt_neg a).symm
theorem lz_add (a b : Int) : lz a + lz b = lz (a + b) := (Int64.ofInt_add a b).symm
theorem lz_sub (a b : Int) : lz a - lz b = lz (a - b) := (Int64.ofInt_sub a b).symm
theorem lz_mul (a b : Int) : lz a * lz b = lz (a * b) := (Int64.ofInt_mul a b).symm
theorem lz_neg (a : Int) : - lz a = lz (-a) := (Int64.ofInt_neg a).symm
theorem iz_nat (n : Nat) : iz (n : Int) = nI n := Int32.ofInt_eq_ofNat
theorem iz_div {a b : Int} (ha : rg a) (hb : rg b) : iz a / iz b = iz (a.tdiv b) := by
  rw [← Int32.toInt_inj, Int32.toInt_div, iz_toInt ha, iz_toInt hb]
  exact Int32.toInt_ofInt.symm
theorem iz_rem {a b : Int} (ha : rg a) (hb : rg b) : iz a - iz a / iz b * iz b = iz (a.tmod b) := by
  rw [iz_div ha hb, iz_mul, iz_sub, Int.tmod_def, Int.mul_comm]
theorem lz_div {a b : Int} (ha : rgL a) (hb : rgL b) : lz a / lz b = lz (a.tdiv b) := by
  rw [← Int64.toInt_inj, Int64.toInt_div, lz_toInt ha, lz_toInt hb]
  exact Int64.toInt_ofInt.symm
theorem lz_rem {a b : Int} (ha : rgL a) (hb : rgL b) : lz a - lz a / lz b * lz b = lz (a.tmod b) := by
  rw [lz_div ha hb, lz_mul, lz_sub, Int.tmod_def, Int.mul_comm]
theorem iz_ne0 {b : Int} (hb : rg b) (h : b ≠ 0) : ¬ iz b = 0 := fun q => h ((iz_eq0 hb).mp q)
theorem lz_ne0 {b : Int} (hb : rgL b) (h : b ≠ 0) : ¬ lz b = 0 := fun q => h ((lz_eq (b := 0) hb ⟨by omega, by omega⟩).mp q)
theorem iz_clamp {z : Int} (h : rg z) : (iz z).toNatClampNeg = z.toNat := by
  show (iz z).toInt.toNat = z.toNat
  rw [iz_toInt h]
theorem iz_in {z : Int} {n : Nat} (hn : n < 2147483648) (h0 : 0 ≤ z) (h1 : z < n) : vp_in (iz z) n := by
  rw [vp_in_iff, iz_toInt ⟨by omega, by omega⟩]
  exact ⟨h0, h1⟩
theorem iz_l {z : Int} (h : rg z) : (iz z).toInt64 = lz z := by
  rw [← Int64.toInt_inj, Int32.toInt_toInt64, iz_toInt h, lz_toInt (rg_L h)]
theorem lz_i (z : Int) : (lz z).toInt32 = iz z := Int64.toInt32_ofInt
theorem iz_b (z : Int) : (iz z).toInt8.toInt32 = iz (z.bmod 256) := by
  show (Int32.ofInt z).toInt8.toInt32 = Int32.ofInt (z.bmod 256)
  rw [Int32.toInt8_ofInt, ← Int32.ofInt_int8ToInt, Int8.toInt_ofInt]
theorem iz_s (z : Int) : (iz z).toInt16.toInt32 = iz (z.bmod 65536) := by
  show (Int32.ofInt z).toInt16.toInt32 = Int32.ofInt (z.bmod 65536)
  rw [Int32.toInt16_ofInt, ← Int32.ofInt_int16ToInt, Int16.toInt_ofInt]
theorem iz_bv (z : Int) : (iz z).toBitVec.toNat = (z % 4294967296).toNat := by
  show (BitVec.ofInt 32 z).toNat = _
  rw [BitVec.toNat_ofInt]
  rfl
theorem iz_ext {x : Int32} {z : Int} (h : (x.toBitVec.toNat : Int) = z % 4294967296) : x = iz z := by
  apply Int32.toBitVec_inj.mp
  apply BitVec.eq_of_toNat_eq
  rw [iz_bv]
  omega
theorem iz_and {a b : Nat} : iz (a : Int) &&& iz (b : Int) = iz ((a &&& b : Nat) : Int) := by
  apply Int32.toBitVec_inj.mp
  show (BitVec.ofInt 32 (a : Int)) &&& (BitVec.ofInt 32 (b : Int)) = BitVec.ofInt 32 ((a &&& b : Nat) : Int)
  rw [BitVec.ofInt_natCast, BitVec.ofInt_natCast, BitVec.ofInt_natCast, BitVec.ofNat_and]
theorem iz_or {a b : Nat} : iz (a : Int) ||| iz (b : Int) = iz ((a ||| b : Nat) : Int) := by
  apply Int32.toBitVec_inj.mp
  show (BitVec.ofInt 32 (a : Int)) ||| (BitVec.ofInt 32 (b : Int)) = BitVec.ofInt 32 ((a ||| b : Nat) : Int)
  rw [BitVec.ofInt_natCast, BitVec.ofInt_natCast, BitVec.ofInt_natCast, BitVec.ofNat_or]
theorem iz_xor {a b : Nat} : iz (a : Int) ^^^ iz (b : Int) = iz ((a ^^^ b : Nat) : Int) := by
  apply Int32.toBitVec_inj.mp
  show (BitVec.ofInt 32 (a : Int)) ^^^ (BitVec.ofInt 32 (b : Int)) = BitVec.ofInt 32 ((a ^^^ b : Nat) : Int)
  rw [BitVec.ofInt_natCast, BitVec.ofInt_natCast, BitVec.ofInt_natCast, BitVec.ofNat_xor]
theorem iz_mask (a : Int) (k : Nat) (hk : k ≤ 30) : iz a &&& iz (2 ^ k - 1) = iz (a % 2 ^ k) := by
  have hp : (2 : Nat) ^ k ≤ 2 ^ 30 := Nat.pow_le_pow_right (by omega) hk
  have h0 : 0 < (2 : Nat) ^ k := Nat.pos_of_ne_zero (by simp)
  have hd : (2 : Nat) ^ k ∣ 4294967296 := by
    have : (2 : Nat) ^ k ∣ 2 ^ 32 := Nat.pow_dvd_pow 2 (by omega)
    simpa using this
  have e : ((2 : Int) ^ k - 1) = ((2 ^ k - 1 : Nat) : Int) := by
    rw [Int.ofNat_sub h0]; simp
  have e2 : (iz ((2 : Int) ^ k - 1)).toBitVec.toNat = 2 ^ k - 1 := by
    rw [e, iz_bv]
    omega
  rw [pk_and (iz a) k e2, iz_bv]
  apply iz_ext
  show (((nI _).toBitVec.toNat : Nat) : Int) = _
  have hx : (a % 4294967296).toNat % 2 ^ k < 2 ^ k := Nat.mod_lt _ h0
  rw [pk_tn (by omega)]
  have e3 : (((a % 4294967296).toNat % 2 ^ k : Nat) : Int) = a % 2 ^ k := by
    rw [Int.natCast_emod, Int.toNat_of_nonneg (Int.emod_nonneg _ (by omega))]
    have hd' : ((2 : Int) ^ k) ∣ 4294967296 := by
      have := Int.ofNat_dvd.mpr hd
      simpa using this
    rw [show (((2 : Nat) ^ k : Nat) : Int) = (2 : Int) ^ k by simp]
    exact Int.emod_emod_of_dvd _ hd'
  have hP : ((2 : Int) ^ k) = ((2 ^ k : Nat) : Int) := by simp
  have h4 : 0 ≤ a % (2 : Int) ^ k := Int.emod_nonneg _ (by omega)
  have h5 : a % (2 : Int) ^ k < 2 ^ k := Int.emod_lt_of_pos _ (by omega)
  rw [e3]
  generalize a % (2 : Int) ^ k = d at h4 h5 ⊢
  rw [Int.emod_eq_of_lt h4 (by omega)]
theorem iz_mask1 (a : Int) : iz a &&& iz 1 = iz (a % 2) := iz_mask a 1 (by omega)
theorem iz_not (a : Int) : iz a ^^^ iz (-1) = iz (-1 - a) := by
  have h : ∀ x : Int32, x ^^^ (-1) = -1 - x := by
    intro x
    apply Int32.toBitVec_inj.mp
    show x.toBitVec ^^^ (-1 : BitVec 32) = (-1 : BitVec 32) - x.toBitVec
    rw [show (-1 : BitVec 32) = BitVec.allOnes 32 by decide, BitVec.xor_allOnes]
    rw [BitVec.not_eq_neg_add, show BitVec.allOnes 32 = -(1 : BitVec 32) by decide]
    rw [BitVec.sub_eq_add_neg, BitVec.sub_eq_add_neg, BitVec.add_comm]
    rfl
  have e : iz (-1) = -1 := by decide
  rw [e, h, ← e, iz_sub]
theorem iz_shl {a s : Int} (h0 : 0 ≤ s) (h1 : s < 32) : iz a <<< (iz s &&& 31) = iz (a * 2 ^ s.toNat) := by
  obtain ⟨k, rfl⟩ : ∃ k : Nat, s = (k : Int) := ⟨s.toNat, by omega⟩
  have hk : k < 32 := by omega
  have hs : ∀ k : Nat, k < 32 → ((iz (k : Int) &&& 31).toBitVec.smod 32).toNat = k := by decide +kernel
  apply iz_ext
  rw [pk_shl _ _ k (hs k hk), iz_bv, Int.toNat_natCast]
  have e : (((a % 4294967296).toNat * 2 ^ k % 2 ^ 32 : Nat) : Int) = (a % 4294967296 * 2 ^ k) % 4294967296 := by
    rw [Int.natCast_emod, Int.natCast_mul, Int.toNat_of_nonneg (Int.emod_nonneg _ (by omega)), Int.natCast_pow]
    rfl
  rw [e, Int.mul_emod, Int.emod_emod, ← Int.mul_emod]
theorem iz_shr {a s : Int} (ha : rg a) (h0 : 0 ≤ s) (h1 : s < 32) : iz a >>> (iz s &&& 31) = iz (a / 2 ^ s.toNat) := by
  obtain ⟨k, rfl⟩ : ∃ k : Nat, s = (k : Int) := ⟨s.toNat, by omega⟩
  have hk : k < 32 := by omega
  have hs : ∀ k : Nat, k < 32 → ((iz (k : Int) &&& 31).toBitVec.smod 32).toNat = k := by decide +kernel
  rw [← iz_of (iz a >>> (iz (k : Int) &&& 31)), pk_shr _ _ k (hs k hk), iz_toInt ha, Int.shiftRight_eq_div_pow, Int.toNat_natCast]
  simp
theorem lz_bv (z : Int) : (lz z).toBitVec.toNat = (z % 18446744073709551616).toNat := by
  show (BitVec.ofInt 64 z).toNat = _
  rw [BitVec.toNat_ofInt]
  rfl
theorem lz_ext {x : Int64} {z : Int} (h : (x.toBitVec.toNat : Int) = z % 18446744073709551616) : x = lz z := by
  apply Int64.toBitVec_inj.mp
  apply BitVec.eq_of_toNat_eq
  rw [lz_bv]
  omega
theorem lz_shl {a s : Int} (h0 : 0 ≤ s) (h1 : s < 64) : lz a <<< ((iz s).toInt64 &&& 63) = lz (a * 2 ^ s.toNat) := by
  obtain ⟨k, rfl⟩ : ∃ k : Nat, s = (k : Int) := ⟨s.toNat, by omega⟩
  have hk : k < 64 := by omega
  have hs : ∀ k : Nat, k < 64 → (((iz (k : Int)).toInt64 &&& 63).toBitVec.smod 64).toNat = k := by decide +kernel
  apply lz_ext
  have e0 : (lz a <<< ((iz (k : Int)).toInt64 &&& 63)).toBitVec.toNat = (lz a).toBitVec.toNat * 2 ^ k % 2 ^ 64 := by
    show ((lz a).toBitVec <<< (((iz (k : Int)).toInt64 &&& 63).toBitVec.smod 64).toNat).toNat = _
    rw [hs k hk, BitVec.toNat_shiftLeft, Nat.shiftLeft_eq]
  rw [e0, lz_bv, Int.toNat_natCast]
  have e : (((a % 18446744073709551616).toNat * 2 ^ k % 2 ^ 64 : Nat) : Int) = (a % 18446744073709551616 * 2 ^ k) % 18446744073709551616 := by
    rw [Int.natCast_emod, Int.natCast_mul, Int.toNat_of_nonneg (Int.emod_nonneg _ (by omega)), Int.natCast_pow]
    rfl
  rw [e, Int.mul_emod, Int.emod_emod, ← Int.mul_emod]
theorem lz_shr {a s : Int} (ha : rgL a) (h0 : 0 ≤ s) (h1 : s < 64) : lz a >>> ((iz s).toInt64 &&& 63) = lz (a / 2 ^ s.toNat) := by
  obtain ⟨k, rfl⟩ : ∃ k : Nat, s = (k : Int) := ⟨s.toNat, by omega⟩
  have hk : k < 64 := by omega
  have hs : ∀ k : Nat, k < 64 → (((iz (k : Int)).toInt64 &&& 63).toBitVec.smod 64).toNat = k := by decide +kernel
  have e0 : (lz a >>> ((iz (k : Int)).toInt64 &&& 63)).toInt = a >>> k := by
    show ((lz a).toBitVec.sshiftRight (((iz (k : Int)).toInt64 &&& 63).toBitVec.smod 64).toNat).toInt = _
    rw [hs k hk, BitVec.toInt_sshiftRight]
    show (lz a).toInt >>> k = _
    rw [lz_toInt ha]
  rw [← Int64.ofInt_toInt (lz a >>> ((iz (k : Int)).toInt64 &&& 63)), e0, Int.shiftRight_eq_div_pow, Int.toNat_natCast]
  simp [lz]
theorem lz_low (a : Int) : lz a &&& lz 4294967295 = lz (a % 4294967296) := by
  apply lz_ext
  have e0 : (lz a &&& lz 4294967295).toBitVec.toNat = (a % 18446744073709551616).toNat % 2 ^ 32 := by
    rw [Int64.toBitVec_and, BitVec.toNat_and, lz_bv, lz_bv]
    rw [show ((4294967295 : Int) % 18446744073709551616).toNat = 2 ^ 32 - 1 by rfl, Nat.and_two_pow_sub_one_eq_mod]
  rw [e0]
  omega
theorem lz_join (a b : Int) (h0 : 0 ≤ b) (h1 : b < 4294967296) : lz (a * 4294967296) ||| lz b = lz (a * 4294967296 + b) := by
  apply lz_ext
  have e0 : (lz (a * 4294967296) ||| lz b).toBitVec.toNat = (a * 4294967296 % 18446744073709551616).toNat ||| (b % 18446744073709551616).toNat := by
    rw [Int64.toBitVec_or, BitVec.toNat_or, lz_bv, lz_bv]
  obtain ⟨c, hc⟩ : ∃ c : Nat, (a * 4294967296 % 18446744073709551616).toNat = 2 ^ 32 * c := ⟨(a % 4294967296).toNat, by omega⟩
  obtain ⟨d, hd⟩ : ∃ d : Nat, (b % 18446744073709551616).toNat = d ∧ d < 2 ^ 32 := ⟨b.toNat, by omega⟩
  rw [e0, hc, hd.1, ← Nat.two_pow_add_eq_or_of_lt hd.2]
  omega
def cmpZ (a b : Int) : Int := if b < a then 1 else if a = b then 0 else -1
theorem lz_cmp {a b : Int} (ha : rgL a) (hb : rgL b) : lg_cmp (lz a) (lz b) = iz (cmpZ a b) := by
  unfold lg_cmp cmpZ
  have h1 : lz a > lz b ↔ b < a := lz_lt hb ha
  have h2 := lz_eq ha hb
  by_cases q : b < a
  · rw [if_pos (h1.mpr q), if_pos q]; rfl
  · rw [if_neg (fun z => q (h1.mp z)), if_neg q]
    by_cases q2 : a = b
    · rw [if_pos (h2.mpr q2), if_pos q2]; rfl
    · rw [if_neg (fun z => q2 (h2.mp z)), if_neg q2]; rfl
