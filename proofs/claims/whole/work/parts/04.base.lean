
/-! ===== base: values by integers; a method's body as a judgement over symbolic places ===== -/
def vI (z : Int) : Value := .int (Int32.ofInt z)
def vJ (w : BitVec 64) : Value := .long (Int64.ofBitVec w)
def b2i (b : Bool) : Int := if b then 1 else 0
def sb (z : Int) : Int := (z + 128) % 256 - 128
def aI (cA : ClassId) (n : Nat) (g : Nat → Int) : va_E := .inl (cA, n, .inl (fun i => Int32.ofInt (g i)))
def aB (cA : ClassId) (n : Nat) (g : Nat → Int) : va_E := .inl (cA, n, .inl (fun i => Int32.ofInt (sb (g i))))
def aZ (cA : ClassId) (n : Nat) (g : Nat → Bool) : va_E := .inl (cA, n, .inl (fun i => Int32.ofInt (b2i (g i))))
def aJ (cA : ClassId) (n : Nat) (g : Nat → BitVec 64) : va_E := .inl (cA, n, .inr (.inl (fun i => Int64.ofBitVec (g i))))
theorem b2i_t : b2i true = 1 := rfl
theorem b2i_f : b2i false = 0 := rfl
theorem b2i_01 (b : Bool) : 0 ≤ b2i b ∧ b2i b ≤ 1 := by cases b <;> decide
theorem b2i_0 {b : Bool} : b2i b = 0 ↔ b = false := by cases b <;> decide
theorem b2i_1 {b : Bool} : b2i b = 1 ↔ b = true := by cases b <;> decide
theorem b2i_inj {a b : Bool} : b2i a = b2i b ↔ a = b := by cases a <;> cases b <;> decide
theorem iI_toInt {x : Int} (hx : -2147483648 ≤ x ∧ x < 2147483648) : (Int32.ofInt x).toInt = x := Int32.toInt_ofInt_of_le (by omega) (by omega)
theorem iI_lt {x y : Int} (hx : -2147483648 ≤ x ∧ x < 2147483648) (hy : -2147483648 ≤ y ∧ y < 2147483648) : Int32.ofInt x < Int32.ofInt y ↔ x < y := by
  rw [Int32.lt_iff_toInt_lt, iI_toInt hx, iI_toInt hy]
theorem iI_le {x y : Int} (hx : -2147483648 ≤ x ∧ x < 2147483648) (hy : -2147483648 ≤ y ∧ y < 2147483648) : Int32.ofInt x ≤ Int32.ofInt y ↔ x ≤ y := by
  rw [Int32.le_iff_toInt_le, iI_toInt hx, iI_toInt hy]
theorem iI_eq {x y : Int} (hx : -2147483648 ≤ x ∧ x < 2147483648) (hy : -2147483648 ≤ y ∧ y < 2147483648) : Int32.ofInt x = Int32.ofInt y ↔ x = y := by
  constructor
  · intro h
    have h2 := congrArg Int32.toInt h
    rwa [iI_toInt hx, iI_toInt hy] at h2
  · intro h; rw [h]
theorem iI_nat {x : Int} (h0 : 0 ≤ x) (h1 : x < 2147483648) : (Int32.ofInt x).toNatClampNeg = x.toNat := by
  rw [← Int32.toNat_toInt, iI_toInt ⟨by omega, h1⟩]
theorem iI_nI (n : Nat) : Int32.ofInt (n : Int) = nI n := Int32.ofInt_eq_ofNat
theorem iI_in {x : Int} {n : Nat} (h0 : 0 ≤ x) (h1 : x < (n : Int)) (hN : (n : Int) ≤ 2147483647) : vp_in (Int32.ofInt x) n := by
  rw [vp_in_iff, iI_toInt (by omega)]
  omega
theorem iI_dom (x : Int32) : ∃ z : Int, x = Int32.ofInt z ∧ -2147483648 ≤ z ∧ z < 2147483648 := ⟨x.toInt, by rw [Int32.ofInt_toInt], x.le_toInt, x.toInt_lt⟩
theorem sb_rg (z : Int) : -128 ≤ sb z ∧ sb z < 128 := by unfold sb; omega
theorem sb_mod (z : Int) : sb z % 256 = z % 256 := by unfold sb; omega
theorem sb_8 (z : Int) : (Int32.ofInt z).toInt8.toInt32 = Int32.ofInt (sb z) := by
  rw [Int32.toInt8_ofInt]
  apply Int32.toInt.inj
  rw [iI_toInt (by have := sb_rg z; omega), Int8.toInt_toInt32, Int8.toInt_ofInt]
  unfold sb
  show Int.bmod z 256 = _
  rw [Int.bmod_def]
  split <;> omega
theorem sb_id {z : Int} (h : -128 ≤ z ∧ z < 128) : sb z = z := by unfold sb; omega
theorem iI_bn (x : Int) : (Int32.ofInt x).toBitVec.toNat = (x % 4294967296).toNat := by
  rw [Int32.toBitVec_ofInt, BitVec.toNat_ofInt]; rfl
theorem iI_and (x : Int) (k : Nat) (hk : k ≤ 30) {mm : Int} (hm : mm = 2 ^ k - 1) : Int32.ofInt x &&& Int32.ofInt mm = Int32.ofInt (x % 2 ^ k) := by
  have hp : (1 : Nat) ≤ 2 ^ k ∧ (2 : Nat) ^ k ≤ 2 ^ 30 := ⟨Nat.one_le_two_pow, Nat.pow_le_pow_right (by decide) hk⟩
  have hq : (2 : Int) ^ k = ((2 ^ k : Nat) : Int) := by rw [Int.natCast_pow]; rfl
  have h30 : (2 : Nat) ^ 30 = 1073741824 := by decide
  have hm2 : (Int32.ofInt mm).toBitVec.toNat = 2 ^ k - 1 := by
    rw [iI_bn, hm, hq]; omega
  rw [pk_and _ k hm2, iI_bn, ← iI_nI]
  congr 1
  rw [hq]
  have hd : (2 ^ k : Nat) ∣ 2 ^ 32 := Nat.pow_dvd_pow 2 (by omega)
  have h32 : (2 : Nat) ^ 32 = 4294967296 := by decide
  rw [h32] at hd
  have h1 : ((x % 4294967296).toNat : Int) = x % 4294967296 := by omega
  rw [Int.natCast_emod, h1]
  exact Int.emod_emod_of_dvd x (Int.natCast_dvd_natCast.mpr hd)
theorem iI_31 {s : Int} (h0 : 0 ≤ s) (h1 : s < 32) : Int32.ofInt s &&& 31 = Int32.ofInt s := by
  rw [show (31 : Int32) = Int32.ofInt 31 from rfl, iI_and s 5 (by decide) (by decide)]
  rw [show s % 2 ^ 5 = s by omega]
theorem iI_sm {s : Int} (h0 : 0 ≤ s) (h1 : s < 32) : ((Int32.ofInt s).toBitVec.smod 32).toNat = s.toNat := by
  obtain ⟨k, rfl⟩ : ∃ k : Nat, s = (k : Int) := ⟨s.toNat, by omega⟩
  have hk : k < 32 := by omega
  have key : ∀ k : Nat, k < 32 → ((Int32.ofInt (k : Int)).toBitVec.smod 32).toNat = k := by decide
  rw [key k hk]; rfl
theorem iI_shl (x : Int) {s : Int} (h0 : 0 ≤ s) (h1 : s < 32) : Int32.ofInt x <<< (Int32.ofInt s &&& 31) = Int32.ofInt (x * 2 ^ s.toNat) := by
  rw [iI_31 h0 h1]
  apply Int32.toBitVec.inj
  apply BitVec.eq_of_toNat_eq
  rw [pk_shl _ _ s.toNat (iI_sm h0 h1), iI_bn, iI_bn]
  have hq : (2 : Int) ^ s.toNat = ((2 ^ s.toNat : Nat) : Int) := by rw [Int.natCast_pow]; rfl
  rw [hq]
  generalize 2 ^ s.toNat = t
  have h32 : (2 : Nat) ^ 32 = 4294967296 := by decide
  rw [h32]
  have h2 : (((x % 4294967296).toNat * t % 4294967296 : Nat) : Int) = ((x * (t : Int)) % 4294967296 : Int) := by
    have h1 : ((x % 4294967296).toNat : Int) = x % 4294967296 := by omega
    rw [Int.natCast_emod, Int.natCast_mul, h1]
    rw [show ((4294967296 : Nat) : Int) = 4294967296 from rfl]
    rw [Int.mul_emod, Int.emod_emod_of_dvd _ (Int.dvd_refl _), ← Int.mul_emod]
  omega
theorem iI_shr {x : Int} (hx : -2147483648 ≤ x ∧ x < 2147483648) {s : Int} (h0 : 0 ≤ s) (h1 : s < 32) : Int32.ofInt x >>> (Int32.ofInt s &&& 31) = Int32.ofInt (x / 2 ^ s.toNat) := by
  rw [iI_31 h0 h1]
  apply Int32.toInt.inj
  rw [pk_shr _ _ s.toNat (iI_sm h0 h1), iI_toInt hx, Int.shiftRight_eq_div_pow]
  rw [show (((2 ^ s.toNat : Nat) : Int)) = (2 : Int) ^ s.toNat by rw [Int.natCast_pow]; rfl]
  have hp : (1 : Int) ≤ 2 ^ s.toNat := by
    rw [show (2 : Int) ^ s.toNat = ((2 ^ s.toNat : Nat) : Int) by rw [Int.natCast_pow]; rfl]
    have : 1 ≤ 2 ^ s.toNat := Nat.one_le_two_pow
    omega
  refine (iI_toInt ?_).symm
  generalize (2 : Int) ^ s.toNat = t at hp
  refine ⟨?_, ?_⟩
  · rw [Int.le_ediv_iff_mul_le (by omega)]
    omega
  · rw [Int.ediv_lt_iff_lt_mul (by omega)]
    omega
theorem iI_31x {s : Int} (h0 : 0 ≤ s) (h1 : s < 32) : (BitVec.ofInt 32 s &&& 31#32) % 32#32 = BitVec.ofNat 32 s.toNat := by
  obtain ⟨m, rfl⟩ := Int.eq_ofNat_of_zero_le h0
  have hm : m < 32 := by omega
  rw [BitVec.ofInt_natCast, Int.toNat_natCast]
  apply BitVec.eq_of_toNat_eq
  rw [BitVec.toNat_umod, BitVec.toNat_and, BitVec.toNat_ofNat, Nat.mod_eq_of_lt (by omega : m < 2 ^ 32)]
  show (m &&& (2 ^ 5 - 1)) % 32 = _
  rw [Nat.and_two_pow_sub_one_eq_mod]
  omega
theorem iI_toBV (x : Int) : (Int32.ofInt x).toBitVec = BitVec.ofInt 32 x := Int32.toBitVec_ofInt x
theorem iI_ushr {x : Int} (hx : 0 ≤ x ∧ x < 2147483648) {s : Int} (h0 : 0 ≤ s) (h1 : s < 32) : ((Int32.ofInt x).toUInt32 >>> ((Int32.ofInt s).toUInt32 &&& Int32.toUInt32 31)).toInt32 = Int32.ofInt (x / 2 ^ s.toNat) := by
  apply Int32.toBitVec.inj
  show (Int32.ofInt x).toBitVec >>> (((Int32.ofInt s).toBitVec &&& 31#32) % 32#32) = _
  rw [iI_toBV, iI_toBV, iI_toBV, iI_31x h0 h1]
  obtain ⟨m, rfl⟩ := Int.eq_ofNat_of_zero_le hx.1
  obtain ⟨k, rfl⟩ := Int.eq_ofNat_of_zero_le h0
  have hd : m / 2 ^ k ≤ m := Nat.div_le_self _ _
  rw [Int.toNat_natCast, show ((m : Nat) : Int) / 2 ^ k = ((m / 2 ^ k : Nat) : Int) by rw [Int.natCast_ediv, Int.natCast_pow]; rfl, BitVec.ofInt_natCast, BitVec.ofInt_natCast]
  apply BitVec.eq_of_toNat_eq
  rw [BitVec.ushiftRight_eq', BitVec.toNat_ushiftRight, BitVec.toNat_ofNat, BitVec.toNat_ofNat, BitVec.toNat_ofNat, Nat.mod_eq_of_lt (by omega : m < 2 ^ 32), Nat.mod_eq_of_lt (by omega : m / 2 ^ k < 2 ^ 32), Nat.mod_eq_of_lt (by omega : k < 2 ^ 32), Nat.shiftRight_eq_div_pow]
theorem iI_or {a b : Int} {k : Nat} (hk : k ≤ 30) (h0 : 0 ≤ b) (h1 : b < 2 ^ k) : Int32.ofInt (a * 2 ^ k) ||| Int32.ofInt b = Int32.ofInt (a * 2 ^ k + b) := by
  apply Int32.toBitVec.inj
  rw [Int32.toBitVec_or]
  have hq : (2 : Int) ^ k = ((2 ^ k : Nat) : Int) := by rw [Int.natCast_pow]; rfl
  have hp : (1 : Nat) ≤ 2 ^ k ∧ (2 : Nat) ^ k ≤ 2 ^ 30 := ⟨Nat.one_le_two_pow, Nat.pow_le_pow_right (by decide) hk⟩
  have hd : (2 ^ k : Nat) ∣ 2 ^ 32 := Nat.pow_dvd_pow 2 (by omega)
  have h32 : (2 : Nat) ^ 32 = 4294967296 := by decide
  have h30 : (2 : Nat) ^ 30 = 1073741824 := by decide
  rw [h32] at hd
  apply BitVec.eq_of_toNat_eq
  rw [BitVec.toNat_or, iI_bn, iI_bn, iI_bn]
  rw [hq] at h1 ⊢
  obtain ⟨r, hr⟩ := hd
  have e1 : (a * ((2 ^ k : Nat) : Int)) % 4294967296 = ((a % (r : Int)) * ((2 ^ k : Nat) : Int)) := by
    have h6 : (4294967296 : Int) = ((2 ^ k : Nat) : Int) * (r : Int) := by
      have := congrArg (fun n : Nat => (n : Int)) hr
      simp only [Int.natCast_mul] at this
      exact this
    rw [h6, Int.mul_comm a, Int.mul_emod_mul_of_pos _ _ (by omega), Int.mul_comm]
  have hr0 : 0 < r := by
    rcases Nat.eq_zero_or_pos r with h | h
    · subst h; simp at hr
    · exact h
  have e0 : 0 ≤ a % (r : Int) := Int.emod_nonneg _ (by omega)
  have e3 : a % (r : Int) < (r : Int) := Int.emod_lt_of_pos _ (by omega)
  obtain ⟨q, hqq⟩ : ∃ q : Nat, a % (r : Int) = (q : Int) := ⟨(a % (r : Int)).toNat, by omega⟩
  obtain ⟨bb, hbb⟩ : ∃ q : Nat, b = (q : Int) := ⟨b.toNat, by omega⟩
  subst hbb
  have e2 : (a * ((2 ^ k : Nat) : Int) + (bb : Int)) % 4294967296 = ((q * 2 ^ k + bb : Nat) : Int) := by
    rw [← Int.emod_add_emod, e1, hqq, ← Int.natCast_mul, ← Int.natCast_add]
    apply Int.emod_eq_of_lt
    · omega
    · have h5 : q + 1 ≤ r := by omega
      have h6 : (q + 1) * 2 ^ k ≤ r * 2 ^ k := Nat.mul_le_mul_right _ h5
      rw [Nat.add_mul, Nat.one_mul, Nat.mul_comm r, ← hr] at h6
      omega
  rw [e1, hqq, e2, ← Int.natCast_mul]
  rw [show (bb : Int) % 4294967296 = (bb : Int) by omega]
  simp only [Int.toNat_natCast]
  rw [Nat.mul_comm q, Nat.two_pow_add_eq_or_of_lt (by omega)]


/-! longs by bit vectors -/
theorem j64 : ∀ k, k < 64 → (BitVec.ofNat 64 k).smod 64 = BitVec.ofNat 64 k := by decide
theorem jI_ext {z : Int} (hz : -2147483648 ≤ z ∧ z < 2147483648) : (Int32.ofInt z).toInt64 = Int64.ofBitVec (BitVec.ofInt 64 z) := by
  apply Int64.toInt.inj
  rw [Int32.toInt_toInt64, iI_toInt hz]
  show z = (BitVec.ofInt 64 z).toInt
  rw [BitVec.toInt_ofInt]
  show z = Int.bmod z 18446744073709551616
  rw [Int.bmod_def]
  split <;> omega
theorem jI_6 {z : Int} (hz : -2147483648 ≤ z ∧ z < 2147483648) : (BitVec.ofInt 64 z) &&& 63#64 = BitVec.ofNat 64 (z % 64).toNat := by
  apply BitVec.eq_of_toNat_eq
  rw [BitVec.toNat_and, BitVec.toNat_ofInt, BitVec.toNat_ofNat, BitVec.toNat_ofNat]
  rw [show 63 % 2 ^ 64 = 2 ^ 6 - 1 by decide, Nat.and_two_pow_sub_one_eq_mod]
  omega
theorem jI_shl (x : BitVec 64) {z : Int} (hz : -2147483648 ≤ z ∧ z < 2147483648) : Int64.ofBitVec x <<< ((Int32.ofInt z).toInt64 &&& 63) = Int64.ofBitVec (x <<< (z % 64).toNat) := by
  rw [jI_ext hz]
  apply Int64.toBitVec.inj
  show x <<< (((BitVec.ofInt 64 z) &&& 63#64).smod 64) = x <<< (z % 64).toNat
  rw [jI_6 hz, j64 _ (by omega), BitVec.shiftLeft_eq', BitVec.toNat_ofNat, Nat.mod_eq_of_lt (by omega)]
theorem jI_shr (x : BitVec 64) {z : Int} (hz : -2147483648 ≤ z ∧ z < 2147483648) : Int64.ofBitVec x >>> ((Int32.ofInt z).toInt64 &&& 63) = Int64.ofBitVec (BitVec.sshiftRight x (z % 64).toNat) := by
  rw [jI_ext hz]
  apply Int64.toBitVec.inj
  show BitVec.sshiftRight' x (((BitVec.ofInt 64 z) &&& 63#64).smod 64) = BitVec.sshiftRight x (z % 64).toNat
  rw [jI_6 hz, j64 _ (by omega)]
  show BitVec.sshiftRight x (BitVec.ofNat 64 (z % 64).toNat).toNat = _
  rw [BitVec.toNat_ofNat, Nat.mod_eq_of_lt (by omega)]
theorem jI_ushr (x : BitVec 64) {z : Int} (hz : -2147483648 ≤ z ∧ z < 2147483648) : ((Int64.ofBitVec x).toUInt64 >>> ((Int32.ofInt z).toInt64.toUInt64 &&& Int64.toUInt64 63)).toInt64 = Int64.ofBitVec (x >>> (z % 64).toNat) := by
  rw [jI_ext hz]
  apply Int64.toBitVec.inj
  show x >>> (((BitVec.ofInt 64 z) &&& 63#64) % 64) = x >>> (z % 64).toNat
  rw [jI_6 hz]
  have h : (BitVec.ofNat 64 (z % 64).toNat) % 64 = BitVec.ofNat 64 (z % 64).toNat := by
    apply BitVec.eq_of_toNat_eq
    rw [BitVec.toNat_umod, BitVec.toNat_ofNat]
    show _ % 64 = _
    omega
  rw [h, BitVec.ushiftRight_eq', BitVec.toNat_ofNat, Nat.mod_eq_of_lt (by omega)]
theorem jI_low (x : BitVec 64) : (Int64.ofBitVec x).toInt32 = Int32.ofInt x.toInt := by
  rw [← Int32.ofInt_int64ToInt]; rfl
def lcm (x y : BitVec 64) : Int := if y.slt x then 1 else if x = y then 0 else -1
theorem lcm_eq (x y : BitVec 64) : lg_cmp (Int64.ofBitVec x) (Int64.ofBitVec y) = Int32.ofInt (lcm x y) := by
  have e : Int64.ofBitVec x = Int64.ofBitVec y ↔ x = y := ⟨fun h => by have := congrArg Int64.toBitVec h; exact this, fun h => by rw [h]⟩
  have g : (Int64.ofBitVec x > Int64.ofBitVec y) ↔ y.slt x = true := Iff.rfl
  unfold lg_cmp lcm
  by_cases h1 : y.slt x = true
  · rw [if_pos (g.mpr h1), if_pos h1]; rfl
  · rw [if_neg (fun h => h1 (g.mp h)), if_neg h1]
    by_cases h2 : x = y
    · rw [if_pos (e.mpr h2), if_pos h2]; rfl
    · rw [if_neg (fun h => h2 (e.mp h)), if_neg h2]; rfl
theorem lcm_rg (x y : BitVec 64) : -2147483648 ≤ lcm x y ∧ lcm x y < 2147483648 := by unfold lcm; split <;> (try split) <;> omega
theorem lcm_0 {x y : BitVec 64} : lcm x y = 0 ↔ x = y := by
  unfold lcm
  by_cases h2 : x = y
  · subst h2
    simp [BitVec.slt]
  · split
    · simp [h2]
    · simp [h2]
theorem iI_or63 {x : Int} (hx : 0 ≤ x ∧ x < 2147483648) : Int32.ofInt x ||| Int32.ofInt 63 = Int32.ofInt (x / 64 * 64 + 63) := by
  obtain ⟨q, hq⟩ : ∃ q : Int, q = x / 64 := ⟨_, rfl⟩
  obtain ⟨r, hr⟩ : ∃ r : Int, r = x % 64 := ⟨_, rfl⟩
  have e1 : x = q * 2 ^ 6 + r := by omega
  have k1 : Int32.ofInt x = Int32.ofInt (q * 2 ^ 6) ||| Int32.ofInt r := by
    rw [iI_or (k := 6) (by decide) (by omega) (by omega), ← e1]
  have k2 : Int32.ofInt r ||| Int32.ofInt 63 = Int32.ofInt 63 := by
    have key : ∀ j : Fin 64, Int32.ofInt ((j.val : Nat) : Int) ||| Int32.ofInt 63 = Int32.ofInt 63 := by decide
    have := key ⟨r.toNat, by omega⟩
    rwa [show ((r.toNat : Nat) : Int) = r by omega] at this
  rw [k1, Int32.or_assoc, k2, iI_or (k := 6) (by decide) (by decide) (by decide), hq]
  rfl
/-! what holds of the machine from the start on and is never changed: links to nest mates, the class's static arrays -/
def wayC (j : Nat) : Int := ([2, 2, 2, 1, 3, 3, 3, 1, 1] : List Int).getD j 0
def wayB (j : Nat) : Int := ([7, 6, 3, 1, 3, 6, 7, 4, 3] : List Int).getD j 0
def lenW (j : Nat) : Int := ([8, 6, 4, 4, 4, 4, 4, 4, 5, 5, 5, 5, 6, 6, 6, 6, 6, 6, 7, 7, 7, 7, 7, 7, 7, 7, 7, 7, 8, 8, 8, 8, 8, 8, 8, 8, 8, 8, 8, 8, 8, 8, 8, 8, 8, 8, 8, 8, 8, 8, 8, 8, 8, 8, 8, 8, 8, 8, 8, 8, 8, 8, 8, 8, 5, 5, 8, 8, 8, 8, 8, 8, 8, 8] : List Int).getD j 0
def lenD (j : Nat) : Int := ([9, 3, 2, 2, 3, 4, 4, 5, 5, 7, 7, 7, 7, 9, 9, 9, 9, 9, 9, 9, 9, 12, 12, 12, 12, 12, 12, 12, 12, 12, 12, 12, 12, 12, 12, 12, 12, 12, 12, 12, 12, 12, 12, 12, 12, 12, 12, 12, 12, 12, 12, 12, 12, 12, 12, 12, 12, 12, 12, 12, 12, 12, 12, 12, 12, 12, 12, 12, 12, 12, 12, 12, 12, 12] : List Int).getD j 0
def zE1 (n d : String) (ty : FieldType) (t N : Nat) (f : Nat → Int) (A : Nat → Prop) (U : State) : Prop := va_Z "FaxFilter" n d (.ref t) A U U.heap ∧ va_T ty t N (fun j => vI (f j)) A U U.heap
def zE (tw : Nat → Nat) (A : Nat → Prop) (U : State) : Prop :=
  va_Nw (.methodLinkNest "FaxFilter" 55 ⟨"FaxFilter$BitsIn", "<init>", "()V"⟩ "FaxFilter") U ∧
  va_Nw (.fieldLinkNest "FaxFilter$Sender" 95 "FaxFilter" "WAY_CODES" "[I" "FaxFilter") U ∧ va_Nw (.fieldLinkNest "FaxFilter$Sender" 99 "FaxFilter" "WAY_BITS" "[I" "FaxFilter") U ∧
  va_Nw (.fieldLinkNest "FaxFilter$Receiver" 146 "FaxFilter" "WAY_CODES" "[I" "FaxFilter") U ∧ va_Nw (.fieldLinkNest "FaxFilter$Receiver" 150 "FaxFilter" "WAY_BITS" "[I" "FaxFilter") U ∧
  zE1 "WAY_CODES" "[I" .int (tw 0) 9 wayC A U ∧ zE1 "WAY_BITS" "[I" .int (tw 1) 9 wayB A U ∧ zE1 "WHITE_BITS" "[B" .byte (tw 2) 74 lenW A U ∧ zE1 "DARK_BITS" "[B" .byte (tw 3) 74 lenD A U
theorem zE1_move {n d : String} {ty : FieldType} {t N : Nat} {f : Nat → Int} {A B : Nat → Prop} {s U : State} (hW : s.vm.Alike U.vm) (hq : ∀ q : Nat, q < s.heap.size → ¬ A q → U.heap[q]? = s.heap[q]?) (hB : ∀ q, B q → A q) (h : zE1 n d ty t N f A s) : zE1 n d ty t N f B U :=
  ⟨((va_Z.moved hW h.1).kept hq).narrow hB, ((va_T.moved hW h.2).kept hq).narrow hB⟩
theorem zE_move {tw : Nat → Nat} {A B : Nat → Prop} {s U : State} (hW : s.WarmedH U.vm) (hq : ∀ q : Nat, q < s.heap.size → ¬ A q → U.heap[q]? = s.heap[q]?) (hB : ∀ q, B q → A q) (h : zE tw A s) : zE tw B U := by
  obtain ⟨h1, h2, h3, h4, h5, h6, h7, h8, h9⟩ := h
  exact ⟨va_Nw.warmM hW h1, va_Nw.warmF hW h2, va_Nw.warmF hW h3, va_Nw.warmF hW h4, va_Nw.warmF hW h5, zE1_move hW.alike hq hB h6, zE1_move hW.alike hq hB h7, zE1_move hW.alike hq hB h8, zE1_move hW.alike hq hB h9⟩
theorem zE_blind {tw : Nat → Nat} {A : Nat → Prop} {U : State} (g : JFrame) (mk : MethodId) (a : Array Value) (h : zE tw A U) : zE tw A (U.calling g mk a) := by
  obtain ⟨h1, h2, h3, h4, h5, h6, h7, h8, h9⟩ := h
  have m1 : ∀ {n d : String} {ty : FieldType} {t N : Nat} {f : Nat → Int}, zE1 n d ty t N f A U → zE1 n d ty t N f A (U.calling g mk a) := fun h => zE1_move (s := U) (U := U.calling g mk a) (Vm.Alike.refl U.vm) (fun _ _ _ => rfl) (fun _ h => h) h
  exact ⟨va_Nw.same rfl rfl h1, va_Nw.same rfl rfl h2, va_Nw.same rfl rfl h3, va_Nw.same rfl rfl h4, va_Nw.same rfl rfl h5, m1 h6, m1 h7, m1 h8, m1 h9⟩
/-! the judgement -/
abbrev zV : Type := Nat → Nat → va_W → List (Nat × Value) → List Value → Nat → Prop
def zX (V : zV) (p : Program) (l : Launch) (e : Env) (R : Room) (s : State) (m : MethodId) (args : Array Value) (below : List Frame) (meth : Method) (c : Code) (D : va_G) (tys : List (ClassId × FieldType)) (tw : Nat → Nat) (A : Nat → Prop) (cc : ByteArray) (Ts : List Cond) (own : String) (nL : Nat) (ret : Option FieldType) (Q : State → Prop) : Prop :=
  CallFix p m c cc nL s args Ts own ∧ va_K D vwCl tys s ∧ zE tw A s ∧ (∀ q : Nat, s.heap.size ≤ q → A q) ∧ meth.sig.returnType = ret ∧ meth.locks = false ∧
  V = fun k n ws lv st pc => ∀ (H : Heap) (locs : List Loc) (ls : Array Slot), va_P D vwCl ws H → va_D A ws → va_S A s.heap H locs → lv_has ls nL lv → W p l e R s m args below meth c H locs k n Q (F0 m pc ls st)
def zQ (D : va_G) (tys : List (ClassId × FieldType)) {S : Type} (rv : S → Option Value) (wf : S → va_W) (post : S → Prop) (A : Nat → Prop) : Array Value → State → Outcome → State → Prop := fun _ st oc t =>
  (∃ u : S, oc = .returned (rv u) ∧ post u ∧ va_P D vwCl (wf u) t.heap ∧ va_K D vwCl tys t ∧ va_D A (wf u)) ∧ va_F A st t
def zB (D : va_G) (tys : List (ClassId × FieldType)) (tw : Nat → Nat) (W0 : va_W) (sz : Nat) (U : State) : Prop := U.heap.size = sz ∧ va_P D vwCl W0 U.heap ∧ va_K D vwCl tys U ∧ va_D (fun _ => True) W0 ∧ zE tw (va_A W0 sz) U
/-- a method's contract over a whole world -/
def zMet (l : Launch) (y : MethodName) (wsY : List Cond) (rm : Room) (D : va_G) (tys : List (ClassId × FieldType)) (tw : Nat → Nat) (W0 : va_W) (av : List Value) (mc ms : Nat) {S : Type} (rv : S → Option Value) (wf : S → va_W) (post : S → Prop) : Prop :=
  ∀ sz : Nat, Met l y wsY rm (va_Pc av (zB D tys tw W0 sz)) (zQ D tys rv wf post (va_A W0 sz)) mc ms (va_A W0 sz)
def zKn (y : MethodName) (wsY : List Cond) (bytes : ByteArray) (maxL : Nat) (retY : Option FieldType) (nA : Nat) : Prop :=
  (∃ ws' : List Cond, wsY = Cond.code y bytes maxL retY :: ws') ∧ y.cls ≠ "java/lang/invoke/MethodHandle" ∧ y.cls ≠ "java/lang/invoke/VarHandle" ∧ (parseMethodDescriptor y.desc).map (fun d => d.parameters.length) = some nA
theorem zB_blind (D : va_G) (tys : List (ClassId × FieldType)) (tw : Nat → Nat) (W0 : va_W) (sz : Nat) (av : List Value) : FrameBlind (va_Pc av (zB D tys tw W0 sz)) := fun a U g mk q => by
  obtain ⟨q0, q1, qP, qK, qD, qE⟩ := q
  exact ⟨q0, q1, qP, va_K.moved (u := U) (U := U.calling g mk a) (Vm.Alike.refl U.vm) qK, qD, zE_blind g mk a qE⟩
theorem z_met {l : Launch} {y : MethodName} {wsY ws' : List Cond} {rm : Room} {D : va_G} {tys : List (ClassId × FieldType)} {tw : Nat → Nat} {W0 : va_W} {av : List Value} {mc ms : Nat} {S : Type} {rv : S → Option Value} {wf : S → va_W} {post : S → Prop} {cc : ByteArray} {nL : Nat} {ret : Option FieldType}
    (hy : plainName y.cls = true) (hw : wsY = Cond.code y cc nL ret :: ws') (hn : (lg_sl av).length ≤ nL) {lv : List (Nat × Value)} (hlv : lv_args 0 av = lv)
    (body : ∀ (V : zV) (p : Program) (e : Env) (s : State) (m : MethodId) (args : Array Value) (below : List Frame) (meth : Method) (c : Code) (A : Nat → Prop),
      zX V p l e rm s m args below meth c D tys tw A cc wsY y.cls nL ret (MQ below (zQ D tys rv wf post A) args s mc ms A) → meth.name = y.name → V 0 0 W0 lv [] 0) :
    zMet l y wsY rm D tys tw W0 av mc ms rv wf post := by
  intro sz
  refine Met.ofW (cc := cc) (maxL := nL) (ret := ret) hy hw ?_
  intro p e s m args below meth c s₁ B hml hv
  obtain ⟨rfl, hsz, hP, hK, hD0, hE⟩ := hv
  have hts := atoms_spec (ws := wsY) B.pre
  have hown : s.vm.findClass y.cls = some m.cls := findClass_of_methodNamed B.named
  subst hsz
  have hD := hD0.self (sz := s.heap.size)
  have hA : ∀ q : Nat, s.heap.size ≤ q → va_A W0 s.heap.size q := fun q h => Or.inr h
  have hl := lv_entry av (n := nL) hn
  rw [hlv] at hl
  rw [lg_entry_eq]
  exact body _ p e s m _ below meth c (va_A W0 s.heap.size) ⟨⟨B.exec, B.bytes, hml, hown, hts⟩, hK, hE, hA, B.returns, B.notSynchronized, rfl⟩ (name_of_methodNamed B.named B.method).1 s.heap [] _ hP hD va_S.rf hl

section ZROWS
variable {V : zV} {p : Program} {l : Launch} {e : Env} {R : Room} {s : State} {m : MethodId} {args : Array Value} {below : List Frame} {meth : Method} {c : Code} {D : va_G} {tys : List (ClassId × FieldType)} {tw : Nat → Nat} {A : Nat → Prop} {cc : ByteArray} {Ts : List Cond} {own : String} {nL : Nat} {ret : Option FieldType} {Q : State → Prop} {k n : Nat} {ws : va_W} {lv : List (Nat × Value)} {st : List Value} {pc : Nat}
theorem z_iconst (C : zX V p l e R s m args below meth c D tys tw A cc Ts own nL ret Q) {z : Int} (d : decode cc pc = .ok (.iconst z, 1)) (kk : V k n ws lv (vI z :: st) (pc + 1)) : V k n ws lv st pc := by
  obtain ⟨⟨hx, hb, hml, hown, hts⟩, hK, hE, hA, hr, hlk, rfl⟩ := C
  intro H locs ls hP hD hS hl
  exact lv_iconst hx hb d rfl (kk H locs ls hP hD hS hl)
theorem z_bipush (C : zX V p l e R s m args below meth c D tys tw A cc Ts own nL ret Q) {z : Int} (d : decode cc pc = .ok (.bipush z, 2)) (hz : (Int8.ofInt z).toInt32 = Int32.ofInt z) (kk : V k n ws lv (vI z :: st) (pc + 2)) : V k n ws lv st pc := by
  obtain ⟨⟨hx, hb, hml, hown, hts⟩, hK, hE, hA, hr, hlk, rfl⟩ := C
  intro H locs ls hP hD hS hl
  exact lv_bipush hx hb d hz (kk H locs ls hP hD hS hl)
theorem z_sipush (C : zX V p l e R s m args below meth c D tys tw A cc Ts own nL ret Q) {z : Int} (d : decode cc pc = .ok (.sipush z, 3)) (hz : (Int16.ofInt z).toInt32 = Int32.ofInt z) (kk : V k n ws lv (vI z :: st) (pc + 3)) : V k n ws lv st pc := by
  obtain ⟨⟨hx, hb, hml, hown, hts⟩, hK, hE, hA, hr, hlk, rfl⟩ := C
  intro H locs ls hP hD hS hl
  exact lv_sipush hx hb d hz (kk H locs ls hP hD hS hl)
theorem z_ldc (C : zX V p l e R s m args below meth c D tys tw A cc Ts own nL ret Q) {index : Nat} {z : Int} (hc : Cond.constant own index (Int32.ofInt z) ∈ Ts) (d : decode cc pc = .ok (.ldc index, 2)) (kk : V k n ws lv (vI z :: st) (pc + 2)) : V k n ws lv st pc := by
  obtain ⟨⟨hx, hb, hml, hown, hts⟩, hK, hE, hA, hr, hlk, rfl⟩ := C
  intro H locs ls hP hD hS hl
  exact lv_ldc hx hb hown (hts _ hc) d (kk H locs ls hP hD hS hl)
theorem z_ldc2 (C : zX V p l e R s m args below meth c D tys tw A cc Ts own nL ret Q) {index : Nat} {w : BitVec 64} (hc : Cond.constantLong own index (Int64.ofBitVec w) ∈ Ts) (d : decode cc pc = .ok (.ldc2_w index, 3)) (kk : V k n ws lv (vJ w :: st) (pc + 3)) : V k n ws lv st pc := by
  obtain ⟨⟨hx, hb, hml, hown, hts⟩, hK, hE, hA, hr, hlk, rfl⟩ := C
  intro H locs ls hP hD hS hl
  exact lv_ldc2 hx hb hown (hts _ hc) d (kk H locs ls hP hD hS hl)
theorem z_lconst (C : zX V p l e R s m args below meth c D tys tw A cc Ts own nL ret Q) {z : Fin 2} (d : decode cc pc = .ok (.lconst z, 1)) (kk : V k n ws lv (vJ (BitVec.ofNat 64 (z : Nat)) :: st) (pc + 1)) : V k n ws lv st pc := by
  obtain ⟨⟨hx, hb, hml, hown, hts⟩, hK, hE, hA, hr, hlk, rfl⟩ := C
  intro H locs ls hP hD hS hl
  exact lv_lconst hx hb d rfl (kk H locs ls hP hD hS hl)
theorem z_iload_n (C : zX V p l e R s m args below meth c D tys tw A cc Ts own nL ret Q) {i : Fin 4} {x : Int} (d : decode cc pc = .ok (.iload_n i, 1)) (j : Nat) (hj : lv[j]? = some ((i : Nat), vI x)) (kk : V k n ws lv (vI x :: st) (pc + 1)) : V k n ws lv st pc := by
  obtain ⟨⟨hx, hb, hml, hown, hts⟩, hK, hE, hA, hr, hlk, rfl⟩ := C
  intro H locs ls hP hD hS hl
  exact lv_iload_n hx hb d rfl (lv_at hl j hj) (kk H locs ls hP hD hS hl)
theorem z_iload (C : zX V p l e R s m args below meth c D tys tw A cc Ts own nL ret Q) {i : Nat} {x : Int} (d : decode cc pc = .ok (.iload i, 2)) (j : Nat) (hj : lv[j]? = some (i, vI x)) (kk : V k n ws lv (vI x :: st) (pc + 2)) : V k n ws lv st pc := by
  obtain ⟨⟨hx, hb, hml, hown, hts⟩, hK, hE, hA, hr, hlk, rfl⟩ := C
  intro H locs ls hP hD hS hl
  exact lv_iload hx hb d (lv_at hl j hj) (kk H locs ls hP hD hS hl)
theorem z_lload_n (C : zX V p l e R s m args below meth c D tys tw A cc Ts own nL ret Q) {i : Fin 4} {x : BitVec 64} (d : decode cc pc = .ok (.lload_n i, 1)) (j : Nat) (hj : lv[j]? = some ((i : Nat), vJ x)) (kk : V k n ws lv (vJ x :: st) (pc + 1)) : V k n ws lv st pc := by
  obtain ⟨⟨hx, hb, hml, hown, hts⟩, hK, hE, hA, hr, hlk, rfl⟩ := C
  intro H locs ls hP hD hS hl
  exact lv_lload_n hx hb d rfl (lv_at hl j hj) (kk H locs ls hP hD hS hl)
theorem z_lload (C : zX V p l e R s m args below meth c D tys tw A cc Ts own nL ret Q) {i : Nat} {x : BitVec 64} (d : decode cc pc = .ok (.lload i, 2)) (j : Nat) (hj : lv[j]? = some (i, vJ x)) (kk : V k n ws lv (vJ x :: st) (pc + 2)) : V k n ws lv st pc := by
  obtain ⟨⟨hx, hb, hml, hown, hts⟩, hK, hE, hA, hr, hlk, rfl⟩ := C
  intro H locs ls hP hD hS hl
  exact lv_lload hx hb d (lv_at hl j hj) (kk H locs ls hP hD hS hl)
theorem z_aload_n (C : zX V p l e R s m args below meth c D tys tw A cc Ts own nL ret Q) {i : Fin 4} {x : Nat} (d : decode cc pc = .ok (.aload_n i, 1)) (j : Nat) (hj : lv[j]? = some ((i : Nat), .ref x)) (kk : V k n ws lv (.ref x :: st) (pc + 1)) : V k n ws lv st pc := by
  obtain ⟨⟨hx, hb, hml, hown, hts⟩, hK, hE, hA, hr, hlk, rfl⟩ := C
  intro H locs ls hP hD hS hl
  exact lv_aload_n hx hb d rfl (lv_at hl j hj) (kk H locs ls hP hD hS hl)
theorem z_aload (C : zX V p l e R s m args below meth c D tys tw A cc Ts own nL ret Q) {i : Nat} {x : Nat} (d : decode cc pc = .ok (.aload i, 2)) (j : Nat) (hj : lv[j]? = some (i, .ref x)) (kk : V k n ws lv (.ref x :: st) (pc + 2)) : V k n ws lv st pc := by
  obtain ⟨⟨hx, hb, hml, hown, hts⟩, hK, hE, hA, hr, hlk, rfl⟩ := C
  intro H locs ls hP hD hS hl
  exact lv_aload hx hb d (lv_at hl j hj) (kk H locs ls hP hD hS hl)
theorem z_istore_n (C : zX V p l e R s m args below meth c D tys tw A cc Ts own nL ret Q) {f : Fin 4} {i : Nat} {x : Int} (d : decode cc pc = .ok (.istore_n f, 1)) (hi : (f : Nat) = i) (hn : i < nL) {lv' : List (Nat × Value)} (hf : (i, vI x) :: lv.filter (fun q => !(q.1 == i) && !(q.1 + 1 == i && q.2.category == 2)) = lv') (kk : V k n ws lv' st (pc + 1)) : V k n ws lv (vI x :: st) pc := by
  obtain ⟨⟨hx, hb, hml, hown, hts⟩, hK, hE, hA, hr, hlk, rfl⟩ := C
  intro H locs ls hP hD hS hl
  exact lv_istore_n (lv' := lv') hx hb d hi hl hn hf (fun ls hl => kk H locs ls hP hD hS hl)
theorem z_istore (C : zX V p l e R s m args below meth c D tys tw A cc Ts own nL ret Q) {i : Nat} {x : Int} (d : decode cc pc = .ok (.istore i, 2)) (hn : i < nL) {lv' : List (Nat × Value)} (hf : (i, vI x) :: lv.filter (fun q => !(q.1 == i) && !(q.1 + 1 == i && q.2.category == 2)) = lv') (kk : V k n ws lv' st (pc + 2)) : V k n ws lv (vI x :: st) pc := by
  obtain ⟨⟨hx, hb, hml, hown, hts⟩, hK, hE, hA, hr, hlk, rfl⟩ := C
  intro H locs ls hP hD hS hl
  exact lv_istore (lv' := lv') hx hb d hl hn hf (fun ls hl => kk H locs ls hP hD hS hl)
theorem z_lstore (C : zX V p l e R s m args below meth c D tys tw A cc Ts own nL ret Q) {i : Nat} {x : BitVec 64} (d : decode cc pc = .ok (.lstore i, 2)) (hn : i + 1 < nL) {lv' : List (Nat × Value)} (hf : (i, vJ x) :: lv.filter (fun q => !(q.1 == i) && (!(q.1 == i + 1) && !(q.1 + 1 == i && q.2.category == 2))) = lv') (kk : V k n ws lv' st (pc + 2)) : V k n ws lv (vJ x :: st) pc := by
  obtain ⟨⟨hx, hb, hml, hown, hts⟩, hK, hE, hA, hr, hlk, rfl⟩ := C
  intro H locs ls hP hD hS hl
  exact lv_lstore (lv' := lv') hx hb d hl hn hf (fun ls hl => kk H locs ls hP hD hS hl)
theorem z_lstore_n (C : zX V p l e R s m args below meth c D tys tw A cc Ts own nL ret Q) {f : Fin 4} {i : Nat} {x : BitVec 64} (d : decode cc pc = .ok (.lstore_n f, 1)) (hi : (f : Nat) = i) (hn : i + 1 < nL) {lv' : List (Nat × Value)} (hf : (i, vJ x) :: lv.filter (fun q => !(q.1 == i) && (!(q.1 == i + 1) && !(q.1 + 1 == i && q.2.category == 2))) = lv') (kk : V k n ws lv' st (pc + 1)) : V k n ws lv (vJ x :: st) pc := by
  obtain ⟨⟨hx, hb, hml, hown, hts⟩, hK, hE, hA, hr, hlk, rfl⟩ := C
  intro H locs ls hP hD hS hl
  exact lv_lstore_n (lv' := lv') hx hb d hi hl hn hf (fun ls hl => kk H locs ls hP hD hS hl)
theorem z_astore_n (C : zX V p l e R s m args below meth c D tys tw A cc Ts own nL ret Q) {f : Fin 4} {i : Nat} {x : Nat} (d : decode cc pc = .ok (.astore_n f, 1)) (hi : (f : Nat) = i) (hn : i < nL) {lv' : List (Nat × Value)} (hf : (i, .ref x) :: lv.filter (fun q => !(q.1 == i) && !(q.1 + 1 == i && q.2.category == 2)) = lv') (kk : V k n ws lv' st (pc + 1)) : V k n ws lv (.ref x :: st) pc := by
  obtain ⟨⟨hx, hb, hml, hown, hts⟩, hK, hE, hA, hr, hlk, rfl⟩ := C
  intro H locs ls hP hD hS hl
  exact lv_astore_n (lv' := lv') hx hb d hi hl hn hf (fun ls hl => kk H locs ls hP hD hS hl)
theorem z_astore (C : zX V p l e R s m args below meth c D tys tw A cc Ts own nL ret Q) {i : Nat} {x : Nat} (d : decode cc pc = .ok (.astore i, 2)) (hn : i < nL) {lv' : List (Nat × Value)} (hf : (i, .ref x) :: lv.filter (fun q => !(q.1 == i) && !(q.1 + 1 == i && q.2.category == 2)) = lv') (kk : V k n ws lv' st (pc + 2)) : V k n ws lv (.ref x :: st) pc := by
  obtain ⟨⟨hx, hb, hml, hown, hts⟩, hK, hE, hA, hr, hlk, rfl⟩ := C
  intro H locs ls hP hD hS hl
  exact lv_astore (lv' := lv') hx hb d hl hn hf (fun ls hl => kk H locs ls hP hD hS hl)
theorem z_iinc (C : zX V p l e R s m args below meth c D tys tw A cc Ts own nL ret Q) {i : Nat} {x z : Int} (d : decode cc pc = .ok (.iinc i z, 3)) (j : Nat) (hj : lv[j]? = some (i, vI x)) (hn : i < nL) {lv' : List (Nat × Value)} (hf : (i, vI (x + z)) :: lv.filter (fun q => !(q.1 == i) && !(q.1 + 1 == i && q.2.category == 2)) = lv') (kk : V k n ws lv' st (pc + 3)) : V k n ws lv st pc := by
  obtain ⟨⟨hx, hb, hml, hown, hts⟩, hK, hE, hA, hr, hlk, rfl⟩ := C
  intro H locs ls hP hD hS hl
  exact lv_iinc (lv' := lv') hx hb d hl hj (by rw [← Int32.ofInt_add]) hn hf (fun ls hl => kk H locs ls hP hD hS hl)
theorem z_lsub (C : zX V p l e R s m args below meth c D tys tw A cc Ts own nL ret Q) {lv' : List (Nat × Value)} (ks : List Nat) (hf : lv_pick lv ks = lv') (kk : V k n ws lv' st pc) : V k n ws lv st pc := by
  obtain ⟨⟨hx, hb, hml, hown, hts⟩, hK, hE, hA, hr, hlk, rfl⟩ := C
  intro H locs ls hP hD hS hl
  exact kk H locs ls hP hD hS (lv_sub hl ks hf)
theorem z_iadd (C : zX V p l e R s m args below meth c D tys tw A cc Ts own nL ret Q) {x y : Int} (d : decode cc pc = .ok (.iadd, 1)) (kk : V k n ws lv (vI (x + y) :: st) (pc + 1)) : V k n ws lv (vI y :: vI x :: st) pc := by
  obtain ⟨⟨hx, hb, hml, hown, hts⟩, hK, hE, hA, hr, hlk, rfl⟩ := C
  intro H locs ls hP hD hS hl
  refine lv_iadd hx hb d ?_
  rw [← Int32.ofInt_add]
  exact kk H locs ls hP hD hS hl
theorem z_isub (C : zX V p l e R s m args below meth c D tys tw A cc Ts own nL ret Q) {x y : Int} (d : decode cc pc = .ok (.isub, 1)) (kk : V k n ws lv (vI (x - y) :: st) (pc + 1)) : V k n ws lv (vI y :: vI x :: st) pc := by
  obtain ⟨⟨hx, hb, hml, hown, hts⟩, hK, hE, hA, hr, hlk, rfl⟩ := C
  intro H locs ls hP hD hS hl
  refine lv_isub hx hb d ?_
  rw [← Int32.ofInt_sub]
  exact kk H locs ls hP hD hS hl
theorem z_imul (C : zX V p l e R s m args below meth c D tys tw A cc Ts own nL ret Q) {x y : Int} (d : decode cc pc = .ok (.imul, 1)) (kk : V k n ws lv (vI (x * y) :: st) (pc + 1)) : V k n ws lv (vI y :: vI x :: st) pc := by
  obtain ⟨⟨hx, hb, hml, hown, hts⟩, hK, hE, hA, hr, hlk, rfl⟩ := C
  intro H locs ls hP hD hS hl
  refine lv_imul hx hb d ?_
  rw [← Int32.ofInt_mul]
  exact kk H locs ls hP hD hS hl
theorem z_ineg (C : zX V p l e R s m args below meth c D tys tw A cc Ts own nL ret Q) {x : Int} (d : decode cc pc = .ok (.ineg, 1)) (kk : V k n ws lv (vI (-x) :: st) (pc + 1)) : V k n ws lv (vI x :: st) pc := by
  obtain ⟨⟨hx, hb, hml, hown, hts⟩, hK, hE, hA, hr, hlk, rfl⟩ := C
  intro H locs ls hP hD hS hl
  refine lv_ineg hx hb d ?_
  have h := kk H locs ls hP hD hS hl
  unfold vI at h
  first | (rw [Int32.ofInt_neg] at h; exact h) | (rw [show -x = 0 - x by omega, Int32.ofInt_sub] at h; exact h)
theorem z_idiv (C : zX V p l e R s m args below meth c D tys tw A cc Ts own nL ret Q) {x y : Int} (d : decode cc pc = .ok (.idiv, 1)) (hx0 : 0 ≤ x ∧ x < 2147483648) (hy0 : 0 < y ∧ y < 2147483648) (kk : V k n ws lv (vI (x / y) :: st) (pc + 1)) : V k n ws lv (vI y :: vI x :: st) pc := by
  obtain ⟨⟨hx, hb, hml, hown, hts⟩, hK, hE, hA, hr, hlk, rfl⟩ := C
  intro H locs ls hP hD hS hl
  obtain ⟨a, rfl⟩ : ∃ a : Nat, x = (a : Int) := ⟨x.toNat, by omega⟩
  obtain ⟨b, rfl⟩ : ∃ b : Nat, y = (b : Int) := ⟨y.toNat, by omega⟩
  refine lv_idiv hx hb d (by rw [iI_nI]; exact nI_ne0 (by omega) (by omega)) ?_
  rw [iI_nI, iI_nI, pk_div (by omega) (by omega) (by omega), ← iI_nI]
  exact kk H locs ls hP hD hS hl
theorem z_irem (C : zX V p l e R s m args below meth c D tys tw A cc Ts own nL ret Q) {x y : Int} (d : decode cc pc = .ok (.irem, 1)) (hx0 : 0 ≤ x ∧ x < 2147483648) (hy0 : 0 < y ∧ y < 2147483648) (kk : V k n ws lv (vI (x % y) :: st) (pc + 1)) : V k n ws lv (vI y :: vI x :: st) pc := by
  obtain ⟨⟨hx, hb, hml, hown, hts⟩, hK, hE, hA, hr, hlk, rfl⟩ := C
  intro H locs ls hP hD hS hl
  obtain ⟨a, rfl⟩ : ∃ a : Nat, x = (a : Int) := ⟨x.toNat, by omega⟩
  obtain ⟨b, rfl⟩ : ∃ b : Nat, y = (b : Int) := ⟨y.toNat, by omega⟩
  refine lv_irem hx hb d (by rw [iI_nI]; exact nI_ne0 (by omega) (by omega)) ?_
  rw [iI_nI, iI_nI, pk_rem (by omega) (by omega) (by omega), ← iI_nI]
  exact kk H locs ls hP hD hS hl
theorem z_iand (C : zX V p l e R s m args below meth c D tys tw A cc Ts own nL ret Q) {x y : Int} (j : Nat) (d : decode cc pc = .ok (.iand, 1)) (hj : j ≤ 30) (hy : y = 2 ^ j - 1) (kk : V k n ws lv (vI (x % 2 ^ j) :: st) (pc + 1)) : V k n ws lv (vI y :: vI x :: st) pc := by
  obtain ⟨⟨hx, hb, hml, hown, hts⟩, hK, hE, hA, hr, hlk, rfl⟩ := C
  intro H locs ls hP hD hS hl
  refine lv_iand hx hb d ?_
  rw [iI_and x j hj hy]
  exact kk H locs ls hP hD hS hl
theorem z_ishl (C : zX V p l e R s m args below meth c D tys tw A cc Ts own nL ret Q) {x y : Int} (j : Nat) (d : decode cc pc = .ok (.ishl, 1)) (hy : y = (j : Int)) (hj : j < 32) (kk : V k n ws lv (vI (x * 2 ^ j) :: st) (pc + 1)) : V k n ws lv (vI y :: vI x :: st) pc := by
  obtain ⟨⟨hx, hb, hml, hown, hts⟩, hK, hE, hA, hr, hlk, rfl⟩ := C
  intro H locs ls hP hD hS hl
  refine lv_ishl hx hb d ?_
  rw [iI_shl x (by omega) (by omega), hy]
  exact kk H locs ls hP hD hS hl
theorem z_ishr (C : zX V p l e R s m args below meth c D tys tw A cc Ts own nL ret Q) {x y : Int} (j : Nat) (d : decode cc pc = .ok (.ishr, 1)) (hx0 : -2147483648 ≤ x ∧ x < 2147483648) (hy : y = (j : Int)) (hj : j < 32) (kk : V k n ws lv (vI (x / 2 ^ j) :: st) (pc + 1)) : V k n ws lv (vI y :: vI x :: st) pc := by
  obtain ⟨⟨hx, hb, hml, hown, hts⟩, hK, hE, hA, hr, hlk, rfl⟩ := C
  intro H locs ls hP hD hS hl
  refine lv_ishr hx hb d ?_
  rw [iI_shr hx0 (by omega) (by omega), hy]
  exact kk H locs ls hP hD hS hl
theorem z_iushr (C : zX V p l e R s m args below meth c D tys tw A cc Ts own nL ret Q) {x y : Int} (j : Nat) (d : decode cc pc = .ok (.iushr, 1)) (hx0 : 0 ≤ x ∧ x < 2147483648) (hy : y = (j : Int)) (hj : j < 32) (kk : V k n ws lv (vI (x / 2 ^ j) :: st) (pc + 1)) : V k n ws lv (vI y :: vI x :: st) pc := by
  obtain ⟨⟨hx, hb, hml, hown, hts⟩, hK, hE, hA, hr, hlk, rfl⟩ := C
  intro H locs ls hP hD hS hl
  have hv := iI_ushr hx0 (s := y) (by omega) (by omega)
  refine lv_iushr hx hb d hv ?_
  rw [show y.toNat = j by omega]
  exact kk H locs ls hP hD hS hl
theorem z_ior (C : zX V p l e R s m args below meth c D tys tw A cc Ts own nL ret Q) {x y : Int} (a : Int) (j : Nat) (d : decode cc pc = .ok (.ior, 1)) (hj : j ≤ 30) (ha : x = a * 2 ^ j) (hy : 0 ≤ y ∧ y < 2 ^ j) (kk : V k n ws lv (vI (x + y) :: st) (pc + 1)) : V k n ws lv (vI y :: vI x :: st) pc := by
  obtain ⟨⟨hx, hb, hml, hown, hts⟩, hK, hE, hA, hr, hlk, rfl⟩ := C
  intro H locs ls hP hD hS hl
  refine lv_ior hx hb d ?_
  rw [ha, iI_or hj hy.1 hy.2, ← ha]
  exact kk H locs ls hP hD hS hl
theorem z_i2b (C : zX V p l e R s m args below meth c D tys tw A cc Ts own nL ret Q) {x : Int} (d : decode cc pc = .ok (.i2b, 1)) (kk : V k n ws lv (vI (sb x) :: st) (pc + 1)) : V k n ws lv (vI x :: st) pc := by
  obtain ⟨⟨hx, hb, hml, hown, hts⟩, hK, hE, hA, hr, hlk, rfl⟩ := C
  intro H locs ls hP hD hS hl
  refine lv_i2b hx hb d (sb_8 x) ?_
  exact kk H locs ls hP hD hS hl
theorem z_dup (C : zX V p l e R s m args below meth c D tys tw A cc Ts own nL ret Q) {v : Value} (d : decode cc pc = .ok (.dup, 1)) (hv : v.category = 1) (kk : V k n ws lv (v :: v :: st) (pc + 1)) : V k n ws lv (v :: st) pc := by
  obtain ⟨⟨hx, hb, hml, hown, hts⟩, hK, hE, hA, hr, hlk, rfl⟩ := C
  intro H locs ls hP hD hS hl
  exact lv_dup hx hb d hv (kk H locs ls hP hD hS hl)
theorem z_pop (C : zX V p l e R s m args below meth c D tys tw A cc Ts own nL ret Q) {v : Value} (d : decode cc pc = .ok (.pop, 1)) (hv : v.category = 1) (kk : V k n ws lv st (pc + 1)) : V k n ws lv (v :: st) pc := by
  obtain ⟨⟨hx, hb, hml, hown, hts⟩, hK, hE, hA, hr, hlk, rfl⟩ := C
  intro H locs ls hP hD hS hl
  exact lv_pop hx hb d hv (kk H locs ls hP hD hS hl)
theorem z_goto (C : zX V p l e R s m args below meth c D tys tw A cc Ts own nL ret Q) {off : Int} {tgt : Nat} (d : decode cc pc = .ok (.goto off, 3)) (ht : (pc : Int) + off = (tgt : Int)) (kk : V k n ws lv st tgt) : V k n ws lv st pc := by
  obtain ⟨⟨hx, hb, hml, hown, hts⟩, hK, hE, hA, hr, hlk, rfl⟩ := C
  intro H locs ls hP hD hS hl
  exact lv_goto hx hb d ht (kk H locs ls hP hD hS hl)
theorem z_icmp_lt (C : zX V p l e R s m args below meth c D tys tw A cc Ts own nL ret Q) {x y : Int} (hx0 : -2147483648 ≤ x ∧ x < 2147483648) (hy0 : -2147483648 ≤ y ∧ y < 2147483648) {off : Int} {tgt : Nat} (d : decode cc pc = .ok (.if_icmp .lt off, 3)) (ht : (pc : Int) + off = (tgt : Int)) (kt : x < y → V k n ws lv st tgt) (kf : ¬ x < y → V k n ws lv st (pc + 3)) : V k n ws lv (vI y :: vI x :: st) pc := by
  obtain ⟨⟨hx, hb, hml, hown, hts⟩, hK, hE, hA, hr, hlk, rfl⟩ := C
  intro H locs ls hP hD hS hl
  have w := iI_lt hx0 hy0
  exact lv_icmp_lt hx hb d ht (fun q => kt (by first | exact w.mp q | exact fun z => q (w.mpr z)) H locs ls hP hD hS hl) (fun q => kf (by first | exact w.mp q | exact fun z => q (w.mpr z)) H locs ls hP hD hS hl)
theorem z_if_lt (C : zX V p l e R s m args below meth c D tys tw A cc Ts own nL ret Q) {x : Int} (hx0 : -2147483648 ≤ x ∧ x < 2147483648) {off : Int} {tgt : Nat} (d : decode cc pc = .ok (.ifCond .lt off, 3)) (ht : (pc : Int) + off = (tgt : Int)) (kt : x < 0 → V k n ws lv st tgt) (kf : ¬ x < 0 → V k n ws lv st (pc + 3)) : V k n ws lv (vI x :: st) pc := by
  obtain ⟨⟨hx, hb, hml, hown, hts⟩, hK, hE, hA, hr, hlk, rfl⟩ := C
  intro H locs ls hP hD hS hl
  have hy0 : -2147483648 ≤ (0 : Int) ∧ (0 : Int) < 2147483648 := by decide
  have w := iI_lt hx0 hy0
  rw [show Int32.ofInt 0 = 0 from rfl] at w
  exact lv_if_lt hx hb d ht (fun q => kt (by first | exact w.mp q | exact fun z => q (w.mpr z)) H locs ls hP hD hS hl) (fun q => kf (by first | exact w.mp q | exact fun z => q (w.mpr z)) H locs ls hP hD hS hl)
theorem z_icmp_ge (C : zX V p l e R s m args below meth c D tys tw A cc Ts own nL ret Q) {x y : Int} (hx0 : -2147483648 ≤ x ∧ x < 2147483648) (hy0 : -2147483648 ≤ y ∧ y < 2147483648) {off : Int} {tgt : Nat} (d : decode cc pc = .ok (.if_icmp .ge off, 3)) (ht : (pc : Int) + off = (tgt : Int)) (kt : y ≤ x → V k n ws lv st tgt) (kf : ¬ y ≤ x → V k n ws lv st (pc + 3)) : V k n ws lv (vI y :: vI x :: st) pc := by
  obtain ⟨⟨hx, hb, hml, hown, hts⟩, hK, hE, hA, hr, hlk, rfl⟩ := C
  intro H locs ls hP hD hS hl
  have w := iI_le hy0 hx0
  exact lv_icmp_ge hx hb d ht (fun q => kt (by first | exact w.mp q | exact fun z => q (w.mpr z)) H locs ls hP hD hS hl) (fun q => kf (by first | exact w.mp q | exact fun z => q (w.mpr z)) H locs ls hP hD hS hl)
theorem z_if_ge (C : zX V p l e R s m args below meth c D tys tw A cc Ts own nL ret Q) {x : Int} (hx0 : -2147483648 ≤ x ∧ x < 2147483648) {off : Int} {tgt : Nat} (d : decode cc pc = .ok (.ifCond .ge off, 3)) (ht : (pc : Int) + off = (tgt : Int)) (kt : 0 ≤ x → V k n ws lv st tgt) (kf : ¬ 0 ≤ x → V k n ws lv st (pc + 3)) : V k n ws lv (vI x :: st) pc := by
  obtain ⟨⟨hx, hb, hml, hown, hts⟩, hK, hE, hA, hr, hlk, rfl⟩ := C
  intro H locs ls hP hD hS hl
  have hy0 : -2147483648 ≤ (0 : Int) ∧ (0 : Int) < 2147483648 := by decide
  have w := iI_le hy0 hx0
  rw [show Int32.ofInt 0 = 0 from rfl] at w
  exact lv_if_ge hx hb d ht (fun q => kt (by first | exact w.mp q | exact fun z => q (w.mpr z)) H locs ls hP hD hS hl) (fun q => kf (by first | exact w.mp q | exact fun z => q (w.mpr z)) H locs ls hP hD hS hl)
theorem z_icmp_gt (C : zX V p l e R s m args below meth c D tys tw A cc Ts own nL ret Q) {x y : Int} (hx0 : -2147483648 ≤ x ∧ x < 2147483648) (hy0 : -2147483648 ≤ y ∧ y < 2147483648) {off : Int} {tgt : Nat} (d : decode cc pc = .ok (.if_icmp .gt off, 3)) (ht : (pc : Int) + off = (tgt : Int)) (kt : y < x → V k n ws lv st tgt) (kf : ¬ y < x → V k n ws lv st (pc + 3)) : V k n ws lv (vI y :: vI x :: st) pc := by
  obtain ⟨⟨hx, hb, hml, hown, hts⟩, hK, hE, hA, hr, hlk, rfl⟩ := C
  intro H locs ls hP hD hS hl
  have w := iI_lt hy0 hx0
  exact lv_icmp_gt hx hb d ht (fun q => kt (by first | exact w.mp q | exact fun z => q (w.mpr z)) H locs ls hP hD hS hl) (fun q => kf (by first | exact w.mp q | exact fun z => q (w.mpr z)) H locs ls hP hD hS hl)
theorem z_if_gt (C : zX V p l e R s m args below meth c D tys tw A cc Ts own nL ret Q) {x : Int} (hx0 : -2147483648 ≤ x ∧ x < 2147483648) {off : Int} {tgt : Nat} (d : decode cc pc = .ok (.ifCond .gt off, 3)) (ht : (pc : Int) + off = (tgt : Int)) (kt : 0 < x → V k n ws lv st tgt) (kf : ¬ 0 < x → V k n ws lv st (pc + 3)) : V k n ws lv (vI x :: st) pc := by
  obtain ⟨⟨hx, hb, hml, hown, hts⟩, hK, hE, hA, hr, hlk, rfl⟩ := C
  intro H locs ls hP hD hS hl
  have hy0 : -2147483648 ≤ (0 : Int) ∧ (0 : Int) < 2147483648 := by decide
  have w := iI_lt hy0 hx0
  rw [show Int32.ofInt 0 = 0 from rfl] at w
  exact lv_if_gt hx hb d ht (fun q => kt (by first | exact w.mp q | exact fun z => q (w.mpr z)) H locs ls hP hD hS hl) (fun q => kf (by first | exact w.mp q | exact fun z => q (w.mpr z)) H locs ls hP hD hS hl)
theorem z_icmp_le (C : zX V p l e R s m args below meth c D tys tw A cc Ts own nL ret Q) {x y : Int} (hx0 : -2147483648 ≤ x ∧ x < 2147483648) (hy0 : -2147483648 ≤ y ∧ y < 2147483648) {off : Int} {tgt : Nat} (d : decode cc pc = .ok (.if_icmp .le off, 3)) (ht : (pc : Int) + off = (tgt : Int)) (kt : x ≤ y → V k n ws lv st tgt) (kf : ¬ x ≤ y → V k n ws lv st (pc + 3)) : V k n ws lv (vI y :: vI x :: st) pc := by
  obtain ⟨⟨hx, hb, hml, hown, hts⟩, hK, hE, hA, hr, hlk, rfl⟩ := C
  intro H locs ls hP hD hS hl
  have w := iI_le hx0 hy0
  exact lv_icmp_le hx hb d ht (fun q => kt (by first | exact w.mp q | exact fun z => q (w.mpr z)) H locs ls hP hD hS hl) (fun q => kf (by first | exact w.mp q | exact fun z => q (w.mpr z)) H locs ls hP hD hS hl)
theorem z_if_le (C : zX V p l e R s m args below meth c D tys tw A cc Ts own nL ret Q) {x : Int} (hx0 : -2147483648 ≤ x ∧ x < 2147483648) {off : Int} {tgt : Nat} (d : decode cc pc = .ok (.ifCond .le off, 3)) (ht : (pc : Int) + off = (tgt : Int)) (kt : x ≤ 0 → V k n ws lv st tgt) (kf : ¬ x ≤ 0 → V k n ws lv st (pc + 3)) : V k n ws lv (vI x :: st) pc := by
  obtain ⟨⟨hx, hb, hml, hown, hts⟩, hK, hE, hA, hr, hlk, rfl⟩ := C
  intro H locs ls hP hD hS hl
  have hy0 : -2147483648 ≤ (0 : Int) ∧ (0 : Int) < 2147483648 := by decide
  have w := iI_le hx0 hy0
  rw [show Int32.ofInt 0 = 0 from rfl] at w
  exact lv_if_le hx hb d ht (fun q => kt (by first | exact w.mp q | exact fun z => q (w.mpr z)) H locs ls hP hD hS hl) (fun q => kf (by first | exact w.mp q | exact fun z => q (w.mpr z)) H locs ls hP hD hS hl)
theorem z_icmp_eq (C : zX V p l e R s m args below meth c D tys tw A cc Ts own nL ret Q) {x y : Int} (hx0 : -2147483648 ≤ x ∧ x < 2147483648) (hy0 : -2147483648 ≤ y ∧ y < 2147483648) {off : Int} {tgt : Nat} (d : decode cc pc = .ok (.if_icmp .eq off, 3)) (ht : (pc : Int) + off = (tgt : Int)) (kt : x = y → V k n ws lv st tgt) (kf : ¬ x = y → V k n ws lv st (pc + 3)) : V k n ws lv (vI y :: vI x :: st) pc := by
  obtain ⟨⟨hx, hb, hml, hown, hts⟩, hK, hE, hA, hr, hlk, rfl⟩ := C
  intro H locs ls hP hD hS hl
  have w := iI_eq hx0 hy0
  exact lv_icmp_eq hx hb d ht (fun q => kt (by first | exact w.mp q | exact fun z => q (w.mpr z)) H locs ls hP hD hS hl) (fun q => kf (by first | exact w.mp q | exact fun z => q (w.mpr z)) H locs ls hP hD hS hl)
theorem z_if_eq (C : zX V p l e R s m args below meth c D tys tw A cc Ts own nL ret Q) {x : Int} (hx0 : -2147483648 ≤ x ∧ x < 2147483648) {off : Int} {tgt : Nat} (d : decode cc pc = .ok (.ifCond .eq off, 3)) (ht : (pc : Int) + off = (tgt : Int)) (kt : x = 0 → V k n ws lv st tgt) (kf : ¬ x = 0 → V k n ws lv st (pc + 3)) : V k n ws lv (vI x :: st) pc := by
  obtain ⟨⟨hx, hb, hml, hown, hts⟩, hK, hE, hA, hr, hlk, rfl⟩ := C
  intro H locs ls hP hD hS hl
  have hy0 : -2147483648 ≤ (0 : Int) ∧ (0 : Int) < 2147483648 := by decide
  have w := iI_eq hx0 hy0
  rw [show Int32.ofInt 0 = 0 from rfl] at w
  exact lv_if_eq hx hb d ht (fun q => kt (by first | exact w.mp q | exact fun z => q (w.mpr z)) H locs ls hP hD hS hl) (fun q => kf (by first | exact w.mp q | exact fun z => q (w.mpr z)) H locs ls hP hD hS hl)
theorem z_icmp_ne (C : zX V p l e R s m args below meth c D tys tw A cc Ts own nL ret Q) {x y : Int} (hx0 : -2147483648 ≤ x ∧ x < 2147483648) (hy0 : -2147483648 ≤ y ∧ y < 2147483648) {off : Int} {tgt : Nat} (d : decode cc pc = .ok (.if_icmp .ne off, 3)) (ht : (pc : Int) + off = (tgt : Int)) (kt : ¬ x = y → V k n ws lv st tgt) (kf : x = y → V k n ws lv st (pc + 3)) : V k n ws lv (vI y :: vI x :: st) pc := by
  obtain ⟨⟨hx, hb, hml, hown, hts⟩, hK, hE, hA, hr, hlk, rfl⟩ := C
  intro H locs ls hP hD hS hl
  have w := iI_eq hx0 hy0
  exact lv_icmp_ne hx hb d ht (fun q => kt (by first | exact w.mp q | exact fun z => q (w.mpr z)) H locs ls hP hD hS hl) (fun q => kf (by first | exact w.mp q | exact fun z => q (w.mpr z)) H locs ls hP hD hS hl)
theorem z_if_ne (C : zX V p l e R s m args below meth c D tys tw A cc Ts own nL ret Q) {x : Int} (hx0 : -2147483648 ≤ x ∧ x < 2147483648) {off : Int} {tgt : Nat} (d : decode cc pc = .ok (.ifCond .ne off, 3)) (ht : (pc : Int) + off = (tgt : Int)) (kt : ¬ x = 0 → V k n ws lv st tgt) (kf : x = 0 → V k n ws lv st (pc + 3)) : V k n ws lv (vI x :: st) pc := by
  obtain ⟨⟨hx, hb, hml, hown, hts⟩, hK, hE, hA, hr, hlk, rfl⟩ := C
  intro H locs ls hP hD hS hl
  have hy0 : -2147483648 ≤ (0 : Int) ∧ (0 : Int) < 2147483648 := by decide
  have w := iI_eq hx0 hy0
  rw [show Int32.ofInt 0 = 0 from rfl] at w
  exact lv_if_ne hx hb d ht (fun q => kt (by first | exact w.mp q | exact fun z => q (w.mpr z)) H locs ls hP hD hS hl) (fun q => kf (by first | exact w.mp q | exact fun z => q (w.mpr z)) H locs ls hP hD hS hl)
theorem z_ifz (C : zX V p l e R s m args below meth c D tys tw A cc Ts own nL ret Q) {b : Bool} {off : Int} {tgt : Nat} (d : decode cc pc = .ok (.ifCond .eq off, 3)) (ht : (pc : Int) + off = (tgt : Int)) (kt : b = false → V k n ws lv st tgt) (kf : b = true → V k n ws lv st (pc + 3)) : V k n ws lv (vI (b2i b) :: st) pc :=
  z_if_eq C (by have := b2i_01 b; omega) d ht (fun q => kt (b2i_0.mp q)) (fun q => kf (by cases b with | false => exact absurd rfl q | true => rfl))
theorem z_ifnz (C : zX V p l e R s m args below meth c D tys tw A cc Ts own nL ret Q) {b : Bool} {off : Int} {tgt : Nat} (d : decode cc pc = .ok (.ifCond .ne off, 3)) (ht : (pc : Int) + off = (tgt : Int)) (kt : b = true → V k n ws lv st tgt) (kf : b = false → V k n ws lv st (pc + 3)) : V k n ws lv (vI (b2i b) :: st) pc :=
  z_if_ne C (by have := b2i_01 b; omega) d ht (fun q => kt (by cases b with | false => exact absurd rfl q | true => rfl)) (fun q => kf (b2i_0.mp q))
theorem z_get (C : zX V p l e R s m args below meth c D tys tw A cc Ts own nL ret Q) {ref CN : String} {T : u_T} {N ci index : Nat} (hin : ∀ w ∈ u_ws CN T N, w ∈ Ts) (hc : vwCl[ci]? = some (CN, T, N)) (q0 : Nat) {fs : List Value} {a : Nat} (he : ws[q0]? = some (a, .inr (ci, fs))) (i : Nat) (hi : i < N) (hl0 : Cond.fieldLink own index ref (T i).2.1 (T i).2.2.1 ∈ Ts) (href : (T i).1 = ref) {v : Value} (hv : fs[i]? = some v) (d : decode cc pc = .ok (.getfield index, 3)) (kk : V k n ws lv (v :: st) (pc + 3)) : V k n ws lv (.ref a :: st) pc := by
  obtain ⟨⟨hx, hb, hml, hown, hts⟩, hK, hE, hA, hr, hlk, rfl⟩ := C
  intro H locs ls hP hD hS hl
  subst href
  exact va_get hx hb hts hin hown hK hP q0 he hc i hi (hts _ hl0) (fun _ h => h) hv d (kk H locs ls hP hD hS hl)
theorem z_put (C : zX V p l e R s m args below meth c D tys tw A cc Ts own nL ret Q) {ref CN : String} {T : u_T} {N ci index : Nat} (hin : ∀ w ∈ u_ws CN T N, w ∈ Ts) (ty0 : Nat → FieldType) (hty : ∀ k, k < N → parseFieldDescriptor (T k).2.2.1 = some (ty0 k)) (hnm : ∀ a, a < N → ∀ b, b < N → a ≠ b → (T a).2.1 ≠ (T b).2.1) (hc : vwCl[ci]? = some (CN, T, N)) (q0 : Nat) {fs : List Value} {a : Nat} (he : ws[q0]? = some (a, .inr (ci, fs))) (i : Nat) (hi : i < N) (hl0 : Cond.fieldLink own index ref (T i).2.1 (T i).2.2.1 ∈ Ts) (href : (T i).1 = ref) (hfin : (T i).2.2.2 = false) {v : Value} (hn : narrow (ty0 i) v = v) (hfit : fits (ty0 i) v = true) (hlen : i < fs.length) (d : decode cc pc = .ok (.putfield index, 3)) {ws' : va_W} (hw : ws.set q0 (a, .inr (ci, fs.set i v)) = ws') (kk : V k n ws' lv st (pc + 3)) : V k n ws lv (v :: .ref a :: st) pc := by
  obtain ⟨⟨hx, hb, hml, hown, hts⟩, hK, hE, hA, hr, hlk, rfl⟩ := C
  intro H locs ls hP hD hS hl
  subst href
  subst hw
  exact va_put hx hb hts hin ty0 hty hnm hown hK hP hD hS q0 he hc i hi (hts _ hl0) (fun _ h => h) hfin (hty i hi) hn hfit hlen d (fun H1 locs1 hP hD hS => kk H1 locs1 ls hP hD hS hl)
theorem z_putF (C : zX V p l e R s m args below meth c D tys tw A cc Ts own nL ret Q) {ref CN : String} {T : u_T} {N ci index : Nat} (hmn : meth.name = "<init>") (hin : ∀ w ∈ u_ws CN T N, w ∈ Ts) (ty0 : Nat → FieldType) (hty : ∀ k, k < N → parseFieldDescriptor (T k).2.2.1 = some (ty0 k)) (hnm : ∀ a, a < N → ∀ b, b < N → a ≠ b → (T a).2.1 ≠ (T b).2.1) (hc : vwCl[ci]? = some (CN, T, N)) (q0 : Nat) {fs : List Value} {a : Nat} (he : ws[q0]? = some (a, .inr (ci, fs))) (i : Nat) (hi : i < N) (hl0 : Cond.fieldLink own index ref (T i).2.1 (T i).2.2.1 ∈ Ts) (href : (T i).1 = ref) (hdecl : (T i).1 = own) (hfin : (T i).2.2.2 = true) {v : Value} (hn : narrow (ty0 i) v = v) (hfit : fits (ty0 i) v = true) (hlen : i < fs.length) (d : decode cc pc = .ok (.putfield index, 3)) {ws' : va_W} (hw : ws.set q0 (a, .inr (ci, fs.set i v)) = ws') (kk : V k n ws' lv st (pc + 3)) : V k n ws lv (v :: .ref a :: st) pc := by
  obtain ⟨⟨hx, hb, hml, hown, hts⟩, hK, hE, hA, hr, hlk, rfl⟩ := C
  intro H locs ls hP hD hS hl
  subst href
  subst hw
  exact va_putF hx hb hts hin ty0 hty hnm hown hK hP hD hS q0 he hc i hi (hts _ hl0) (fun _ h => h) hfin hmn hdecl (hty i hi) hn hfit hlen d (fun H1 locs1 hP hD hS => kk H1 locs1 ls hP hD hS hl)
theorem z_narZ (b : Bool) : narrow .boolean (vI (b2i b)) = vI (b2i b) ∧ fits .boolean (vI (b2i b)) = true := by cases b <;> exact ⟨by decide, by decide⟩
theorem z_narI (x : Int) : narrow .int (vI x) = vI x ∧ fits .int (vI x) = true := ⟨rfl, rfl⟩
theorem z_iald (C : zX V p l e R s m args below meth c D tys tw A cc Ts own nL ret Q) (q0 t0 : Nat) {a : Nat} {cA : ClassId} {N : Nat} {g : Nat → Int} (he : ws[q0]? = some (a, aI cA N g)) (ht : tys[t0]? = some (cA, .int)) {x : Int} (h0 : 0 ≤ x) (h1 : x < (N : Int)) (hN : (N : Int) ≤ 2147483647) (d : decode cc pc = .ok (.iaload, 1)) (kk : V k n ws lv (vI (g x.toNat) :: st) (pc + 1)) : V k n ws lv (vI x :: .ref a :: st) pc := by
  obtain ⟨⟨hx, hb, hml, hown, hts⟩, hK, hE, hA, hr, hlk, rfl⟩ := C
  intro H locs ls hP hD hS hl
  refine va_iald hx hb hK hP q0 t0 he ht (iI_in h0 h1 hN) d ?_
  rw [iI_nat h0 (by omega)]
  exact kk H locs ls hP hD hS hl
theorem z_bald (C : zX V p l e R s m args below meth c D tys tw A cc Ts own nL ret Q) (q0 t0 : Nat) {a : Nat} {cA : ClassId} {N : Nat} {g : Nat → Int} (he : ws[q0]? = some (a, aB cA N g)) (ht : tys[t0]? = some (cA, .byte)) {x : Int} (h0 : 0 ≤ x) (h1 : x < (N : Int)) (hN : (N : Int) ≤ 2147483647) (d : decode cc pc = .ok (.baload, 1)) (kk : V k n ws lv (vI (sb (g x.toNat)) :: st) (pc + 1)) : V k n ws lv (vI x :: .ref a :: st) pc := by
  obtain ⟨⟨hx, hb, hml, hown, hts⟩, hK, hE, hA, hr, hlk, rfl⟩ := C
  intro H locs ls hP hD hS hl
  refine va_bald hx hb hK hP q0 t0 he ht (iI_in h0 h1 hN) d ?_
  rw [iI_nat h0 (by omega)]
  exact kk H locs ls hP hD hS hl
theorem z_zald (C : zX V p l e R s m args below meth c D tys tw A cc Ts own nL ret Q) (q0 t0 : Nat) {a : Nat} {cA : ClassId} {N : Nat} {g : Nat → Bool} (he : ws[q0]? = some (a, aZ cA N g)) (ht : tys[t0]? = some (cA, .boolean)) {x : Int} (h0 : 0 ≤ x) (h1 : x < (N : Int)) (hN : (N : Int) ≤ 2147483647) (d : decode cc pc = .ok (.baload, 1)) (kk : V k n ws lv (vI (b2i (g x.toNat)) :: st) (pc + 1)) : V k n ws lv (vI x :: .ref a :: st) pc := by
  obtain ⟨⟨hx, hb, hml, hown, hts⟩, hK, hE, hA, hr, hlk, rfl⟩ := C
  intro H locs ls hP hD hS hl
  refine va_zald hx hb hK hP q0 t0 he ht (iI_in h0 h1 hN) d ?_
  rw [iI_nat h0 (by omega)]
  exact kk H locs ls hP hD hS hl
theorem z_lald (C : zX V p l e R s m args below meth c D tys tw A cc Ts own nL ret Q) (q0 t0 : Nat) {a : Nat} {cA : ClassId} {N : Nat} {g : Nat → BitVec 64} (he : ws[q0]? = some (a, aJ cA N g)) (ht : tys[t0]? = some (cA, .long)) {x : Int} (h0 : 0 ≤ x) (h1 : x < (N : Int)) (hN : (N : Int) ≤ 2147483647) (d : decode cc pc = .ok (.laload, 1)) (kk : V k n ws lv (vJ (g x.toNat) :: st) (pc + 1)) : V k n ws lv (vI x :: .ref a :: st) pc := by
  obtain ⟨⟨hx, hb, hml, hown, hts⟩, hK, hE, hA, hr, hlk, rfl⟩ := C
  intro H locs ls hP hD hS hl
  refine va_lald hx hb hK hP q0 t0 he ht (iI_in h0 h1 hN) d ?_
  rw [iI_nat h0 (by omega)]
  exact kk H locs ls hP hD hS hl
theorem z_alen (C : zX V p l e R s m args below meth c D tys tw A cc Ts own nL ret Q) (q0 t0 : Nat) {a : Nat} {cA : ClassId} {x : vp_A} (he : ws[q0]? = some (a, .inl (cA, x))) {ty : FieldType} (ht : tys[t0]? = some (cA, ty)) {N : Nat} (hN : x.1 = N) (d : decode cc pc = .ok (.arraylength, 1)) (kk : V k n ws lv (vI (N : Int) :: st) (pc + 1)) : V k n ws lv (.ref a :: st) pc := by
  obtain ⟨⟨hx, hb, hml, hown, hts⟩, hK, hE, hA, hr, hlk, rfl⟩ := C
  intro H locs ls hP hD hS hl
  subst hN
  refine va_alen hx hb hK hP q0 t0 he ht (v := Int32.ofInt (x.1 : Int)) (by rw [iI_nI]; rfl) d ?_
  exact kk H locs ls hP hD hS hl
theorem z_updI (g : Nat → Int) (j : Nat) (y : Int) : upd (fun i => Int32.ofInt (g i)) j (Int32.ofInt y) = fun i => Int32.ofInt (va_up g j y i) := by
  funext i
  unfold upd va_up
  split <;> rfl
theorem z_iast (C : zX V p l e R s m args below meth c D tys tw A cc Ts own nL ret Q) (q0 t0 : Nat) {a : Nat} {cA : ClassId} {N : Nat} {g : Nat → Int} (he : ws[q0]? = some (a, aI cA N g)) (ht : tys[t0]? = some (cA, .int)) {x y : Int} (h0 : 0 ≤ x) (h1 : x < (N : Int)) (hN : (N : Int) ≤ 2147483647) (d : decode cc pc = .ok (.iastore, 1)) {ws' : va_W} (hw : ws.set q0 (a, aI cA N (va_up g x.toNat y)) = ws') (kk : V k n ws' lv st (pc + 1)) : V k n ws lv (vI y :: vI x :: .ref a :: st) pc := by
  obtain ⟨⟨hx, hb, hml, hown, hts⟩, hK, hE, hA, hr, hlk, rfl⟩ := C
  intro H locs ls hP hD hS hl
  refine va_iast hx hb hK hP hD hS q0 t0 he ht (iI_in h0 h1 hN) d (fun H1 locs1 hP hD hS => ?_)
  rw [iI_nat h0 (by omega), z_updI] at hP hD
  subst hw
  exact kk H1 locs1 ls hP hD hS hl
theorem z_bast (C : zX V p l e R s m args below meth c D tys tw A cc Ts own nL ret Q) (q0 t0 : Nat) {a : Nat} {cA : ClassId} {N : Nat} {g : Nat → Int} (he : ws[q0]? = some (a, aB cA N g)) (ht : tys[t0]? = some (cA, .byte)) {x y : Int} (h0 : 0 ≤ x) (h1 : x < (N : Int)) (hN : (N : Int) ≤ 2147483647) (d : decode cc pc = .ok (.bastore, 1)) {ws' : va_W} (hw : ws.set q0 (a, aB cA N (va_up g x.toNat y)) = ws') (kk : V k n ws' lv st (pc + 1)) : V k n ws lv (vI y :: vI x :: .ref a :: st) pc := by
  obtain ⟨⟨hx, hb, hml, hown, hts⟩, hK, hE, hA, hr, hlk, rfl⟩ := C
  intro H locs ls hP hD hS hl
  refine va_bast hx hb hK hP hD hS q0 t0 he ht (iI_in h0 h1 hN) d (fun H1 locs1 hP hD hS => ?_)
  have e : upd (fun i => Int32.ofInt (sb (g i))) x.toNat (vp_nar .byte (Int32.ofInt y)) = fun i => Int32.ofInt (sb (va_up g x.toNat y i)) := by
    funext i
    rw [vp_nar_byte, sb_8]
    unfold upd va_up
    split <;> rfl
  rw [iI_nat h0 (by omega), e] at hP hD
  subst hw
  exact kk H1 locs1 ls hP hD hS hl
theorem z_zast (C : zX V p l e R s m args below meth c D tys tw A cc Ts own nL ret Q) (q0 t0 : Nat) {a : Nat} {cA : ClassId} {N : Nat} {g : Nat → Bool} (he : ws[q0]? = some (a, aZ cA N g)) (ht : tys[t0]? = some (cA, .boolean)) {x : Int} {b : Bool} (h0 : 0 ≤ x) (h1 : x < (N : Int)) (hN : (N : Int) ≤ 2147483647) (d : decode cc pc = .ok (.bastore, 1)) {ws' : va_W} (hw : ws.set q0 (a, aZ cA N (va_up g x.toNat b)) = ws') (kk : V k n ws' lv st (pc + 1)) : V k n ws lv (vI (b2i b) :: vI x :: .ref a :: st) pc := by
  obtain ⟨⟨hx, hb, hml, hown, hts⟩, hK, hE, hA, hr, hlk, rfl⟩ := C
  intro H locs ls hP hD hS hl
  refine va_zast hx hb hK hP hD hS q0 t0 he ht (iI_in h0 h1 hN) d (fun H1 locs1 hP hD hS => ?_)
  have e : upd (fun i => Int32.ofInt (b2i (g i))) x.toNat (vp_nar .boolean (Int32.ofInt (b2i b))) = fun i => Int32.ofInt (b2i (va_up g x.toNat b i)) := by
    funext i
    rw [show vp_nar .boolean (Int32.ofInt (b2i b)) = Int32.ofInt (b2i b) by cases b <;> decide]
    unfold upd va_up
    split <;> rfl
  rw [iI_nat h0 (by omega), e] at hP hD
  subst hw
  exact kk H1 locs1 ls hP hD hS hl
theorem z_last (C : zX V p l e R s m args below meth c D tys tw A cc Ts own nL ret Q) (q0 t0 : Nat) {a : Nat} {cA : ClassId} {N : Nat} {g : Nat → BitVec 64} (he : ws[q0]? = some (a, aJ cA N g)) (ht : tys[t0]? = some (cA, .long)) {x : Int} {y : BitVec 64} (h0 : 0 ≤ x) (h1 : x < (N : Int)) (hN : (N : Int) ≤ 2147483647) (d : decode cc pc = .ok (.lastore, 1)) {ws' : va_W} (hw : ws.set q0 (a, aJ cA N (va_up g x.toNat y)) = ws') (kk : V k n ws' lv st (pc + 1)) : V k n ws lv (vJ y :: vI x :: .ref a :: st) pc := by
  obtain ⟨⟨hx, hb, hml, hown, hts⟩, hK, hE, hA, hr, hlk, rfl⟩ := C
  intro H locs ls hP hD hS hl
  refine va_last hx hb hK hP hD hS q0 t0 he ht (iI_in h0 h1 hN) d (fun H1 locs1 hP hD hS => ?_)
  have e : vp_updL (fun i => Int64.ofBitVec (g i)) x.toNat (Int64.ofBitVec y) = fun i => Int64.ofBitVec (va_up g x.toNat y i) := by
    funext i
    unfold vp_updL va_up
    split <;> rfl
  rw [iI_nat h0 (by omega), e] at hP hD
  subst hw
  exact kk H1 locs1 ls hP hD hS hl
theorem z_mmax (C : zX V p l e R s m args below meth c D tys tw A cc Ts own nL ret Q) {index : Nat} (h1 : Cond.methodLink own index Lib.Math.max.name ∈ Ts) (h2 : Cond.static Lib.Math.max.name ∈ Ts) (h3 : Cond.initialized "java/lang/Math" ∈ Ts) (h4 : Cond.code Lib.Math.max.name Lib.Math.max.code 2 (some .int) ∈ Ts) (hR : 1 ≤ R.frames) (hR2 : (st.map fun v => v.category).sum + 13 ≤ R.locals) (hkR : k ≤ R.cells) (hnR : n ≤ R.slots) {x y : Int} (hx0 : -2147483648 ≤ x ∧ x < 2147483648) (hy0 : -2147483648 ≤ y ∧ y < 2147483648) (d : decode cc pc = .ok (.invokestatic index, 3)) (kk : V k n ws lv (vI (if x < y then y else x) :: st) (pc + 3)) : V k n ws lv (vI y :: vI x :: st) pc := by
  obtain ⟨⟨hx, hb, hml, hown, hts⟩, hK, hE, hA, hr, hlk, rfl⟩ := C
  intro H locs ls hP hD hS hl
  refine va_mmax hx hb (hml.trans hl.1.symm) hown (hts _ h1) (hts _ h2) (hts _ h3) (hts _ h4) hR hR2 hkR hnR d ?_
  have w := iI_lt hx0 hy0
  have h := kk H locs ls hP hD hS hl
  unfold vI at h
  by_cases hc : x < y
  · rw [if_pos hc] at h; rw [if_pos (w.mpr hc)]; exact h
  · rw [if_neg hc] at h; rw [if_neg (fun z => hc (w.mp z))]; exact h
theorem z_mmin (C : zX V p l e R s m args below meth c D tys tw A cc Ts own nL ret Q) {index : Nat} (h1 : Cond.methodLink own index Lib.Math.min.name ∈ Ts) (h2 : Cond.static Lib.Math.min.name ∈ Ts) (h3 : Cond.initialized "java/lang/Math" ∈ Ts) (h4 : Cond.code Lib.Math.min.name Lib.Math.min.code 2 (some .int) ∈ Ts) (hR : 1 ≤ R.frames) (hR2 : (st.map fun v => v.category).sum + 13 ≤ R.locals) (hkR : k ≤ R.cells) (hnR : n ≤ R.slots) {x y : Int} (hx0 : -2147483648 ≤ x ∧ x < 2147483648) (hy0 : -2147483648 ≤ y ∧ y < 2147483648) (d : decode cc pc = .ok (.invokestatic index, 3)) (kk : V k n ws lv (vI (if y < x then y else x) :: st) (pc + 3)) : V k n ws lv (vI y :: vI x :: st) pc := by
  obtain ⟨⟨hx, hb, hml, hown, hts⟩, hK, hE, hA, hr, hlk, rfl⟩ := C
  intro H locs ls hP hD hS hl
  refine va_mmin hx hb (hml.trans hl.1.symm) hown (hts _ h1) (hts _ h2) (hts _ h3) (hts _ h4) hR hR2 hkR hnR d ?_
  have w := iI_lt hy0 hx0
  have h := kk H locs ls hP hD hS hl
  unfold vI at h
  by_cases hc : y < x
  · rw [if_pos hc] at h; rw [if_pos (w.mpr hc)]; exact h
  · rw [if_neg hc] at h; rw [if_neg (fun z => hc (w.mp z))]; exact h
theorem z_objInit (C : zX V p l e R s m args below meth c D tys tw A cc Ts own nL ret Q) {index a : Nat} (h1 : Cond.methodLink own index objectInit ∈ Ts) (h2 : Cond.instanceMethod objectInit ∈ Ts) (h3 : Cond.code objectInit ⟨#[0xb1]⟩ 1 none ∈ Ts) (hR : 1 ≤ R.frames) (hR2 : (st.map fun v => v.category).sum + 12 ≤ R.locals) (d : decode cc pc = .ok (.invokespecial index, 3)) (kk : V k n ws lv st (pc + 3)) : V k n ws lv (.ref a :: st) pc := by
  obtain ⟨⟨hx, hb, hml, hown, hts⟩, hK, hE, hA, hr, hlk, rfl⟩ := C
  intro H locs ls hP hD hS hl
  refine W.objInit hx hb hown (hts _ h1) (hts _ h2) (hts _ h3) rfl (by rw [hml]; exact hl.1) rfl d hR ?_ (kk H locs ls hP hD hS hl)
  show 2 * 0 + _ + 12 ≤ _
  omega
theorem z_land (C : zX V p l e R s m args below meth c D tys tw A cc Ts own nL ret Q) {x y : BitVec 64} (d : decode cc pc = .ok (.land, 1)) (kk : V k n ws lv (vJ (x &&& y) :: st) (pc + 1)) : V k n ws lv (vJ y :: vJ x :: st) pc := by
  obtain ⟨⟨hx, hb, hml, hown, hts⟩, hK, hE, hA, hr, hlk, rfl⟩ := C
  intro H locs ls hP hD hS hl
  exact lv_land hx hb d (kk H locs ls hP hD hS hl)
theorem z_lor (C : zX V p l e R s m args below meth c D tys tw A cc Ts own nL ret Q) {x y : BitVec 64} (d : decode cc pc = .ok (.lor, 1)) (kk : V k n ws lv (vJ (x ||| y) :: st) (pc + 1)) : V k n ws lv (vJ y :: vJ x :: st) pc := by
  obtain ⟨⟨hx, hb, hml, hown, hts⟩, hK, hE, hA, hr, hlk, rfl⟩ := C
  intro H locs ls hP hD hS hl
  exact lv_lor hx hb d (kk H locs ls hP hD hS hl)
theorem z_lxor (C : zX V p l e R s m args below meth c D tys tw A cc Ts own nL ret Q) {x y : BitVec 64} (d : decode cc pc = .ok (.lxor, 1)) (kk : V k n ws lv (vJ (x ^^^ y) :: st) (pc + 1)) : V k n ws lv (vJ y :: vJ x :: st) pc := by
  obtain ⟨⟨hx, hb, hml, hown, hts⟩, hK, hE, hA, hr, hlk, rfl⟩ := C
  intro H locs ls hP hD hS hl
  exact lv_lxor hx hb d (kk H locs ls hP hD hS hl)
theorem z_ladd (C : zX V p l e R s m args below meth c D tys tw A cc Ts own nL ret Q) {x y : BitVec 64} (d : decode cc pc = .ok (.ladd, 1)) (kk : V k n ws lv (vJ (x + y) :: st) (pc + 1)) : V k n ws lv (vJ y :: vJ x :: st) pc := by
  obtain ⟨⟨hx, hb, hml, hown, hts⟩, hK, hE, hA, hr, hlk, rfl⟩ := C
  intro H locs ls hP hD hS hl
  exact lv_ladd hx hb d (kk H locs ls hP hD hS hl)
theorem z_lsub2 (C : zX V p l e R s m args below meth c D tys tw A cc Ts own nL ret Q) {x y : BitVec 64} (d : decode cc pc = .ok (.lsub, 1)) (kk : V k n ws lv (vJ (x - y) :: st) (pc + 1)) : V k n ws lv (vJ y :: vJ x :: st) pc := by
  obtain ⟨⟨hx, hb, hml, hown, hts⟩, hK, hE, hA, hr, hlk, rfl⟩ := C
  intro H locs ls hP hD hS hl
  exact lv_lsub hx hb d (kk H locs ls hP hD hS hl)
theorem z_lneg (C : zX V p l e R s m args below meth c D tys tw A cc Ts own nL ret Q) {x : BitVec 64} (d : decode cc pc = .ok (.lneg, 1)) (kk : V k n ws lv (vJ (-x) :: st) (pc + 1)) : V k n ws lv (vJ x :: st) pc := by
  obtain ⟨⟨hx, hb, hml, hown, hts⟩, hK, hE, hA, hr, hlk, rfl⟩ := C
  intro H locs ls hP hD hS hl
  refine lv_lneg hx hb d ?_
  have h := kk H locs ls hP hD hS hl
  first | exact h | (rw [show Int64.ofBitVec x = Int64.ofBitVec x from rfl] at h; simpa [vJ] using h)
theorem z_lshl (C : zX V p l e R s m args below meth c D tys tw A cc Ts own nL ret Q) {x : BitVec 64} {y : Int} (j : Nat) (hy : -2147483648 ≤ y ∧ y < 2147483648) (hj : (y % 64).toNat = j) (d : decode cc pc = .ok (.lshl, 1)) (kk : V k n ws lv (vJ (x <<< j) :: st) (pc + 1)) : V k n ws lv (vI y :: vJ x :: st) pc := by
  obtain ⟨⟨hx, hb, hml, hown, hts⟩, hK, hE, hA, hr, hlk, rfl⟩ := C
  intro H locs ls hP hD hS hl
  subst hj
  exact lv_lshl hx hb d (jI_shl x hy) (kk H locs ls hP hD hS hl)
theorem z_lushr (C : zX V p l e R s m args below meth c D tys tw A cc Ts own nL ret Q) {x : BitVec 64} {y : Int} (j : Nat) (hy : -2147483648 ≤ y ∧ y < 2147483648) (hj : (y % 64).toNat = j) (d : decode cc pc = .ok (.lushr, 1)) (kk : V k n ws lv (vJ (x >>> j) :: st) (pc + 1)) : V k n ws lv (vI y :: vJ x :: st) pc := by
  obtain ⟨⟨hx, hb, hml, hown, hts⟩, hK, hE, hA, hr, hlk, rfl⟩ := C
  intro H locs ls hP hD hS hl
  subst hj
  exact lv_lushr hx hb d (jI_ushr x hy) (kk H locs ls hP hD hS hl)
theorem z_lshr (C : zX V p l e R s m args below meth c D tys tw A cc Ts own nL ret Q) {x : BitVec 64} {y : Int} (j : Nat) (hy : -2147483648 ≤ y ∧ y < 2147483648) (hj : (y % 64).toNat = j) (d : decode cc pc = .ok (.lshr, 1)) (kk : V k n ws lv (vJ (BitVec.sshiftRight x j) :: st) (pc + 1)) : V k n ws lv (vI y :: vJ x :: st) pc := by
  obtain ⟨⟨hx, hb, hml, hown, hts⟩, hK, hE, hA, hr, hlk, rfl⟩ := C
  intro H locs ls hP hD hS hl
  subst hj
  exact lv_lshr hx hb d (jI_shr x hy) (kk H locs ls hP hD hS hl)
theorem z_i2l (C : zX V p l e R s m args below meth c D tys tw A cc Ts own nL ret Q) {x : Int} (hx0 : -2147483648 ≤ x ∧ x < 2147483648) (d : decode cc pc = .ok (.i2l, 1)) (kk : V k n ws lv (vJ (BitVec.ofInt 64 x) :: st) (pc + 1)) : V k n ws lv (vI x :: st) pc := by
  obtain ⟨⟨hx, hb, hml, hown, hts⟩, hK, hE, hA, hr, hlk, rfl⟩ := C
  intro H locs ls hP hD hS hl
  exact lv_i2l hx hb d (jI_ext hx0) (kk H locs ls hP hD hS hl)
theorem z_l2i (C : zX V p l e R s m args below meth c D tys tw A cc Ts own nL ret Q) {x : BitVec 64} (d : decode cc pc = .ok (.l2i, 1)) (kk : V k n ws lv (vI x.toInt :: st) (pc + 1)) : V k n ws lv (vJ x :: st) pc := by
  obtain ⟨⟨hx, hb, hml, hown, hts⟩, hK, hE, hA, hr, hlk, rfl⟩ := C
  intro H locs ls hP hD hS hl
  exact lv_l2i hx hb d (jI_low x) (kk H locs ls hP hD hS hl)
theorem z_lcmp (C : zX V p l e R s m args below meth c D tys tw A cc Ts own nL ret Q) {x y : BitVec 64} (d : decode cc pc = .ok (.lcmp, 1)) (kk : V k n ws lv (vI (lcm x y) :: st) (pc + 1)) : V k n ws lv (vJ y :: vJ x :: st) pc := by
  obtain ⟨⟨hx, hb, hml, hown, hts⟩, hK, hE, hA, hr, hlk, rfl⟩ := C
  intro H locs ls hP hD hS hl
  refine W.lcmp hx hb d ?_
  rw [lcm_eq]
  exact kk H locs ls hP hD hS hl
theorem z_ior63 (C : zX V p l e R s m args below meth c D tys tw A cc Ts own nL ret Q) {x : Int} (hx0 : 0 ≤ x ∧ x < 2147483648) (d : decode cc pc = .ok (.ior, 1)) (kk : V k n ws lv (vI (x / 64 * 64 + 63) :: st) (pc + 1)) : V k n ws lv (vI 63 :: vI x :: st) pc := by
  obtain ⟨⟨hx, hb, hml, hown, hts⟩, hK, hE, hA, hr, hlk, rfl⟩ := C
  intro H locs ls hP hD hS hl
  refine lv_ior hx hb d ?_
  rw [iI_or63 hx0]
  exact kk H locs ls hP hD hS hl
theorem z_not (C : zX V p l e R s m args below meth c D tys tw A cc Ts own nL ret Q) {b : Bool} (d1 : decode cc pc = .ok (.ifCond .ne 7, 3)) (d2 : decode cc (pc + 3) = .ok (.iconst 1, 1)) (d3 : decode cc (pc + 3 + 1) = .ok (.goto 4, 3)) (d4 : decode cc (pc + 7) = .ok (.iconst 0, 1)) (kk : V k n ws lv (vI (b2i (!b)) :: st) (pc + 8)) : V k n ws lv (vI (b2i b) :: st) pc := by
  refine z_ifnz C (tgt := pc + 7) d1 (by omega) (fun h => ?_) (fun h => ?_)
  · subst h
    exact z_iconst C d4 kk
  · subst h
    refine z_iconst C d2 ?_
    exact z_goto C (tgt := pc + 8) d3 (by omega) kk
theorem z_eqb (C : zX V p l e R s m args below meth c D tys tw A cc Ts own nL ret Q) {b b' : Bool} (d1 : decode cc pc = .ok (.if_icmp .ne 7, 3)) (d2 : decode cc (pc + 3) = .ok (.iconst 1, 1)) (d3 : decode cc (pc + 3 + 1) = .ok (.goto 4, 3)) (d4 : decode cc (pc + 7) = .ok (.iconst 0, 1)) (kk : V k n ws lv (vI (b2i (b == b')) :: st) (pc + 8)) : V k n ws lv (vI (b2i b') :: vI (b2i b) :: st) pc := by
  have r1 := b2i_01 b
  have r2 := b2i_01 b'
  refine z_icmp_ne C (by omega) (by omega) (tgt := pc + 7) d1 (by omega) (fun h => ?_) (fun h => ?_)
  · rw [show (b == b') = false by cases b <;> cases b' <;> simp_all [b2i]] at kk
    exact z_iconst C d4 kk
  · rw [show (b == b') = true by cases b <;> cases b' <;> simp_all [b2i]] at kk
    refine z_iconst C d2 ?_
    exact z_goto C (tgt := pc + 8) d3 (by omega) kk
theorem z_selz (C : zX V p l e R s m args below meth c D tys tw A cc Ts own nL ret Q) {x : Int} {op : Jvm.ClassFile.Cond} (cnd : Int → Bool) (hx0 : -2147483648 ≤ x ∧ x < 2147483648) (hop : (op = .eq ∧ cnd = fun z => decide (¬ z = 0)) ∨ (op = .ne ∧ cnd = fun z => decide (z = 0)) ∨ (op = .lt ∧ cnd = fun z => decide (0 ≤ z)) ∨ (op = .ge ∧ cnd = fun z => decide (z < 0)) ∨ (op = .gt ∧ cnd = fun z => decide (z ≤ 0)) ∨ (op = .le ∧ cnd = fun z => decide (0 < z))) (d1 : decode cc pc = .ok (.ifCond op 7, 3)) (d2 : decode cc (pc + 3) = .ok (.iconst 1, 1)) (d3 : decode cc (pc + 3 + 1) = .ok (.goto 4, 3)) (d4 : decode cc (pc + 7) = .ok (.iconst 0, 1)) (kk : V k n ws lv (vI (b2i (cnd x)) :: st) (pc + 8)) : V k n ws lv (vI x :: st) pc := by
  have ht : cnd x = true → V k n ws lv st (pc + 3) := fun h => by
    rw [h] at kk
    refine z_iconst C d2 ?_
    exact z_goto C (tgt := pc + 8) d3 (by omega) kk
  have hf : cnd x = false → V k n ws lv st (pc + 7) := fun h => by
    rw [h] at kk
    exact z_iconst C d4 kk
  rcases hop with ⟨rfl, rfl⟩ | ⟨rfl, rfl⟩ | ⟨rfl, rfl⟩ | ⟨rfl, rfl⟩ | ⟨rfl, rfl⟩ | ⟨rfl, rfl⟩
  · exact z_if_eq C hx0 (tgt := pc + 7) d1 (by omega) (fun h => hf (decide_eq_false (by omega))) (fun h => ht (decide_eq_true (by omega)))
  · exact z_if_ne C hx0 (tgt := pc + 7) d1 (by omega) (fun h => hf (decide_eq_false (by omega))) (fun h => ht (decide_eq_true (by omega)))
  · exact z_if_lt C hx0 (tgt := pc + 7) d1 (by omega) (fun h => hf (decide_eq_false (by omega))) (fun h => ht (decide_eq_true (by omega)))
  · exact z_if_ge C hx0 (tgt := pc + 7) d1 (by omega) (fun h => hf (decide_eq_false (by omega))) (fun h => ht (decide_eq_true (by omega)))
  · exact z_if_gt C hx0 (tgt := pc + 7) d1 (by omega) (fun h => hf (decide_eq_false (by omega))) (fun h => ht (decide_eq_true (by omega)))
  · exact z_if_le C hx0 (tgt := pc + 7) d1 (by omega) (fun h => hf (decide_eq_false (by omega))) (fun h => ht (decide_eq_true (by omega)))
theorem z_sel2 (C : zX V p l e R s m args below meth c D tys tw A cc Ts own nL ret Q) {x y : Int} {op : Jvm.ClassFile.Cond} (cnd : Int → Int → Bool) (hx0 : -2147483648 ≤ x ∧ x < 2147483648) (hy0 : -2147483648 ≤ y ∧ y < 2147483648) (hop : (op = .eq ∧ cnd = fun z w => decide (¬ z = w)) ∨ (op = .ne ∧ cnd = fun z w => decide (z = w)) ∨ (op = .lt ∧ cnd = fun z w => decide (w ≤ z)) ∨ (op = .ge ∧ cnd = fun z w => decide (z < w)) ∨ (op = .gt ∧ cnd = fun z w => decide (z ≤ w)) ∨ (op = .le ∧ cnd = fun z w => decide (w < z))) (d1 : decode cc pc = .ok (.if_icmp op 7, 3)) (d2 : decode cc (pc + 3) = .ok (.iconst 1, 1)) (d3 : decode cc (pc + 3 + 1) = .ok (.goto 4, 3)) (d4 : decode cc (pc + 7) = .ok (.iconst 0, 1)) (kk : V k n ws lv (vI (b2i (cnd x y)) :: st) (pc + 8)) : V k n ws lv (vI y :: vI x :: st) pc := by
  have ht : cnd x y = true → V k n ws lv st (pc + 3) := fun h => by
    rw [h] at kk
    refine z_iconst C d2 ?_
    exact z_goto C (tgt := pc + 8) d3 (by omega) kk
  have hf : cnd x y = false → V k n ws lv st (pc + 7) := fun h => by
    rw [h] at kk
    exact z_iconst C d4 kk
  rcases hop with ⟨rfl, rfl⟩ | ⟨rfl, rfl⟩ | ⟨rfl, rfl⟩ | ⟨rfl, rfl⟩ | ⟨rfl, rfl⟩ | ⟨rfl, rfl⟩
  · exact z_icmp_eq C hx0 hy0 (tgt := pc + 7) d1 (by omega) (fun h => hf (decide_eq_false (by omega))) (fun h => ht (decide_eq_true (by omega)))
  · exact z_icmp_ne C hx0 hy0 (tgt := pc + 7) d1 (by omega) (fun h => hf (decide_eq_false (by omega))) (fun h => ht (decide_eq_true (by omega)))
  · exact z_icmp_lt C hx0 hy0 (tgt := pc + 7) d1 (by omega) (fun h => hf (decide_eq_false (by omega))) (fun h => ht (decide_eq_true (by omega)))
  · exact z_icmp_ge C hx0 hy0 (tgt := pc + 7) d1 (by omega) (fun h => hf (decide_eq_false (by omega))) (fun h => ht (decide_eq_true (by omega)))
  · exact z_icmp_gt C hx0 hy0 (tgt := pc + 7) d1 (by omega) (fun h => hf (decide_eq_false (by omega))) (fun h => ht (decide_eq_true (by omega)))
  · exact z_icmp_le C hx0 hy0 (tgt := pc + 7) d1 (by omega) (fun h => hf (decide_eq_false (by omega))) (fun h => ht (decide_eq_true (by omega)))
theorem z_statlen0 (C : zX V p l e R s m args below meth c D tys tw A cc Ts own nL ret Q) (d : decode cc pc = .ok (.arraylength, 1)) (kk : V k n ws lv (vI 9 :: st) (pc + 1)) : V k n ws lv (.ref (tw 0) :: st) pc := by
  obtain ⟨⟨hx, hb, hml, hown, hts⟩, hK, hE, hA, hr, hlk, rfl⟩ := C
  intro H locs ls hP hD hS hl
  obtain ⟨e1, e2, e3, e4, e5, e6, e7, e8, e9⟩ := hE
  exact va_tlen hx hb e6.2 hS (v := Int32.ofInt 9) rfl d (kk H locs ls hP hD hS hl)
theorem z_statld0 (C : zX V p l e R s m args below meth c D tys tw A cc Ts own nL ret Q) {x : Int} (h0 : 0 ≤ x) (h1 : x < 9) (d : decode cc pc = .ok (.iaload, 1)) (kk : V k n ws lv (vI (wayC x.toNat) :: st) (pc + 1)) : V k n ws lv (vI x :: .ref (tw 0) :: st) pc := by
  obtain ⟨⟨hx, hb, hml, hown, hts⟩, hK, hE, hA, hr, hlk, rfl⟩ := C
  intro H locs ls hP hD hS hl
  obtain ⟨e1, e2, e3, e4, e5, e6, e7, e8, e9⟩ := hE
  exact va_ti hx hb e6.2 hS (iI_in (n := 9) h0 h1 (by decide)) (v := vI (wayC x.toNat)) (by rw [iI_nat h0 (by omega)]) d (kk H locs ls hP hD hS hl)
theorem z_statlen1 (C : zX V p l e R s m args below meth c D tys tw A cc Ts own nL ret Q) (d : decode cc pc = .ok (.arraylength, 1)) (kk : V k n ws lv (vI 9 :: st) (pc + 1)) : V k n ws lv (.ref (tw 1) :: st) pc := by
  obtain ⟨⟨hx, hb, hml, hown, hts⟩, hK, hE, hA, hr, hlk, rfl⟩ := C
  intro H locs ls hP hD hS hl
  obtain ⟨e1, e2, e3, e4, e5, e6, e7, e8, e9⟩ := hE
  exact va_tlen hx hb e7.2 hS (v := Int32.ofInt 9) rfl d (kk H locs ls hP hD hS hl)
theorem z_statld1 (C : zX V p l e R s m args below meth c D tys tw A cc Ts own nL ret Q) {x : Int} (h0 : 0 ≤ x) (h1 : x < 9) (d : decode cc pc = .ok (.iaload, 1)) (kk : V k n ws lv (vI (wayB x.toNat) :: st) (pc + 1)) : V k n ws lv (vI x :: .ref (tw 1) :: st) pc := by
  obtain ⟨⟨hx, hb, hml, hown, hts⟩, hK, hE, hA, hr, hlk, rfl⟩ := C
  intro H locs ls hP hD hS hl
  obtain ⟨e1, e2, e3, e4, e5, e6, e7, e8, e9⟩ := hE
  exact va_ti hx hb e7.2 hS (iI_in (n := 9) h0 h1 (by decide)) (v := vI (wayB x.toNat)) (by rw [iI_nat h0 (by omega)]) d (kk H locs ls hP hD hS hl)
theorem z_statlen2 (C : zX V p l e R s m args below meth c D tys tw A cc Ts own nL ret Q) (d : decode cc pc = .ok (.arraylength, 1)) (kk : V k n ws lv (vI 74 :: st) (pc + 1)) : V k n ws lv (.ref (tw 2) :: st) pc := by
  obtain ⟨⟨hx, hb, hml, hown, hts⟩, hK, hE, hA, hr, hlk, rfl⟩ := C
  intro H locs ls hP hD hS hl
  obtain ⟨e1, e2, e3, e4, e5, e6, e7, e8, e9⟩ := hE
  exact va_tlen hx hb e8.2 hS (v := Int32.ofInt 74) rfl d (kk H locs ls hP hD hS hl)
theorem z_statld2 (C : zX V p l e R s m args below meth c D tys tw A cc Ts own nL ret Q) {x : Int} (h0 : 0 ≤ x) (h1 : x < 74) (d : decode cc pc = .ok (.baload, 1)) (kk : V k n ws lv (vI (lenW x.toNat) :: st) (pc + 1)) : V k n ws lv (vI x :: .ref (tw 2) :: st) pc := by
  obtain ⟨⟨hx, hb, hml, hown, hts⟩, hK, hE, hA, hr, hlk, rfl⟩ := C
  intro H locs ls hP hD hS hl
  obtain ⟨e1, e2, e3, e4, e5, e6, e7, e8, e9⟩ := hE
  exact va_tb hx hb e8.2 hS (iI_in (n := 74) h0 h1 (by decide)) (v := vI (lenW x.toNat)) (by rw [iI_nat h0 (by omega)]) d (kk H locs ls hP hD hS hl)
theorem z_statlen3 (C : zX V p l e R s m args below meth c D tys tw A cc Ts own nL ret Q) (d : decode cc pc = .ok (.arraylength, 1)) (kk : V k n ws lv (vI 74 :: st) (pc + 1)) : V k n ws lv (.ref (tw 3) :: st) pc := by
  obtain ⟨⟨hx, hb, hml, hown, hts⟩, hK, hE, hA, hr, hlk, rfl⟩ := C
  intro H locs ls hP hD hS hl
  obtain ⟨e1, e2, e3, e4, e5, e6, e7, e8, e9⟩ := hE
  exact va_tlen hx hb e9.2 hS (v := Int32.ofInt 74) rfl d (kk H locs ls hP hD hS hl)
theorem z_statld3 (C : zX V p l e R s m args below meth c D tys tw A cc Ts own nL ret Q) {x : Int} (h0 : 0 ≤ x) (h1 : x < 74) (d : decode cc pc = .ok (.baload, 1)) (kk : V k n ws lv (vI (lenD x.toNat) :: st) (pc + 1)) : V k n ws lv (vI x :: .ref (tw 3) :: st) pc := by
  obtain ⟨⟨hx, hb, hml, hown, hts⟩, hK, hE, hA, hr, hlk, rfl⟩ := C
  intro H locs ls hP hD hS hl
  obtain ⟨e1, e2, e3, e4, e5, e6, e7, e8, e9⟩ := hE
  exact va_tb hx hb e9.2 hS (iI_in (n := 74) h0 h1 (by decide)) (v := vI (lenD x.toNat)) (by rw [iI_nat h0 (by omega)]) d (kk H locs ls hP hD hS hl)
theorem z_nmJ {x : BitVec 64} (kk : ∀ y : BitVec 64, y = x → V k n ws lv (vJ y :: st) pc) : V k n ws lv (vJ x :: st) pc := kk x rfl
theorem z_nmI {x : Int} (kk : ∀ y : Int, y = x → V k n ws lv (vI y :: st) pc) : V k n ws lv (vI x :: st) pc := kk x rfl
theorem z_nmZ {x : Bool} (kk : ∀ y : Bool, y = x → V k n ws lv (vI (b2i y) :: st) pc) : V k n ws lv (vI (b2i x) :: st) pc := kk x rfl
end ZROWS
theorem z_iret {V : zV} {p : Program} {l : Launch} {e : Env} {R : Room} {s : State} {m : MethodId} {args : Array Value} {below : List Frame} {meth : Method} {c : Code} {D : va_G} {tys : List (ClassId × FieldType)} {tw : Nat → Nat} {A : Nat → Prop} {cc : ByteArray} {Ts : List Cond} {own : String} {nL : Nat} {k n mc ms : Nat} {ws : va_W} {lv : List (Nat × Value)} {pc : Nat} {S : Type} {rv : S → Option Value} {wf : S → va_W} {post : S → Prop} (C : zX V p l e R s m args below meth c D tys tw A cc Ts own nL (some .int) (MQ below (zQ D tys rv wf post A) args s mc ms A)) {x : Int} (d : decode cc pc = .ok (.ireturn, 1)) (u : S) (h1 : rv u = some (vI x)) (h2 : post u) (h3 : wf u = ws) (hk : k ≤ mc) (hn : n ≤ ms) : V k n ws lv [vI x] pc := by
  obtain ⟨⟨hx, hb, hml, hown, hts⟩, hK, hE, hA, hr, hlk, rfl⟩ := C
  intro H locs ls hP hD hS hl
  subst h3
  refine W.widen hk hn ?_
  exact W.iret hx hb hr (fun t ht hW => ⟨⟨u, by rw [h1] <;> rfl, h2, by rw [ht]; exact hP, va_K.moved hW.alike hK, hD⟩, hS.F ht⟩) hS.2.2 d hlk
theorem z_zret {V : zV} {p : Program} {l : Launch} {e : Env} {R : Room} {s : State} {m : MethodId} {args : Array Value} {below : List Frame} {meth : Method} {c : Code} {D : va_G} {tys : List (ClassId × FieldType)} {tw : Nat → Nat} {A : Nat → Prop} {cc : ByteArray} {Ts : List Cond} {own : String} {nL : Nat} {k n mc ms : Nat} {ws : va_W} {lv : List (Nat × Value)} {pc : Nat} {S : Type} {rv : S → Option Value} {wf : S → va_W} {post : S → Prop} (C : zX V p l e R s m args below meth c D tys tw A cc Ts own nL (some .boolean) (MQ below (zQ D tys rv wf post A) args s mc ms A)) {b : Bool} (d : decode cc pc = .ok (.ireturn, 1)) (u : S) (h1 : rv u = some (vI (b2i b))) (h2 : post u) (h3 : wf u = ws) (hk : k ≤ mc) (hn : n ≤ ms) : V k n ws lv [vI (b2i b)] pc := by
  obtain ⟨⟨hx, hb, hml, hown, hts⟩, hK, hE, hA, hr, hlk, rfl⟩ := C
  intro H locs ls hP hD hS hl
  subst h3
  refine W.widen hk hn ?_
  exact W.zret hx hb hr (by cases b <;> decide) (fun t ht hW => ⟨⟨u, by rw [h1] <;> rfl, h2, by rw [ht]; exact hP, va_K.moved hW.alike hK, hD⟩, hS.F ht⟩) hS.2.2 d hlk
theorem z_lret {V : zV} {p : Program} {l : Launch} {e : Env} {R : Room} {s : State} {m : MethodId} {args : Array Value} {below : List Frame} {meth : Method} {c : Code} {D : va_G} {tys : List (ClassId × FieldType)} {tw : Nat → Nat} {A : Nat → Prop} {cc : ByteArray} {Ts : List Cond} {own : String} {nL : Nat} {k n mc ms : Nat} {ws : va_W} {lv : List (Nat × Value)} {pc : Nat} {S : Type} {rv : S → Option Value} {wf : S → va_W} {post : S → Prop} (C : zX V p l e R s m args below meth c D tys tw A cc Ts own nL (some .long) (MQ below (zQ D tys rv wf post A) args s mc ms A)) {x : BitVec 64} (d : decode cc pc = .ok (.lreturn, 1)) (u : S) (h1 : rv u = some (vJ x)) (h2 : post u) (h3 : wf u = ws) (hk : k ≤ mc) (hn : n ≤ ms) : V k n ws lv [vJ x] pc := by
  obtain ⟨⟨hx, hb, hml, hown, hts⟩, hK, hE, hA, hr, hlk, rfl⟩ := C
  intro H locs ls hP hD hS hl
  subst h3
  refine W.widen hk hn ?_
  exact W.lret hx hb hr (fun t ht hW => ⟨⟨u, by rw [h1] <;> rfl, h2, by rw [ht]; exact hP, va_K.moved hW.alike hK, hD⟩, hS.F ht⟩) hS.2.2 d hlk
theorem z_vret {V : zV} {p : Program} {l : Launch} {e : Env} {R : Room} {s : State} {m : MethodId} {args : Array Value} {below : List Frame} {meth : Method} {c : Code} {D : va_G} {tys : List (ClassId × FieldType)} {tw : Nat → Nat} {A : Nat → Prop} {cc : ByteArray} {Ts : List Cond} {own : String} {nL : Nat} {k n mc ms : Nat} {ws : va_W} {lv : List (Nat × Value)} {pc : Nat} {S : Type} {rv : S → Option Value} {wf : S → va_W} {post : S → Prop} (C : zX V p l e R s m args below meth c D tys tw A cc Ts own nL (none) (MQ below (zQ D tys rv wf post A) args s mc ms A))  (d : decode cc pc = .ok (.return_, 1)) (u : S) (h1 : rv u = none) (h2 : post u) (h3 : wf u = ws) (hk : k ≤ mc) (hn : n ≤ ms) : V k n ws lv [] pc := by
  obtain ⟨⟨hx, hb, hml, hown, hts⟩, hK, hE, hA, hr, hlk, rfl⟩ := C
  intro H locs ls hP hD hS hl
  subst h3
  refine W.widen hk hn ?_
  exact W.vret hx hb hr (fun t ht hW => ⟨⟨u, by rw [h1] <;> rfl, h2, by rw [ht]; exact hP, va_K.moved hW.alike hK, hD⟩, hS.F ht⟩) hS.2.2 d hlk
theorem z_callV {V : zV} {p : Program} {l : Launch} {e : Env} {R : Room} {s : State} {m : MethodId} {args : Array Value} {below : List Frame} {meth : Method} {c : Code} {D : va_G} {tys : List (ClassId × FieldType)} {tw : Nat → Nat} {A : Nat → Prop} {cc : ByteArray} {Ts : List Cond} {own : String} {nL : Nat} {ret : Option FieldType} {Q : State → Prop} {k n : Nat} {lv : List (Nat × Value)} {st : List Value} {pc : Nat} (C : zX V p l e R s m args below meth c D tys tw A cc Ts own nL ret Q) {y : MethodName} {wsY : List Cond} {rm : Room} {W0 : va_W} {As : List Value} {mc ms : Nat} {S : Type} {rv : S → Option Value} {wf : S → va_W} {post : S → Prop} {bytes : ByteArray} {maxL nA index : Nat} {retY : Option FieldType} {a ci : Nat} {RC : String} {T : u_T} {N : Nat} {fs : List Value} (hM : zMet l y wsY rm D tys tw W0 (.ref a :: As) mc ms rv wf post) (hG : GoodIn Ts (wsV own index RC y wsY)) (kn : zKn y wsY bytes maxL retY nA) (hcls : y.cls = RC) (hR : rm.cells = mc ∧ rm.slots = ms ∧ rm.frames + 1 ≤ R.frames ∧ 8 + (maxL + 11) + rm.locals ≤ R.locals) (q0 : Nat) (he : W0[q0]? = some (a, .inr (ci, fs))) (hc : vwCl[ci]? = some (RC, T, N)) (hn : As.length = nA) (hst : (st.map fun v => v.category).sum ≤ 8) (hf : k + mc ≤ R.cells ∧ n + ms ≤ R.slots) (d : decode cc pc = .ok (.invokevirtual index, 3)) (kk : ∀ u : S, post u → V (k + mc) (n + ms) (wf u) lv ((rv u).toList ++ st) (pc + 3)) : V k n W0 lv (As.reverse ++ .ref a :: st) pc := by
  obtain ⟨⟨hx, hb, hml, hown, hts⟩, hK, hE, hA, -, -, rfl⟩ := C
  obtain ⟨⟨ws', hw⟩, k1, k2, k3⟩ := kn
  intro H locs ls hP hD hS hl
  have hf0 : ∀ q : Nat, va_A W0 H.size q → A q := by
    intro q h
    rcases h with ⟨j, w, h⟩ | h
    · exact hD.2 j _ h
    · exact hA q (Nat.le_trans hS.1 h)
  have hr := va_runV (As := As) (rest := st) (nL := nL) (cc := cc) (Ts := Ts) (own := own) (g := F0 m pc ls (As.reverse ++ .ref a :: st)) ⟨hx, hb, hml, hown, hts⟩ (hM H.size) (cwV nA hts hG hw hR.1 hR.2.1 ⟨hcls, k1, k2, k3⟩ hR.2.2) ⟨zB_blind D tys tw W0 H.size _, va_recv hK hP hc he, fun U hU hW => ⟨rfl, by rw [hU], by rw [hU]; exact hP, va_K.moved hW.alike hK, hD.weaken (fun _ _ _ _ => trivial), zE_move hW (fun q h1 h2 => by rw [hU]; exact hS.2.1 q h1 h2) hf0 hE⟩⟩ rfl hn hl.1 rfl (lv_room hst) d hf (p := p) (l := l) (e := e) (below := below) (meth := meth) (locs := locs)
  intro T hT X
  obtain ⟨v, st₀, t, T', L, h0, X', hL, e1, e2, ⟨⟨u, hv, hp, hP1, hK1, hD1⟩, hz, hk1⟩, stp⟩ := hr T hT X
  cases hv
  rw [h0] at hz hk1
  have hf := hf0
  obtain ⟨t2, a1, b1⟩ := kk u hp T'.heap (locs ++ L) ls (by rw [e1]; exact hP1) (hD1.weaken (fun _ q _ h => hf q.1 h)) ⟨Nat.le_trans hS.1 (by rw [e1]; exact hz), fun q h1 h2 => by rw [e1, hk1 q (Nat.lt_of_lt_of_le h1 hS.1) (fun z => h2 (hf q z))]; exact hS.2.1 q h1 h2, fun q hq => by
      rcases List.mem_append.mp hq with h | h
      · exact hS.2.2 q h
      · exact hf _ (hL q h)⟩ hl T' rfl X'
  exact ⟨t2, stp t2 a1, b1⟩
theorem z_callS {V : zV} {p : Program} {l : Launch} {e : Env} {R : Room} {s : State} {m : MethodId} {args : Array Value} {below : List Frame} {meth : Method} {c : Code} {D : va_G} {tys : List (ClassId × FieldType)} {tw : Nat → Nat} {A : Nat → Prop} {cc : ByteArray} {Ts : List Cond} {own : String} {nL : Nat} {ret : Option FieldType} {Q : State → Prop} {k n : Nat} {lv : List (Nat × Value)} {st : List Value} {pc : Nat} (C : zX V p l e R s m args below meth c D tys tw A cc Ts own nL ret Q) {y : MethodName} {wsY : List Cond} {rm : Room} {W0 : va_W} {As : List Value} {mc ms : Nat} {S : Type} {rv : S → Option Value} {wf : S → va_W} {post : S → Prop} {bytes : ByteArray} {maxL nA index : Nat} {retY : Option FieldType} (hM : zMet l y wsY rm D tys tw W0 As mc ms rv wf post) (hG : GoodIn Ts (va_wsS own index y wsY)) (kn : zKn y wsY bytes maxL retY nA) (hR : rm.cells = mc ∧ rm.slots = ms ∧ rm.frames + 1 ≤ R.frames ∧ 8 + (maxL + 11) + rm.locals ≤ R.locals) (hn : As.length = nA) (hst : (st.map fun v => v.category).sum ≤ 8) (hf : k + mc ≤ R.cells ∧ n + ms ≤ R.slots) (d : decode cc pc = .ok (.invokestatic index, 3)) (kk : ∀ u : S, post u → V (k + mc) (n + ms) (wf u) lv ((rv u).toList ++ st) (pc + 3)) : V k n W0 lv (As.reverse ++ st) pc := by
  obtain ⟨⟨hx, hb, hml, hown, hts⟩, hK, hE, hA, -, -, rfl⟩ := C
  obtain ⟨⟨ws', hw⟩, k1, k2, k3⟩ := kn
  intro H locs ls hP hD hS hl
  have hf0 : ∀ q : Nat, va_A W0 H.size q → A q := by
    intro q h
    rcases h with ⟨j, w, h⟩ | h
    · exact hD.2 j _ h
    · exact hA q (Nat.le_trans hS.1 h)
  have hr := va_runS (As := As) (rest := st) (nL := nL) (cc := cc) (Ts := Ts) (own := own) (g := F0 m pc ls (As.reverse ++ st)) ⟨hx, hb, hml, hown, hts⟩ (hM H.size) (va_cwS nA hts hG hw hR.1 hR.2.1 ⟨k1, k2, k3⟩ hR.2.2) ⟨zB_blind D tys tw W0 H.size _, fun U hU hW => ⟨rfl, by rw [hU], by rw [hU]; exact hP, va_K.moved hW.alike hK, hD.weaken (fun _ _ _ _ => trivial), zE_move hW (fun q h1 h2 => by rw [hU]; exact hS.2.1 q h1 h2) hf0 hE⟩⟩ rfl hn hl.1 rfl (lv_room hst) d hf (p := p) (l := l) (e := e) (below := below) (meth := meth) (locs := locs)
  intro T hT X
  obtain ⟨v, st₀, t, T', L, h0, X', hL, e1, e2, ⟨⟨u, hv, hp, hP1, hK1, hD1⟩, hz, hk1⟩, stp⟩ := hr T hT X
  cases hv
  rw [h0] at hz hk1
  have hf := hf0
  obtain ⟨t2, a1, b1⟩ := kk u hp T'.heap (locs ++ L) ls (by rw [e1]; exact hP1) (hD1.weaken (fun _ q _ h => hf q.1 h)) ⟨Nat.le_trans hS.1 (by rw [e1]; exact hz), fun q h1 h2 => by rw [e1, hk1 q (Nat.lt_of_lt_of_le h1 hS.1) (fun z => h2 (hf q z))]; exact hS.2.1 q h1 h2, fun q hq => by
      rcases List.mem_append.mp hq with h | h
      · exact hS.2.2 q h
      · exact hf _ (hL q h)⟩ hl T' rfl X'
  exact ⟨t2, stp t2 a1, b1⟩
