/-! pure: how rows are written -/
def bitsL (v : Int) : Nat → List Bool
  | 0 => []
  | n + 1 => decide (v / 2 ^ n % 2 = 1) :: bitsL v n
theorem bitsL_len (v : Int) : ∀ n, (bitsL v n).length = n
  | 0 => rfl
  | n + 1 => by rw [bitsL, List.length_cons, bitsL_len v n]
theorem getD_snoc (L : List Bool) (b : Bool) (k : Nat) : (L ++ [b]).getD k false = if k = L.length then b else L.getD k false := by
  rcases Nat.lt_trichotomy k L.length with h | h | h
  · rw [if_neg (by omega), List.getD_eq_getElem?_getD, List.getElem?_append_left h, List.getD_eq_getElem?_getD]
  · subst h
    rw [if_pos rfl, List.getD_eq_getElem?_getD, List.getElem?_append_right (by omega)]
    simp
  · rw [if_neg (by omega), List.getD_eq_getElem?_getD, List.getD_eq_getElem?_getD, List.getElem?_eq_none (by simp; omega), List.getElem?_eq_none (by omega)]
theorem getD_out (L : List Bool) {k : Nat} (h : L.length ≤ k) : L.getD k false = false := by
  rw [List.getD_eq_getElem?_getD, List.getElem?_eq_none h]; rfl
theorem bitsL_getD (m : Nat) : ∀ n j, j < n → (bitsL (m : Int) n).getD j false = m.testBit (n - 1 - j)
  | 0, j, h => absurd h (Nat.not_lt_zero _)
  | n + 1, 0, _ => by
    rw [bitsL, List.getD_cons_zero, Nat.testBit_eq_decide_div_mod_eq, show n + 1 - 1 - 0 = n by omega]
    have e : (m : Int) / 2 ^ n % 2 = ((m / 2 ^ n % 2 : Nat) : Int) := by rw [Int.natCast_emod, Int.natCast_ediv, Int.natCast_pow]; rfl
    rw [e]
    apply decide_eq_decide.mpr
    omega
  | n + 1, j + 1, h => by
    rw [bitsL, List.getD_cons_succ, bitsL_getD m n j (by omega), show n + 1 - 1 - (j + 1) = n - 1 - j by omega]
theorem getD_app (L M : List Bool) (k : Nat) : (L ++ M).getD k false = if k < L.length then L.getD k false else M.getD (k - L.length) false := by
  rw [List.getD_eq_getElem?_getD]
  by_cases h : k < L.length
  · rw [if_pos h, List.getElem?_append_left h, List.getD_eq_getElem?_getD]
  · rw [if_neg h, List.getElem?_append_right (by omega), List.getD_eq_getElem?_getD]
theorem ofN_msb (m : Nat) {j : Nat} (hj : j < 64) : (BitVec.ofInt 64 (m : Int)).getMsbD j = m.testBit (63 - j) := by
  rw [BitVec.ofInt_natCast, BitVec.getMsbD, decide_eq_true hj, Bool.true_and, BitVec.getLsbD_ofNat, decide_eq_true (by omega), Bool.true_and, show 64 - 1 - j = 63 - j by omega]
theorem tb_out {m n i : Nat} (h : m < 2 ^ n) (hi : n ≤ i) : m.testBit i = false := Nat.testBit_lt_two_pow (Nat.lt_of_lt_of_le h (Nat.pow_le_pow_right (by decide) hi))
/-- the words hold these bits, and bits 0 behind them -/
def OR (ou : Nat → BitVec 64) (L : List Bool) : Prop := ∀ w : Nat, 64 * w < L.length → ∀ j, j < 64 → (ou w).getMsbD j = L.getD (64 * w + j) false
theorem OR_nil (ou : Nat → BitVec 64) : OR ou [] := fun i h => absurd h (Nat.not_lt_zero _)
theorem OR_send {ou : Nat → BitVec 64} {L : List Bool} {v n : Int} (h0 : 0 ≤ v) (hn : 0 ≤ n ∧ n ≤ 32) (h1 : v < 2 ^ n.toNat) (h : OR ou L) : OR (sendA ou (L.length : Int) v n) (L ++ bitsL v n.toNat) := by
  obtain ⟨m, rfl⟩ := Int.eq_ofNat_of_zero_le h0
  obtain ⟨n, rfl⟩ := Int.eq_ofNat_of_zero_le hn.1
  rw [Int.toNat_natCast] at *
  have hm : m < 2 ^ n := by
    rw [show (2 : Int) ^ n = ((2 ^ n : Nat) : Int) by rw [Int.natCast_pow]; rfl] at h1
    omega
  intro w hw j hj
  rw [List.length_append, bitsL_len] at hw
  rw [getD_app]
  obtain ⟨r, hr⟩ : ∃ r, r = L.length % 64 := ⟨_, rfl⟩
  have hbef : ∀ j, j < 64 → (if (L.length : Int) % 64 = 0 then 0#64 else ou ((L.length : Int) / 64).toNat).getMsbD j = if j < r then L.getD (64 * (L.length / 64) + j) false else false := by
    intro j hj
    by_cases hz : (L.length : Int) % 64 = 0
    · rw [if_pos hz, if_neg (by omega), BitVec.getMsbD_zero]
    · rw [if_neg hz, show ((L.length : Int) / 64).toNat = L.length / 64 by omega, h _ (by omega) j hj]
      by_cases hj2 : j < r
      · rw [if_pos hj2]
      · rw [if_neg hj2, getD_out L (by omega)]
  unfold sendA
  by_cases hc : (n : Int) ≤ 64 - (L.length : Int) % 64
  · rw [if_pos hc]
    by_cases hq : w = L.length / 64
    · rw [va_up, if_pos (by omega), BitVec.getMsbD_or, hbef j hj, BitVec.getMsbD_shiftLeft, show ((64 - (L.length : Int) % 64 - n) % 64).toNat = 64 - r - n by omega, hq]
      by_cases hj2 : j < r
      · rw [if_pos hj2, if_pos (by omega)]
        have e : (BitVec.ofInt 64 (m : Int)).getMsbD (j + (64 - r - n)) = false := by
          by_cases hj3 : j + (64 - r - n) < 64
          · rw [ofN_msb m hj3, tb_out hm (by omega)]
          · rw [BitVec.getMsbD_of_ge _ _ (by omega)]
        rw [e, Bool.or_false]
      · rw [if_neg hj2, if_neg (by omega), Bool.false_or]
        by_cases hj3 : j < r + n
        · rw [ofN_msb m (by omega), bitsL_getD m n _ (by omega)]
          congr 1; omega
        · rw [BitVec.getMsbD_of_ge _ _ (by omega), getD_out _ (by rw [bitsL_len]; omega)]
    · rw [va_up, if_neg (by omega), h w (by omega) j hj, if_pos (by omega)]
  · rw [if_neg hc]
    by_cases hq2 : w = L.length / 64 + 1
    · rw [va_up, if_pos (by omega), BitVec.getMsbD_shiftLeft, show ((64 - ((n : Int) - (64 - (L.length : Int) % 64))) % 64).toNat = 64 - (n - (64 - r)) by omega, if_neg (by omega)]
      by_cases hj3 : j < n - (64 - r)
      · rw [ofN_msb m (by omega), bitsL_getD m n _ (by omega)]
        congr 1; omega
      · rw [BitVec.getMsbD_of_ge _ _ (by omega), getD_out _ (by rw [bitsL_len]; omega)]
    · by_cases hq : w = L.length / 64
      · rw [va_up, if_neg (by omega), va_up, if_pos (by omega), BitVec.getMsbD_or, hbef j hj, show (m : Int) / 2 ^ ((n : Int) - (64 - (L.length : Int) % 64)).toNat = ((m / 2 ^ (n - (64 - r)) : Nat) : Int) by rw [Int.natCast_ediv, Int.natCast_pow, show ((n : Int) - (64 - (L.length : Int) % 64)).toNat = n - (64 - r) by omega]; rfl, ofN_msb _ hj, Nat.testBit_div_two_pow, hq]
        by_cases hj2 : j < r
        · rw [if_pos hj2, if_pos (by omega), tb_out hm (by omega), Bool.or_false]
        · rw [if_neg hj2, if_neg (by omega), Bool.false_or, bitsL_getD m n _ (by omega)]
          congr 1; omega
      · rw [va_up, if_neg (by omega), va_up, if_neg (by omega), h w (by omega) j hj, if_pos (by omega)]

theorem zMet_mono {l : Launch} {y : MethodName} {wsY : List Cond} {rm : Room} {D : va_G} {tys : List (ClassId × FieldType)} {tw : Nat → Nat} {W0 : va_W} {av : List Value} {mc ms : Nat} {S S' : Type} {rv : S → Option Value} {wf : S → va_W} {post : S → Prop} {rv' : S' → Option Value} {wf' : S' → va_W} {post' : S' → Prop} (h : zMet l y wsY rm D tys tw W0 av mc ms rv wf post) (g : S → S') (h1 : ∀ u, post u → rv' (g u) = rv u) (h2 : ∀ u, post u → wf' (g u) = wf u) (h3 : ∀ u, post u → post' (g u)) : zMet l y wsY rm D tys tw W0 av mc ms rv' wf' post' := by
  intro sz p e ha hc hk s m args below hf happ hP hK
  obtain ⟨n, o, q1, q2, q3, ⟨⟨u, z1, z2, z3, z4, z5⟩, z6⟩, q5⟩ := h sz p e ha hc hk s m args below hf happ hP hK
  exact ⟨n, o, q1, q2, q3, ⟨⟨g u, by rw [h1 u z2]; exact z1, h3 u z2, by rw [h2 u z2]; exact z3, z4, by rw [h2 u z2]; exact z5⟩, z6⟩, q5⟩
