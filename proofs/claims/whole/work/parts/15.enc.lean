/-! pure: how rows are written -/
def bitsL (v : Int) : Nat → List Bool
  | 0 => []
  | n + 1 => decide (v / 2 ^ n % 2 = 1) :: bitsL v n
theorem bitsL_len (v : Int) : ∀ n, (bitsL v n).length = n
  | 0 => rfl
  | n + 1 => by rw [bitsL, List.length_cons, bitsL_len v n]
def byL (L : List Bool) (i : Nat) : Int := b2i (L.getD (8 * i) false) * 128 + b2i (L.getD (8 * i + 1) false) * 64 + b2i (L.getD (8 * i + 2) false) * 32 + b2i (L.getD (8 * i + 3) false) * 16 + b2i (L.getD (8 * i + 4) false) * 8 + b2i (L.getD (8 * i + 5) false) * 4 + b2i (L.getD (8 * i + 6) false) * 2 + b2i (L.getD (8 * i + 7) false)
theorem byL_rg (L : List Bool) (i : Nat) : 0 ≤ byL L i ∧ byL L i < 256 := by
  have h0 := b2i_01 (L.getD (8 * i) false)
  have h1 := b2i_01 (L.getD (8 * i + 1) false)
  have h2 := b2i_01 (L.getD (8 * i + 2) false)
  have h3 := b2i_01 (L.getD (8 * i + 3) false)
  have h4 := b2i_01 (L.getD (8 * i + 4) false)
  have h5 := b2i_01 (L.getD (8 * i + 5) false)
  have h6 := b2i_01 (L.getD (8 * i + 6) false)
  have h7 := b2i_01 (L.getD (8 * i + 7) false)
  unfold byL
  omega
theorem getD_snoc (L : List Bool) (b : Bool) (k : Nat) : (L ++ [b]).getD k false = if k = L.length then b else L.getD k false := by
  rcases Nat.lt_trichotomy k L.length with h | h | h
  · rw [if_neg (by omega), List.getD_eq_getElem?_getD, List.getElem?_append_left h, List.getD_eq_getElem?_getD]
  · subst h
    rw [if_pos rfl, List.getD_eq_getElem?_getD, List.getElem?_append_right (by omega)]
    simp
  · rw [if_neg (by omega), List.getD_eq_getElem?_getD, List.getD_eq_getElem?_getD, List.getElem?_eq_none (by simp; omega), List.getElem?_eq_none (by omega)]
theorem getD_out (L : List Bool) {k : Nat} (h : L.length ≤ k) : L.getD k false = false := by
  rw [List.getD_eq_getElem?_getD, List.getElem?_eq_none h]; rfl
theorem byL_lo (L : List Bool) (b : Bool) {i : Nat} (h : 8 * i + 7 < L.length) : byL (L ++ [b]) i = byL L i := by
  unfold byL
  simp only [getD_snoc]
  rw [if_neg (by omega), if_neg (by omega), if_neg (by omega), if_neg (by omega), if_neg (by omega), if_neg (by omega), if_neg (by omega), if_neg (by omega)]
theorem byL_at (L : List Bool) (b : Bool) {i r : Nat} (h : L.length = 8 * i + r) (hr : r < 8) : byL (L ++ [b]) i = byL L i + b2i b * 2 ^ (7 - r) ∧ (r = 0 → byL L i = 0) ∧ ∃ a : Int, byL L i = a * 2 ^ (8 - r) ∧ byL L i + 2 ^ (7 - r) < 256 := by
  have o : ∀ j, r ≤ j → L.getD (8 * i + j) false = false := fun j hj => getD_out L (by omega)
  have h0 := b2i_01 (L.getD (8 * i) false)
  have h1 := b2i_01 (L.getD (8 * i + 1) false)
  have h2 := b2i_01 (L.getD (8 * i + 2) false)
  have h3 := b2i_01 (L.getD (8 * i + 3) false)
  have h4 := b2i_01 (L.getD (8 * i + 4) false)
  have h5 := b2i_01 (L.getD (8 * i + 5) false)
  have h6 := b2i_01 (L.getD (8 * i + 6) false)
  have o0 : r ≤ 0 → b2i (L.getD (8 * i) false) = 0 := fun hj => by rw [show 8 * i = 8 * i + 0 by rfl, o 0 hj]; rfl
  have o1 : r ≤ 1 → b2i (L.getD (8 * i + 1) false) = 0 := fun hj => by rw [o 1 hj]; rfl
  have o2 : r ≤ 2 → b2i (L.getD (8 * i + 2) false) = 0 := fun hj => by rw [o 2 hj]; rfl
  have o3 : r ≤ 3 → b2i (L.getD (8 * i + 3) false) = 0 := fun hj => by rw [o 3 hj]; rfl
  have o4 : r ≤ 4 → b2i (L.getD (8 * i + 4) false) = 0 := fun hj => by rw [o 4 hj]; rfl
  have o5 : r ≤ 5 → b2i (L.getD (8 * i + 5) false) = 0 := fun hj => by rw [o 5 hj]; rfl
  have o6 : r ≤ 6 → b2i (L.getD (8 * i + 6) false) = 0 := fun hj => by rw [o 6 hj]; rfl
  have o7 : r ≤ 7 → b2i (L.getD (8 * i + 7) false) = 0 := fun hj => by rw [o 7 hj]; rfl
  have e : ∀ j, b2i (if 8 * i + j = L.length then b else L.getD (8 * i + j) false) = if j = r then b2i b else b2i (L.getD (8 * i + j) false) := fun j => by
    by_cases hj : j = r
    · rw [if_pos (by omega), if_pos hj]
    · rw [if_neg (by omega), if_neg hj]
  unfold byL
  simp only [getD_snoc]
  have e0 : b2i (if 8 * i = L.length then b else L.getD (8 * i) false) = if 0 = r then b2i b else b2i (L.getD (8 * i) false) := e 0
  rw [e0, e 1, e 2, e 3, e 4, e 5, e 6, e 7]
  generalize b2i (L.getD (8 * i) false) = x0 at *
  generalize b2i (L.getD (8 * i + 1) false) = x1 at *
  generalize b2i (L.getD (8 * i + 2) false) = x2 at *
  generalize b2i (L.getD (8 * i + 3) false) = x3 at *
  generalize b2i (L.getD (8 * i + 4) false) = x4 at *
  generalize b2i (L.getD (8 * i + 5) false) = x5 at *
  generalize b2i (L.getD (8 * i + 6) false) = x6 at *
  generalize b2i (L.getD (8 * i + 7) false) = x7 at *
  obtain ⟨q, hq⟩ : ∃ q : Nat, q = r := ⟨_, rfl⟩
  have hc : r = 0 ∨ r = 1 ∨ r = 2 ∨ r = 3 ∨ r = 4 ∨ r = 5 ∨ r = 6 ∨ r = 7 := by omega
  rcases hc with rfl | rfl | rfl | rfl | rfl | rfl | rfl | rfl
  · refine ⟨?_, fun _ => ?_, 0, ?_, ?_⟩ <;> first | omega | (simp; omega) | (simp; done)
  · refine ⟨?_, fun h => ?_, x0, ?_, ?_⟩ <;> first | omega | (simp; omega) | (simp; done)
  · refine ⟨?_, fun h => ?_, x0 * 2 + x1, ?_, ?_⟩ <;> first | omega | (simp; omega) | (simp; done)
  · refine ⟨?_, fun h => ?_, x0 * 4 + x1 * 2 + x2, ?_, ?_⟩ <;> first | omega | (simp; omega) | (simp; done)
  · refine ⟨?_, fun h => ?_, x0 * 8 + x1 * 4 + x2 * 2 + x3, ?_, ?_⟩ <;> first | omega | (simp; omega) | (simp; done)
  · refine ⟨?_, fun h => ?_, x0 * 16 + x1 * 8 + x2 * 4 + x3 * 2 + x4, ?_, ?_⟩ <;> first | omega | (simp; omega) | (simp; done)
  · refine ⟨?_, fun h => ?_, x0 * 32 + x1 * 16 + x2 * 8 + x3 * 4 + x4 * 2 + x5, ?_, ?_⟩ <;> first | omega | (simp; omega) | (simp; done)
  · refine ⟨?_, fun h => ?_, x0 * 64 + x1 * 32 + x2 * 16 + x3 * 8 + x4 * 4 + x5 * 2 + x6, ?_, ?_⟩ <;> first | omega | (simp; omega) | (simp; done)
/-- the bytes hold these bits -/
def OR (ou : Nat → Int) (L : List Bool) : Prop := ∀ i : Nat, 8 * i < L.length → ou i % 256 = byL L i
theorem OR_nil (ou : Nat → Int) : OR ou [] := fun i h => absurd h (Nat.not_lt_zero _)
theorem OR_step {ou : Nat → Int} {L : List Bool} (h : OR ou L) {x : Int} (hx : x = 0 ∨ x = 1) : OR (va_up ou ((L.length : Int) / 8).toNat (sb ((if (L.length : Int) % 8 = 0 then 0 else sb (ou ((L.length : Int) / 8).toNat)) + x * 2 ^ (7 - (L.length : Int) % 8).toNat))) (L ++ [decide (x = 1)]) := by
  intro i hi
  rw [List.length_append] at hi
  simp only [List.length_cons, List.length_nil] at hi
  by_cases hq : i = L.length / 8
  · obtain ⟨r, hr⟩ : ∃ r, r = L.length % 8 := ⟨_, rfl⟩
    have hl : L.length = 8 * i + r := by omega
    obtain ⟨b1, b2, a, b3, b4⟩ := byL_at L (decide (x = 1)) hl (by omega)
    rw [show ((L.length : Int) / 8).toNat = i by omega, va_up, if_pos rfl, sb_mod, b1, show (7 - (L.length : Int) % 8).toNat = 7 - r by omega]
    have hb : b2i (decide (x = 1)) = x := by rcases hx with rfl | rfl <;> rfl
    rw [hb]
    have hrg := byL_rg L i
    have hp : (1 : Int) ≤ 2 ^ (7 - r) := by
      rw [show (2 : Int) ^ (7 - r) = ((2 ^ (7 - r) : Nat) : Int) by rw [Int.natCast_pow]; rfl]
      have : 1 ≤ 2 ^ (7 - r) := Nat.one_le_two_pow
      omega
    by_cases h0 : r = 0
    · have hz := b2 h0
      rw [if_pos (by omega)]
      rcases hx with rfl | rfl <;> omega
    · rw [if_neg (by omega)]
      have ho := h i (by omega)
      have hs := sb_mod (ou i)
      rcases hx with rfl | rfl <;> omega
  · rw [va_up, if_neg (by omega), byL_lo _ _ (by omega)]
    exact h i (by omega)
theorem OR_send : ∀ (n : Nat) {ou : Nat → Int} {L : List Bool} (v : Int), OR ou L → OR (sendA ou (L.length : Int) v n) (L ++ bitsL v n)
  | 0, ou, L, v, h => by rw [sendA, bitsL, List.append_nil]; exact h
  | n + 1, ou, L, v, h => by
    have h1 := OR_step h (x := v / 2 ^ n % 2) (by omega)
    have h2 := OR_send n v h1
    rw [sendA, bitsL, show L ++ decide (v / 2 ^ n % 2 = 1) :: bitsL v n = (L ++ [decide (v / 2 ^ n % 2 = 1)]) ++ bitsL v n by simp]
    rw [List.length_append] at h2
    simp only [List.length_cons, List.length_nil, Int.natCast_add] at h2
    exact h2
theorem OR_clean {ou : Nat → Int} {L : List Bool} (h : OR ou L) : clean ou (L.length : Int) := by
  by_cases h0 : (L.length : Int) % 8 = 0
  · exact Or.inl h0
  · right
    obtain ⟨r, hr⟩ : ∃ r, r = L.length % 8 := ⟨_, rfl⟩
    obtain ⟨i, hi⟩ : ∃ i, i = L.length / 8 := ⟨_, rfl⟩
    obtain ⟨b1, b2, a, b3, b4⟩ := byL_at L true (i := i) (r := r) (by omega) (by omega)
    have ho := h i (by omega)
    rw [show ((L.length : Int) / 8).toNat = i by omega, show (8 - (L.length : Int) % 8).toNat = 8 - r by omega]
    obtain ⟨q, hq⟩ : ∃ q : Int, (256 : Int) = q * 2 ^ (8 - r) := ⟨2 ^ r, by
      rw [← Int.pow_add, show r + (8 - r) = 8 by omega]; rfl⟩
    refine ⟨a - (if byL L i < 128 then 0 else 1) * q, ?_⟩
    rw [Int.sub_mul, Int.mul_assoc, ← hq, ← b3]
    have hrg := byL_rg L i
    have hs := sb_mod (ou i)
    have hs2 := sb_rg (ou i)
    split <;> omega
theorem zMet_mono {l : Launch} {y : MethodName} {wsY : List Cond} {rm : Room} {D : va_G} {tys : List (ClassId × FieldType)} {tw : Nat → Nat} {W0 : va_W} {av : List Value} {mc ms : Nat} {S S' : Type} {rv : S → Option Value} {wf : S → va_W} {post : S → Prop} {rv' : S' → Option Value} {wf' : S' → va_W} {post' : S' → Prop} (h : zMet l y wsY rm D tys tw W0 av mc ms rv wf post) (g : S → S') (h1 : ∀ u, post u → rv' (g u) = rv u) (h2 : ∀ u, post u → wf' (g u) = wf u) (h3 : ∀ u, post u → post' (g u)) : zMet l y wsY rm D tys tw W0 av mc ms rv' wf' post' := by
  intro sz p e ha hc hk s m args below hf happ hP hK
  obtain ⟨n, o, q1, q2, q3, ⟨⟨u, z1, z2, z3, z4, z5⟩, z6⟩, q5⟩ := h sz p e ha hc hk s m args below hf happ hP hK
  exact ⟨n, o, q1, q2, q3, ⟨⟨g u, by rw [h1 u z2]; exact z1, h3 u z2, by rw [h2 u z2]; exact z3, z4, by rw [h2 u z2]; exact z5⟩, z6⟩, q5⟩
