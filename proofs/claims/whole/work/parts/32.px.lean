/-! pure: what painting does to a picture's places -/
theorem ones_shl (n j : Nat) (hj : j < 64) : (18446744073709551615#64 <<< n).getLsbD j = decide (n ≤ j) := fdC_t1 n j hj
theorem ones_shr (n j : Nat) : (18446744073709551615#64 >>> n).getLsbD j = decide (n + j < 64) := by
  rw [show (18446744073709551615#64 : BitVec 64) = BitVec.allOnes 64 by decide, BitVec.getLsbD_ushiftRight, BitVec.getLsbD_allOnes]
theorem pm_bit {x y k : Int} (hx : 0 ≤ x) (hxy : x < y) (h1 : x / 64 ≤ k) (h2 : k ≤ (y - 1) / 64) {b : Nat} (hb : b < 64) : (pmC x y k).getLsbD b = decide (x ≤ 64 * k + (b : Int) ∧ 64 * k + (b : Int) < y) := by
  rw [pmC, BitVec.getLsbD_and, ones_shl _ _ hb, ones_shr, Bool.eq_iff_iff]
  simp only [Bool.and_eq_true, decide_eq_true_eq]
  have e1 : ((if x < 64 * k then 64 * k else x) % 64).toNat ≤ b ↔ x ≤ 64 * k + (b : Int) := by split <;> omega
  have e2 : ((-(if 64 * k + 64 < y then 64 * k + 64 else y)) % 64).toNat + b < 64 ↔ 64 * k + (b : Int) < y := by split <;> omega
  rw [e1, e2]
theorem pw_bit (w : BitVec 64) {x y k : Int} (d : Bool) (hx : 0 ≤ x) (hxy : x < y) (h1 : x / 64 ≤ k) (h2 : k ≤ (y - 1) / 64) {b : Nat} (hb : b < 64) : (pwC w x y k d).getLsbD b = if x ≤ 64 * k + (b : Int) ∧ 64 * k + (b : Int) < y then d else w.getLsbD b := by
  have hm := pm_bit hx hxy h1 h2 hb
  have ho : (18446744073709551615#64).getLsbD b = true := by
    rw [show (18446744073709551615#64 : BitVec 64) = BitVec.allOnes 64 by decide, BitVec.getLsbD_allOnes, decide_eq_true hb]
  unfold pwC
  by_cases hc : x ≤ 64 * k + (b : Int) ∧ 64 * k + (b : Int) < y
  · rw [decide_eq_true hc] at hm
    rw [if_pos hc]
    cases d
    · rw [if_neg (by decide), BitVec.getLsbD_and, BitVec.getLsbD_xor, hm, ho]; simp
    · rw [if_pos rfl, BitVec.getLsbD_or, hm]; simp
  · rw [decide_eq_false hc] at hm
    rw [if_neg hc]
    cases d
    · rw [if_neg (by decide), BitVec.getLsbD_and, BitVec.getLsbD_xor, hm, ho]; simp
    · rw [if_pos rfl, BitVec.getLsbD_or, BitVec.getLsbD_and, BitVec.getLsbD_xor, hm, ho]; simp
theorem row_apart {w r r' k k' : Int} (h : ¬ r' = r) (hk : 0 ≤ k ∧ k < w) (hk' : 0 ≤ k' ∧ k' < w) : ¬ r' * w + k' = r * w + k := by
  intro e
  rcases Int.lt_or_lt_of_ne h with q | q
  · have : (r' + 1) * w ≤ r * w := Int.mul_le_mul_of_nonneg_right (by omega) (by omega)
    rw [Int.add_mul] at this
    omega
  · have : (r + 1) * w ≤ r' * w := Int.mul_le_mul_of_nonneg_right (by omega) (by omega)
    rw [Int.add_mul] at this
    omega
theorem px_pn (wo : Nat → BitVec 64) {co r x y : Int} (d : Bool) (hr : 0 ≤ r ∧ r < 24) (hx : 0 ≤ x) (hy : y ≤ co) (r' j : Int) : px (pnC wo co r x y d) co r' j = if r' = r ∧ x ≤ j ∧ j < y then d else px wo co r' j := by
  by_cases hv : 0 ≤ x ∧ x < y ∧ y ≤ co
  · by_cases hj : 0 ≤ j ∧ j < co
    · rw [px_at hj, px_at hj]
      have hix := ixC_or co r' (j / 64)
      rw [wdC, wdC]
      by_cases h0 : ixC co r' (j / 64) < 0
      · rw [if_pos h0, if_pos h0, if_neg ?_]
        intro hc
        have := ixC_in (co := co) (r := r) (k := j / 64) hr (by omega)
        rw [← hc.1] at this
        omega
      · rw [if_neg h0, if_neg h0]
        have hix2 := hix.resolve_left (by omega)
        rw [pnC, if_pos hv, ptC]
        by_cases hrr : r' = r
        · subst hrr
          by_cases hk : x / 64 ≤ j / 64 ∧ j / 64 ≤ (y - 1) / 64
          · rw [if_pos (by omega), show (((ixC co r' (j / 64)).toNat : Nat) : Int) - r' * ((co + 63) / 64) = j / 64 by omega]
            rw [pw_bit _ d hv.1 hv.2.1 hk.1 hk.2 (by omega), show 64 * (j / 64) + (((j % 64).toNat : Nat) : Int) = j by omega]
            by_cases hc : x ≤ j ∧ j < y
            · rw [if_pos hc, if_pos ⟨rfl, hc⟩]
            · rw [if_neg hc, if_neg (fun z => hc z.2)]
          · rw [if_neg (by omega), if_neg (by omega)]
        · rw [if_neg ?_, if_neg (fun z => hrr z.1)]
          intro hc
          have := row_apart (w := (co + 63) / 64) hrr (k := (((ixC co r' (j / 64)).toNat : Nat) : Int) - r * ((co + 63) / 64)) (k' := j / 64) (by omega) (by omega)
          omega
    · rw [px, px, decide_eq_false hj, if_neg (by omega)]; rfl
  · rw [pnC, if_neg hv, if_neg (by omega)]
theorem px_cp (wo : Nat → BitVec 64) {co r : Int} (hr : 0 ≤ r ∧ r < 24) (r' j : Int) : px (cpC wo co r ((co + 63) / 64)) co r' j = if r' = r then px wo co (r - 1) j else px wo co r' j := by
  by_cases hj : 0 ≤ j ∧ j < co
  · rw [px_at hj, px_at hj, px_at hj]
    by_cases hrr : r' = r
    · subst hrr
      rw [if_pos rfl, wdC]
      have := ixC_in (co := co) (r := r') (k := j / 64) hr (by omega)
      rw [if_neg (by omega), cpC, if_pos (by omega), show (((ixC co r' (j / 64)).toNat : Nat) : Int) - r' * ((co + 63) / 64) = j / 64 by omega]
    · rw [if_neg hrr, wdC, wdC]
      have hix := ixC_or co r' (j / 64)
      by_cases h0 : ixC co r' (j / 64) < 0
      · rw [if_pos h0, if_pos h0]
      · rw [if_neg h0, if_neg h0, cpC, if_neg ?_]
        intro hc
        have := row_apart (w := (co + 63) / 64) hrr (k := (((ixC co r' (j / 64)).toNat : Nat) : Int) - r * ((co + 63) / 64)) (k' := j / 64) (by omega) (by omega)
        omega
  · rw [px, px, px, decide_eq_false hj]
    split <;> rfl
theorem px_neg (wo : Nat → BitVec 64) (co j : Int) : px wo co (-1) j = false := by
  have e : ixC co (-1) (j / 64) = -2 := by rw [ixC, if_neg (by omega)]
  rw [px, wdC, e, if_pos (by decide)]; simp
def ptg (g : Int → Bool) (x y : Int) (d : Bool) : Int → Bool := fun j => if x ≤ j ∧ j < y then d else g j
def RowRel (wo wo' : Nat → BitVec 64) (co r : Int) (g : Int → Bool) : Prop := (∀ x, 0 ≤ x → x < co → px wo' co r x = g x) ∧ ∀ r' x, ¬ r' = r → px wo' co r' x = px wo co r' x
theorem RR_pn {wo w : Nat → BitVec 64} {co r x y : Int} {g : Int → Bool} (d : Bool) (hr : 0 ≤ r ∧ r < 24) (hx : 0 ≤ x) (hy : y ≤ co) (h : RowRel wo w co r g) : RowRel wo (pnC w co r x y d) co r (ptg g x y d) := by
  refine ⟨fun j h0 h1 => ?_, fun r' j hn => ?_⟩
  · rw [px_pn w d hr hx hy, ptg, h.1 j h0 h1]
    by_cases hc : x ≤ j ∧ j < y
    · rw [if_pos ⟨rfl, hc⟩, if_pos hc]
    · rw [if_neg (fun z => hc z.2), if_neg hc]
  · rw [px_pn w d hr hx hy, if_neg (fun z => hn z.1)]
    exact h.2 r' j hn
/-! how rows are read -/
def mn (a b : Int) : Int := if b < a then b else a
theorem mn_rg {a b x : Int} (h0 : x ≤ a) (h1 : x ≤ b) : x ≤ mn a b ∧ mn a b ≤ b ∧ mn a b ≤ a := by unfold mn; split <;> omega
def pws (I : Int → Bool) (T : Int) (mk : Bool) (r p : Int) : Int := if r = -1 then -1 else if r = -2 ∧ mk = true then (if isMk I T p then 2 else if zer I T p = T - p then -1 else 3) else 3
def rdPl (I : Int → Bool) (T N : Int) (mk : Bool) : Nat → Int → Int → Bool → Bool → (Int → Bool) → Int × Int × (Int → Bool)
  | 0, p, _, _, ct, g => (b2i ct, p, g)
  | n + 1, p, x, d, ct, g => if x < N then
      (if (rdRun I T d 3201 p 0 false).1 < 0 then (pws I T mk (rdRun I T d 3201 p 0 false).1 (rdRun I T d 3201 p 0 false).2, (rdRun I T d 3201 p 0 false).2, g)
       else rdPl I T N mk n (rdRun I T d 3201 p 0 false).2 (mn (x + (rdRun I T d 3201 p 0 false).1) N) (!d) (decide (N < x + (rdRun I T d 3201 p 0 false).1) || ct) (ptg g x (mn (x + (rdRun I T d 3201 p 0 false).1) N) d))
    else (b2i ct, p, g)
theorem rdPl_ge {I : Int → Bool} {T N : Int} {mk : Bool} {p x : Int} {d ct : Bool} {g : Int → Bool} (n : Nat) (h : N ≤ x) : rdPl I T N mk n p x d ct g = (b2i ct, p, g) := by
  cases n with
  | zero => rfl
  | succ n => rw [rdPl, if_neg (by omega)]
def fz (r : Int) : Int := if r = -1 then -1 else 3
def rdDr (I : Int → Bool) (T N : Int) (ab : Int → Bool) : Nat → Int → Int → Bool → Bool → Bool → (Int → Bool) → Int × Int × (Int → Bool)
  | 0, p, _, _, _, ct, g => (b2i ct, p, g)
  | n + 1, p, x, d, fi, ct, g => if x < N then
      (if (rdWay I T p 9).1 = 8 then
        (if (rdRun I T d 3201 (rdWay I T p 9).2 0 false).1 < 0 then (fz (rdRun I T d 3201 (rdWay I T p 9).2 0 false).1, (rdRun I T d 3201 (rdWay I T p 9).2 0 false).2, g)
         else if (rdRun I T (!d) 3201 (rdRun I T d 3201 (rdWay I T p 9).2 0 false).2 0 false).1 < 0 then (fz (rdRun I T (!d) 3201 (rdRun I T d 3201 (rdWay I T p 9).2 0 false).2 0 false).1, (rdRun I T (!d) 3201 (rdRun I T d 3201 (rdWay I T p 9).2 0 false).2 0 false).2, ptg g x (mn (x + (rdRun I T d 3201 (rdWay I T p 9).2 0 false).1) N) d)
         else rdDr I T N ab n (rdRun I T (!d) 3201 (rdRun I T d 3201 (rdWay I T p 9).2 0 false).2 0 false).2 (mn (mn (x + (rdRun I T d 3201 (rdWay I T p 9).2 0 false).1) N + (rdRun I T (!d) 3201 (rdRun I T d 3201 (rdWay I T p 9).2 0 false).2 0 false).1) N) d false
           (decide (N < mn (x + (rdRun I T d 3201 (rdWay I T p 9).2 0 false).1) N + (rdRun I T (!d) 3201 (rdRun I T d 3201 (rdWay I T p 9).2 0 false).2 0 false).1) || (decide (N < x + (rdRun I T d 3201 (rdWay I T p 9).2 0 false).1) || ct))
           (ptg (ptg g x (mn (x + (rdRun I T d 3201 (rdWay I T p 9).2 0 false).1) N) d) (mn (x + (rdRun I T d 3201 (rdWay I T p 9).2 0 false).1) N) (mn (mn (x + (rdRun I T d 3201 (rdWay I T p 9).2 0 false).1) N + (rdRun I T (!d) 3201 (rdRun I T d 3201 (rdWay I T p 9).2 0 false).2 0 false).1) N) (!d)))
       else if (rdWay I T p 9).1 < 0 then (fz (rdWay I T p 9).1, (rdWay I T p 9).2, g)
       else if (rdWay I T p 9).1 = 7 then rdDr I T N ab n (rdWay I T p 9).2 (mn (nxt ab N (chC ab N (if fi then x else x + 1) (!d)) d) N) d false (decide (N < nxt ab N (chC ab N (if fi then x else x + 1) (!d)) d) || ct) (ptg g x (mn (nxt ab N (chC ab N (if fi then x else x + 1) (!d)) d) N) d)
       else if chC ab N (if fi then x else x + 1) (!d) + (rdWay I T p 9).1 - 3 < x ∨ (chC ab N (if fi then x else x + 1) (!d) + (rdWay I T p 9).1 - 3 = x ∧ fi = false) then (3, (rdWay I T p 9).2, g)
       else rdDr I T N ab n (rdWay I T p 9).2 (mn (chC ab N (if fi then x else x + 1) (!d) + (rdWay I T p 9).1 - 3) N) (!d) false (decide (N < chC ab N (if fi then x else x + 1) (!d) + (rdWay I T p 9).1 - 3) || ct) (ptg g x (mn (chC ab N (if fi then x else x + 1) (!d) + (rdWay I T p 9).1 - 3) N) d))
    else (b2i ct, p, g)
theorem rdDr_ge {I : Int → Bool} {T N : Int} {ab : Int → Bool} {p x : Int} {d fi ct : Bool} {g : Int → Bool} (n : Nat) (h : N ≤ x) : rdDr I T N ab n p x d fi ct g = (b2i ct, p, g) := by
  cases n with
  | zero => rfl
  | succ n => rw [rdDr, if_neg (by omega)]
