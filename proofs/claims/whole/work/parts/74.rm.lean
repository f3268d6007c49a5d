/-! the reference's row while it is read; what looks at a row looks at its places alone -/
def RM (da da' : Nat → Bool) (co r : Int) (g : Int → Bool) : Prop := (∀ x, 0 ≤ x → x < co → pd da' r x = g x) ∧ ∀ r' x, ¬ r' = r → x < 700 → pd da' r' x = pd da r' x
theorem pd_ix {r r' x y j : Int} (hx : 0 ≤ x) (hy : y ≤ 700) (hj0 : 0 ≤ j) (hj : j < 700) : (700 * r + x ≤ 700 * r' + j ∧ 700 * r' + j < 700 * r + y) ↔ (r' = r ∧ x ≤ j ∧ j < y) := by
  obtain ⟨u, hu⟩ : ∃ u : Int, u = 700 * r := ⟨_, rfl⟩
  obtain ⟨w, hw⟩ : ∃ w : Int, w = 700 * r' := ⟨_, rfl⟩
  rw [← hu, ← hw]
  rcases Int.lt_trichotomy r' r with z | z | z
  · have : w + 700 ≤ u := by omega
    constructor
    · intro q; clear hu hw; omega
    · intro q; exact absurd q.1 (by omega)
  · have e : w = u := by rw [hu, hw, z]
    clear hu hw
    constructor
    · intro q; exact ⟨z, by omega, by omega⟩
    · intro q; omega
  · have : u + 700 ≤ w := by omega
    constructor
    · intro q; clear hu hw; omega
    · intro q; exact absurd q.1 (by omega)
theorem pd_pn (w : Nat → Bool) (d : Bool) {r r' x y j : Int} (hr : 0 ≤ r) (hx : 0 ≤ x) (hy : y ≤ 700) (hj : j < 700) : pd (pnM w r x y d) r' j = if r' = r ∧ x ≤ j ∧ j < y then d else pd w r' j := by
  by_cases h0 : 0 ≤ r' ∧ 0 ≤ j
  · have e : ((700 * r' + j : Int).toNat : Int) = 700 * r' + j := by omega
    have hi := pd_ix (r := r) (r' := r') hx hy h0.2 hj
    rw [pd_in h0, pd_in h0]
    show (if 700 * r + x ≤ ((700 * r' + j : Int).toNat : Int) ∧ ((700 * r' + j : Int).toNat : Int) < 700 * r + y then d else w (700 * r' + j : Int).toNat) = _
    rw [e]
    by_cases h1 : r' = r ∧ x ≤ j ∧ j < y
    · rw [if_pos h1, if_pos (hi.mpr h1)]
    · rw [if_neg h1, if_neg (fun z => h1 (hi.mp z))]
  · rw [pd_out h0, pd_out h0, if_neg (fun z => h0 ⟨by rw [z.1]; exact hr, Int.le_trans hx z.2.1⟩)]
theorem RM_pn {da w : Nat → Bool} {co r x y : Int} {g : Int → Bool} (d : Bool) (hr : 0 ≤ r) (hx : 0 ≤ x) (hy : y ≤ co) (hco : co ≤ 700) (h : RM da w co r g) : RM da (pnM w r x y d) co r (ptg g x y d) := by
  refine ⟨fun j h0 h1 => ?_, fun r' j hn hj => ?_⟩
  · rw [pd_pn w d hr hx (Int.le_trans hy hco) (Int.lt_of_lt_of_le h1 hco), ptg, h.1 j h0 h1]
    by_cases hc : x ≤ j ∧ j < y
    · rw [if_pos ⟨rfl, hc⟩, if_pos hc]
    · rw [if_neg (fun z => hc z.2), if_neg hc]
  · rw [pd_pn w d hr hx (Int.le_trans hy hco) hj, if_neg (fun z => hn z.1)]
    exact h.2 r' j hn hj
theorem trV_inv {r : Int} (h : r = -1 ∨ r = -2 ∨ r = -3 ∨ 0 ≤ r) : (trV r = -2 ∧ r = -1) ∨ (trV r = -1 ∧ (r = -2 ∨ r = -3)) ∨ (trV r = r ∧ 0 ≤ r) := by
  rcases h with z | z | z | z
  · exact Or.inl ⟨trV_1 z, z⟩
  · exact Or.inr (Or.inl ⟨trV_n (by omega) (by omega), Or.inl z⟩)
  · exact Or.inr (Or.inl ⟨trV_n (by omega) (by omega), Or.inr z⟩)
  · exact Or.inr (Or.inr ⟨trV_p z, z⟩)
theorem sx_ct {co y : Int} {ct : Bool} {s : Int} (h : s = b2i ct) : (if co < y then (if 1 < s then s else 1) else s) = b2i (decide (co < y) || ct) := by
  have h1 := (b2i_01 ct).2
  rw [← h] at h1
  by_cases z : co < y
  · rw [if_pos z, if_neg (Int.not_lt.mpr h1), decide_eq_true z]; rfl
  · rw [if_neg z, decide_eq_false z, h]; rfl
theorem nxt_cg {f g : Int → Bool} {N : Int} (h : ∀ j, j < N → f j = g j) (x : Int) (d : Bool) : nxt f N x d = nxt g N x d := by
  rcases Int.lt_or_le x N with h1 | h1
  · by_cases hf : f x = d
    · rw [nxt_at h1 hf, nxt_at h1 (by rw [← h x h1]; exact hf)]
    · rw [nxt_ne h1 hf, nxt_ne h1 (by rw [← h x h1]; exact hf)]
      exact nxt_cg h (x + 1) d
  · rw [nxt_ge h1, nxt_ge h1]
termination_by (N - x).toNat
decreasing_by omega
theorem chC_cg {f g : Int → Bool} {N : Int} (h : ∀ j, j < N → f j = g j) {x : Int} (hx : x ≤ N) (d : Bool) : chC f N x d = chC g N x d := by
  unfold chC
  rw [h (x - 1) (by omega), nxt_cg h x (!d)]
  exact nxt_cg h _ d
theorem rdDr_cg {I : Int → Bool} {T N : Int} {ab ac : Int → Bool} (h : ∀ j, j < N → ab j = ac j) : ∀ (n : Nat) (p x : Int) (d fi ct : Bool) (g : Int → Bool), rdDr I T N ab n p x d fi ct g = rdDr I T N ac n p x d fi ct g
  | 0, p, x, d, fi, ct, g => by rw [rdDr, rdDr]
  | n + 1, p, x, d, fi, ct, g => by
    rw [rdDr, rdDr]
    rcases Int.lt_or_le x N with hx | hx
    · rw [if_pos hx, if_pos hx]
      have e : chC ab N (if fi then x else x + 1) (!d) = chC ac N (if fi then x else x + 1) (!d) := chC_cg h (by split <;> omega) _
      rw [e, nxt_cg h _ d]
      simp only [rdDr_cg h n]
    · rw [if_neg (Int.not_lt.mpr hx), if_neg (Int.not_lt.mpr hx)]
theorem rdRow_cg {I : Int → Bool} {T N : Int} {mk : Bool} {ab ac : Int → Bool} {pl : Bool} {p : Int} (h : ∀ j, j < N → ab j = ac j) : rdRow I T N mk ab pl p = rdRow I T N mk ac pl p := by
  unfold rdRow
  rw [rdDr_cg h]
theorem tsV_inv {w : Int} (h : w = -1 ∨ w = -2 ∨ (0 ≤ w ∧ w ≤ 8)) : (tsV w = 7 ∧ w = -1) ∨ (tsV w = 6 ∧ w = -2) ∨ (tsV w = w - 3 ∧ 0 ≤ w ∧ w ≤ 8) := by
  unfold tsV
  rcases h with z | z | z
  · exact Or.inl ⟨if_pos z, z⟩
  · exact Or.inr (Or.inl ⟨by rw [if_neg (by omega), if_pos z], z⟩)
  · exact Or.inr (Or.inr ⟨by rw [if_neg (by omega), if_neg (by omega)], z⟩)
theorem rdv_inv {I : Int → Bool} {T : Int} {d : Bool} {p rv q nv : Int} (h : p ≤ T) (e1 : rv = (rdRun I T d 3201 p 0 false).1) (e2 : q = (rdRun I T d 3201 p 0 false).2) (e3 : nv = trV rv) : (p ≤ q ∧ q ≤ T) ∧ ((nv = -2 ∧ rv = -1) ∨ (nv = -1 ∧ rv = -2) ∨ (nv = -1 ∧ rv = -3) ∨ (nv = rv ∧ 0 ≤ rv ∧ rv ≤ 640 * (q - p) ∧ p + 2 ≤ q)) := by
  have h1 := rdRun_rg I T d 3201 p 0 false h (Int.le_refl 0)
  rw [← e1, ← e2] at h1
  refine ⟨h1.1, ?_⟩
  rcases h1.2 with z | z | z | z
  · exact Or.inl ⟨by rw [e3, trV_1 z], z⟩
  · exact Or.inr (Or.inl ⟨by rw [e3, trV_n (by omega) (by omega)], z⟩)
  · exact Or.inr (Or.inr (Or.inl ⟨by rw [e3, trV_n (by omega) (by omega)], z⟩))
  · exact Or.inr (Or.inr (Or.inr ⟨by rw [e3, trV_p z.1], z.1, by omega, z.2.2⟩))
theorem wv_inv {I : Int → Bool} {T p vw q nv : Int} (h : p ≤ T) (e1 : vw = (rdWay I T p 9).1) (e2 : q = (rdWay I T p 9).2) (e3 : nv = tsV vw) : (p ≤ q ∧ q ≤ T) ∧ ((nv = 7 ∧ vw = -1) ∨ (nv = 6 ∧ vw = -2) ∨ (nv = vw - 3 ∧ 0 ≤ vw ∧ vw ≤ 8 ∧ p + 1 ≤ q)) := by
  have h1 := rdWay_rg I T p h 9 (Nat.le_refl 9)
  rw [← e1, ← e2] at h1
  refine ⟨h1.1, ?_⟩
  rcases h1.2 with z | z | z
  · exact Or.inl ⟨by rw [e3, z]; rfl, z⟩
  · exact Or.inr (Or.inl ⟨by rw [e3, z]; rfl, z⟩)
  · exact Or.inr (Or.inr ⟨by rw [e3, tsV_p z.1], z.1, z.2.1, z.2.2⟩)
