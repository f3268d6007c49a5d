/-! pure: the codes begin differently: a slot's code comes just where the table's search finds that slot -/
theorem tF_ax : ∀ d : Bool, ∀ r, r < 74 → tF d r = codC d (tO d r) * 2 ^ (12 - lenC d (tO d r)).toNat ∧ (0 ≤ tO d r ∧ tO d r < 74) ∧ (if r = 0 then 4096 else tF d (r - 1)) = tF d r + 2 ^ (12 - lenC d (tO d r)).toNat := by decide +kernel
theorem tO_on : ∀ d : Bool, ∀ s, s < 74 → ∃ r, r < 74 ∧ tO d r = ((s : Nat) : Int) := by decide +kernel
theorem tF_mono (d : Bool) {r : Nat} (hr : r < 74) : ∀ j : Nat, j < r → tF d r < tF d j := by
  induction r with
  | zero => intro j hj; omega
  | succ r ih =>
    intro j hj
    have h := (tF_ax d (r + 1) hr).2.2
    rw [if_neg (by omega), Nat.add_sub_cancel] at h
    have hp : (0 : Int) < 2 ^ (12 - lenC d (tO d (r + 1))).toNat := Int.pow_pos (by decide)
    rcases (by omega : j = r ∨ j < r) with e | e
    · rw [e]; omega
    · have := ih (by omega) j e; omega
theorem sbg_first {d : Bool} {t : Int} {r : Nat} (hr : r < 74) (h1 : tF d r ≤ t) (h2 : ∀ j : Nat, j < r → t < tF d j) : ∀ k : Nat, k ≤ r → sbg d t ((r - k : Nat) : Int) = tO d r := by
  intro k
  induction k with
  | zero => intro _; rw [Nat.sub_zero, sbg_hit (by omega) (by rw [Int.toNat_natCast]; exact h1), Int.toNat_natCast]
  | succ k ih =>
    intro hk
    rw [sbg_next (by omega) (by rw [Int.toNat_natCast]; have := h2 (r - (k + 1)) (by omega); omega), show ((r - (k + 1) : Nat) : Int) + 1 = ((r - k : Nat) : Int) by omega]
    exact ih (by omega)
theorem sbg_inv (d : Bool) (t r : Int) (h : 0 ≤ r) : sbg d t r = -2 ∨ ∃ q : Nat, r ≤ (q : Int) ∧ q < 74 ∧ tF d q ≤ t ∧ sbg d t r = tO d q ∧ ∀ j : Nat, r ≤ (j : Int) → j < q → t < tF d j := by
  rcases Int.lt_or_le r 74 with h1 | h1
  · by_cases h2 : tF d r.toNat ≤ t
    · refine Or.inr ⟨r.toNat, by omega, by omega, h2, sbg_hit h1 h2, fun j hj hq => by omega⟩
    · rw [sbg_next h1 h2]
      rcases sbg_inv d t (r + 1) (by omega) with e | ⟨q, q1, q2, q3, q4, q5⟩
      · exact Or.inl e
      · refine Or.inr ⟨q, by omega, q2, q3, q4, fun j hj hq => ?_⟩
        rcases (by omega : (j : Int) = r ∨ r + 1 ≤ (j : Int)) with e | e
        · rw [show j = r.toNat by omega]; omega
        · exact q5 j e hq
  · rw [sbg_end h1]; exact Or.inl rfl
termination_by (74 - r).toNat
decreasing_by omega
theorem dv_iff {t c : Int} {e : Nat} : t / 2 ^ e = c ↔ c * 2 ^ e ≤ t ∧ t < c * 2 ^ e + 2 ^ e := by
  have hp : (0 : Int) < 2 ^ e := Int.pow_pos (by decide)
  have h1 := Int.emod_add_mul_ediv t (2 ^ e)
  have h2 := Int.emod_nonneg t (b := 2 ^ e) (by omega)
  have h3 := Int.emod_lt_of_pos t hp
  constructor
  · intro h
    rw [h, Int.mul_comm] at h1
    omega
  · rintro ⟨ha, hb⟩
    rw [show t = (t - c * 2 ^ e) + c * 2 ^ e by omega, Int.add_mul_ediv_right _ _ (by omega), Int.ediv_eq_zero_of_lt (by omega) (by omega), Int.zero_add]
theorem slot_iff (I : Int → Bool) (p : Int) (d : Bool) {s : Int} (hs : 0 ≤ s ∧ s < 74) : pkI I p (lenC d s).toNat = codC d s ↔ slI I p d = s := by
  have hl := lenC_2 (d := d) hs
  have ht := pkI_rg I p 12
  have e1 : pkI I p (lenC d s).toNat = pkI I p 12 / 2 ^ (12 - lenC d s).toNat := by
    rw [← pkI_dv I p (lenC d s).toNat (12 - lenC d s).toNat, show (lenC d s).toNat + (12 - lenC d s).toNat = 12 by omega]
  rw [e1, dv_iff]
  unfold slI
  generalize pkI I p 12 = t at ht ⊢
  obtain ⟨r, hr, hrs⟩ := tO_on d s.toNat (by omega)
  rw [show ((s.toNat : Nat) : Int) = s by omega] at hrs
  constructor
  · rintro ⟨ha, hb⟩
    have hx := tF_ax d r hr
    rw [hrs] at hx
    rw [← hx.1] at ha hb
    have h9 := sbg_first (d := d) (t := t) hr ha (fun j hj => by
      have h3 := hx.2.2
      rw [if_neg (by omega)] at h3
      rcases (by omega : j = r - 1 ∨ j < r - 1) with e | e
      · rw [e]; omega
      · have := tF_mono d (r := r - 1) (by omega) j e; omega) r (Nat.le_refl r)
    rw [Nat.sub_self] at h9
    rw [← hrs]; exact h9
  · intro h
    rcases sbg_inv d t 0 (Int.le_refl 0) with e | ⟨q, q1, q2, q3, q4, q5⟩
    · omega
    · have hx := tF_ax d q q2
      rw [← q4, h] at hx
      rw [← hx.1, ← hx.2.2]
      refine ⟨q3, ?_⟩
      split
      · have : (2 : Int) ^ 12 = 4096 := by decide
        omega
      · exact q5 (q - 1) (by omega) (by omega)
theorem slI_rg (I : Int → Bool) (p : Int) (d : Bool) : slI I p d = -2 ∨ (0 ≤ slI I p d ∧ slI I p d < 74) := sbg_rg d _ 0 (by omega)
theorem runN_sl {n : Int} (h : isR n = true) : runN (slI' n) = n ∧ 0 ≤ slI' n ∧ slI' n < 74 := by
  have h1 := of_decide_eq_true h
  unfold slI' runN
  split <;> (try split) <;> omega
theorem sl_runN {s : Int} (h : 0 ≤ s ∧ s < 74) : isR (runN s) = true ∧ slI' (runN s) = s := by
  unfold isR slI' runN
  constructor
  · apply decide_eq_true
    split <;> omega
  · split <;> (try split) <;> omega
theorem cod_lt : ∀ d : Bool, ∀ s, s < 74 → codC d ((s : Nat) : Int) < 2 ^ (lenC d ((s : Nat) : Int)).toNat := by decide +kernel
def tkN (I : Int → Bool) (T p : Int) (d : Bool) : Bool := decide (slI I p d < 0 ∨ T - p < lenC d (slI I p d))
def tkc (I : Int → Bool) (T p : Int) (d : Bool) : Int := if tkN I T p d then (if T - p < 12 then -2 else -1) else runN (slI I p d)
def tkp (I : Int → Bool) (T p : Int) (d : Bool) : Int := if tkN I T p d then p else p + lenC d (slI I p d)
theorem tkc_cases (I : Int → Bool) {T p : Int} (d : Bool) (h : p ≤ T) : (tkN I T p d = true ∧ tkc I T p d = (if T - p < 12 then -2 else -1) ∧ tkp I T p d = p ∧ tkc I T p d < 0) ∨ (¬ tkN I T p d = true ∧ tkc I T p d = runN (slI I p d) ∧ tkp I T p d = p + lenC d (slI I p d) ∧ 0 ≤ tkc I T p d ∧ tkc I T p d ≤ 640 ∧ p + 2 ≤ tkp I T p d ∧ tkp I T p d ≤ T ∧ (tkc I T p d < 64 ↔ slI I p d < 64)) := by
  by_cases hn : tkN I T p d = true
  · have e1 : tkc I T p d = (if T - p < 12 then -2 else -1) := if_pos hn
    have e2 : tkp I T p d = p := if_pos hn
    exact Or.inl ⟨hn, e1, e2, by rw [e1]; split <;> omega⟩
  · have e1 : tkc I T p d = runN (slI I p d) := if_neg hn
    have e2 : tkp I T p d = p + lenC d (slI I p d) := if_neg hn
    have hs : 0 ≤ slI I p d ∧ slI I p d < 74 := by
      rcases slI_rg I p d with e | e
      · exact absurd (decide_eq_true (Or.inl (by omega))) hn
      · exact e
    have hl := lenC_2 (d := d) hs
    have hq : ¬ T - p < lenC d (slI I p d) := fun z => hn (decide_eq_true (Or.inr z))
    have hr := runN_rg hs
    have hr2 : runN (slI I p d) < 64 ↔ slI I p d < 64 := by unfold runN; split <;> omega
    exact Or.inr ⟨hn, e1, e2, by rw [e1]; exact hr.1, by rw [e1]; exact hr.2.1, by omega, by omega, by rw [e1]; exact hr2⟩
