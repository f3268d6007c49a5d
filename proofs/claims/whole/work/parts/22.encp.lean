/-! pure: how long what is written can be; that each step goes on -/
theorem nxt_eq {f : Int → Bool} {N x : Int} {d : Bool} (h : nxt f N x d < N) : f (nxt f N x d) = d := by
  rcases Int.lt_or_le x N with h1 | h1
  · by_cases hf : f x = d
    · rw [nxt_at h1 hf]; exact hf
    · rw [nxt_ne h1 hf] at h ⊢
      exact nxt_eq h
  · rw [nxt_ge h1] at h; omega
termination_by (N - x).toNat
decreasing_by omega
theorem nxt_no {f : Int → Bool} {N x j : Int} {d : Bool} (h0 : x ≤ j) (h : j < nxt f N x d) : f j = !d := by
  have hN := (nxt_rg f N x d).1
  rcases Int.lt_or_le x N with h1 | h1
  · by_cases hf : f x = d
    · rw [nxt_at h1 hf] at h; omega
    · rw [nxt_ne h1 hf] at h
      by_cases hj : j = x
      · subst hj
        cases hq : f j <;> cases d <;> simp_all
      · exact nxt_no (by omega) h
  · rw [nxt_ge h1] at h; omega
termination_by (N - x).toNat
decreasing_by omega
theorem nxt_gt {f : Int → Bool} {N x : Int} {d : Bool} (h : x < N) (hf : f x = !d) : x < nxt f N x d := by
  have h1 := (nxt_rg f N x d).2 (by omega)
  by_cases h2 : nxt f N x d = x
  · have h3 := nxt_eq (f := f) (N := N) (x := x) (d := d) (by omega)
    rw [h2, hf] at h3
    cases d <;> cases h3
  · omega
theorem chC_rg (f : Int → Bool) {N x : Int} (d : Bool) (h0 : 0 ≤ x) (hN : 0 ≤ N) : 0 ≤ chC f N x d ∧ chC f N x d ≤ N ∧ (x ≤ N → x ≤ chC f N x d) := by
  unfold chC
  split
  · have h1 := nxt_rg f N x (!d)
    have h2 := nxt_rg f N (nxt f N x (!d)) d
    have h3 := nxt_lo f N x (!d)
    omega
  · have h1 := nxt_rg f N x d
    have h3 := nxt_lo f N x d
    omega
theorem chC_eq {f : Int → Bool} {N x : Int} {d : Bool} (h : chC f N x d < N) : f (chC f N x d) = d := by
  unfold chC at h ⊢
  exact nxt_eq h
theorem run_tab : ∀ n : Fin 768, (1 ≤ n.val → (runB false (n.val : Int)).length ≤ 7 * n.val - 1 ∧ (runB true (n.val : Int)).length ≤ 7 * n.val - 4) ∧ (4 ≤ n.val → (runB false (n.val : Int)).length ≤ 7 * n.val - 12 ∧ (runB true (n.val : Int)).length ≤ 7 * n.val - 12) ∧ (runB false (n.val : Int)).length ≤ 16 ∧ (runB true (n.val : Int)).length ≤ 24 := by decide +kernel
theorem run_0 : (runB false 0).length = 8 ∧ (runB true 0).length = 9 := by decide +kernel
theorem run_bd {n : Int} (h1 : 1 ≤ n) (h2 : n < 768) : ((runB false n).length : Int) ≤ 7 * n - 1 ∧ ((runB true n).length : Int) ≤ 7 * n - 4 := by
  have h := (run_tab ⟨n.toNat, by omega⟩).1 (by show 1 ≤ n.toNat; omega)
  simp only at h
  rw [show ((n.toNat : Nat) : Int) = n by omega] at h
  omega
theorem run_bd4 (d : Bool) {n : Int} (h1 : 4 ≤ n) (h2 : n < 768) : ((runB d n).length : Int) ≤ 7 * n - 12 := by
  have h := (run_tab ⟨n.toNat, by omega⟩).2.1 (by show 4 ≤ n.toNat; omega)
  simp only at h
  rw [show ((n.toNat : Nat) : Int) = n by omega] at h
  cases d <;> omega
theorem plB_bd {f : Int → Bool} {N : Int} (hN : N ≤ 700) : ∀ (k : Nat) (x : Int) (d : Bool), 0 ≤ x → x ≤ N → (x < N → f x = d) → ((plB f N k x d).length : Int) ≤ 7 * (N - x)
  | 0, x, d, h0, h1, hf => by rw [plB]; simp; omega
  | k + 1, x, d, h0, h1, hf => by
    rcases Int.lt_or_le x N with h2 | h2
    · have hg := nxt_gt (f := f) (N := N) (x := x) (d := !d) h2 (by rw [hf h2]; cases d <;> rfl)
      have hr := nxt_rg f N x (!d)
      have ih := plB_bd hN k (nxt f N x (!d)) (!d) (by omega) hr.1 (fun h => nxt_eq h)
      have hb := run_bd (n := nxt f N x (!d) - x) (by omega) (by omega)
      rw [plB, if_pos h2, List.length_append]
      cases d <;> simp only [Bool.not_false, Bool.not_true] at * <;> omega
    · rw [plB_ge _ h2]; simp; omega
theorem plB_bd0 {f : Int → Bool} {N : Int} (h1 : 1 ≤ N) (hN : N ≤ 700) (k : Nat) : ((plB f N k 0 false).length : Int) ≤ 7 * N + 8 := by
  cases hf : f 0 with
  | false => have := plB_bd hN k 0 false (by omega) (by omega) (fun _ => hf); omega
  | true =>
    cases k with
    | zero => rw [plB]; simp; omega
    | succ k =>
      have e : nxt f N 0 true = 0 := nxt_at (by omega) hf
      have ih := plB_bd hN k 0 true (by omega) (by omega) (fun _ => hf)
      rw [plB, if_pos (by omega), List.length_append, Bool.not_false, e, show (0 : Int) - 0 = 0 by decide, run_0.1]
      omega
theorem way_len : (wayL 7).length = 4 ∧ (wayL 8).length = 3 ∧ ∀ w : Int, 0 ≤ w → w < 9 → (wayL w).length ≤ 7 := by
  refine ⟨by decide +kernel, by decide +kernel, fun w h0 h1 => ?_⟩
  have := way_rg w.toNat (by omega)
  rw [wayL, bitsL_len]; omega
theorem drB_bd {f g : Int → Bool} {N : Int} (hN : N ≤ 700) : ∀ (k : Nat) (a : Int) (d fi : Bool), 0 ≤ a → a ≤ N → (a < N → f a = d) → ((drB f g N k a d fi).length : Int) ≤ 7 * (N - a)
  | 0, a, d, fi, h0, h1, hf => by rw [drB]; simp; omega
  | k + 1, a, d, fi, h0, h1, hf => by
    rcases Int.lt_or_le a N with h2 | h2
    · rw [drB, if_pos h2]
      obtain ⟨y, hy⟩ : ∃ y, y = (if fi then a else a + 1) := ⟨_, rfl⟩
      have hya : a ≤ y ∧ y ≤ a + 1 := by rw [hy]; split <;> omega
      rw [← hy]
      have hb := chC_rg g (N := N) (x := y) (!d) (by omega) (by omega)
      have hbe := @chC_eq g N y (!d)
      generalize chC g N y (!d) = b at *
      have hc := nxt_rg g N b d
      have hcg : b < N → b < nxt g N b d := fun h => nxt_gt h (hbe h)
      generalize nxt g N b d = c at *
      have he := nxt_rg f N a (!d)
      have heg := nxt_gt (f := f) (N := N) (x := a) (d := !d) h2 (by rw [hf h2]; cases d <;> rfl)
      have hen : ∀ j, a ≤ j → j < nxt f N a (!d) → f j = d := fun j q1 q2 => by have := nxt_no q1 q2; rw [this]; cases d <;> rfl
      have hee := @nxt_eq f N a (!d)
      generalize nxt f N a (!d) = e at *
      have hw := way_len
      split
      · rename_i q
        have ih := drB_bd (g := g) hN k c d false (by omega) (by omega) (fun _ => hen c (by omega) q)
        rw [List.length_append]
        omega
      · split
        · rename_i q1 q2
          have ih := drB_bd (g := g) hN k e (!d) false (by omega) (by omega) hee
          have := hw.2.2 (e - b + 3) (by omega) (by omega)
          rw [List.length_append]
          omega
        · rename_i q1 q2
          have hz := nxt_rg f N e d
          have hze := @nxt_eq f N e d
          have hzg : e < N → e < nxt f N e d := fun h => nxt_gt h (hee h)
          generalize nxt f N e d = z at *
          have ih := drB_bd (g := g) hN k z d false (by omega) (by omega) hze
          simp only [List.length_append]
          have r1 := run_bd (n := e - a) (by omega) (by omega)
          have r4 := run_bd4 d (n := e - a)
          rcases Int.lt_or_le e N with h3 | h3
          · have r2 := run_bd (n := z - e) (by have := hzg h3; omega) (by omega)
            cases d <;> simp only [Bool.not_false, Bool.not_true] at * <;> omega
          · have r4' := r4 (by omega) (by omega)
            have r0 := run_0
            have ez : z - e = 0 := by omega
            rw [ez]
            cases d <;> simp only [Bool.not_false, Bool.not_true] at * <;> omega
    · rw [drB_ge _ h2]; simp; omega
theorem drB_bd0 {f g : Int → Bool} {N : Int} (h1 : 1 ≤ N) (hN : N ≤ 700) (k : Nat) : ((drB f g N k 0 false true).length : Int) ≤ 7 * N + 11 := by
  cases hf : f 0 with
  | false => have := drB_bd (g := g) hN k 0 false true (by omega) (by omega) (fun _ => hf); omega
  | true =>
    cases k with
    | zero => rw [drB]; simp; omega
    | succ k =>
      rw [drB, if_pos (by omega), if_pos rfl, Bool.not_false]
      have e : nxt f N 0 true = 0 := nxt_at (by omega) hf
      rw [e]
      have hb := chC_rg g (N := N) (x := 0) true (by omega) (by omega)
      generalize chC g N 0 true = b at *
      have hc := nxt_lo g N b false
      generalize nxt g N b false = c at *
      rw [if_neg (by omega)]
      have hw := way_len
      split
      · have ih := drB_bd (g := g) hN k 0 true false (by omega) (by omega) (fun _ => hf)
        have := hw.2.2 (0 - b + 3) (by omega) (by omega)
        rw [List.length_append]
        omega
      · have hz := nxt_rg f N 0 false
        have hze := @nxt_eq f N 0 false
        have hzg := nxt_gt (f := f) (N := N) (x := 0) (d := false) (by omega) hf
        generalize nxt f N 0 false = z at *
        have ih := drB_bd (g := g) hN k z false false (by omega) (by omega) hze
        have r2 := run_bd (n := z - 0) (by omega) (by omega)
        have r0 := run_0
        simp only [List.length_append, show (0 : Int) - 0 = 0 by decide]
        omega
def isPl (kd r : Int) : Bool := decide (kd = 0) || (decide (kd = 1) && decide (r % 4 = 0))
def bodyB (kd co : Int) (P : Int → Int → Bool) (r : Int) : List Bool := if isPl kd r then plB (P r) co (co + 1).toNat 0 false else drB (P r) (P (r - 1)) co (co + 1).toNat 0 false true
def encR (kd : Int) (mk al : Bool) (co : Int) (P : Int → Int → Bool) : Nat → List Bool
  | 0 => []
  | n + 1 => (encR kd mk al co P n ++ stB kd mk al (encR kd mk al co P n) (isPl kd n)) ++ bodyB kd co P n
def encA (kd : Int) (mk al : Bool) (co : Int) (P : Int → Int → Bool) (rw : Int) : List Bool := enB kd mk al (encR kd mk al co P rw.toNat)
theorem stB_len (kd : Int) (mk al : Bool) (L : List Bool) (pl : Bool) : (stB kd mk al L pl).length ≤ 20 := by
  unfold stB
  have h1 := alB_len L 12
  have h2 := alB_len L 0
  have h3 := mkB_len kd pl
  have h4 : (mkB kd pl).length ≤ 13 := by split at h3 <;> omega
  split <;> split <;> (try simp only [List.length_append, List.length_nil]) <;> omega
theorem bodyB_len {kd co : Int} (P : Int → Int → Bool) (r : Int) (h1 : 1 ≤ co) (h2 : co ≤ 700) : ((bodyB kd co P r).length : Int) ≤ 7 * co + 11 := by
  unfold bodyB
  split
  · have := plB_bd0 (f := P r) h1 h2 (co + 1).toNat; omega
  · exact drB_bd0 h1 h2 _
theorem encR_len (kd : Int) (mk al : Bool) {co : Int} (P : Int → Int → Bool) (h1 : 1 ≤ co) (h2 : co ≤ 700) : ∀ n : Nat, ((encR kd mk al co P n).length : Int) ≤ (n : Int) * (7 * co + 31)
  | 0 => by rw [encR]; simp
  | n + 1 => by
    have ih := encR_len kd mk al P h1 h2 n
    have a := stB_len kd mk al (encR kd mk al co P n) (isPl kd n)
    have b := bodyB_len (kd := kd) P (n : Int) h1 h2
    rw [encR, List.length_append, List.length_append, Int.natCast_add n 1, Int.add_mul]
    omega
theorem encR_bd (kd : Int) (mk al : Bool) {co : Int} (P : Int → Int → Bool) (h1 : 1 ≤ co) (h2 : co ≤ 700) {n : Nat} (hn : n ≤ 24) : ((encR kd mk al co P n).length : Int) ≤ 24 * (7 * co + 31) ∧ (n < 24 → ((encR kd mk al co P n).length : Int) ≤ 23 * (7 * co + 31)) := by
  have h := encR_len kd mk al P h1 h2 n
  have m1 : (n : Int) * (7 * co + 31) ≤ 24 * (7 * co + 31) := Int.mul_le_mul_of_nonneg_right (by omega) (by omega)
  refine ⟨by omega, fun h3 => ?_⟩
  have m2 : (n : Int) * (7 * co + 31) ≤ 23 * (7 * co + 31) := Int.mul_le_mul_of_nonneg_right (by omega) (by omega)
  omega
theorem en1_len (kd : Int) (al : Bool) (L : List Bool) : (en1 kd al L).length ≤ L.length + 7 := by
  unfold en1
  have h := alB_len L 0
  split <;> (try simp only [List.length_append, List.length_nil]) <;> omega
