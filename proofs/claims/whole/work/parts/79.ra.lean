/-! all rows that are read, for the class and for the reference alike -/
def clp (N : Int) (g : Int → Bool) : Int → Bool := fun j => decide (0 ≤ j ∧ j < N) && g j
def upR (P : Int → Int → Bool) (r : Int) (g : Int → Bool) : Int → Int → Bool := fun r' => if r' = r then g else P r'
def P00 : Int → Int → Bool := fun _ _ => false
def S00 : Nat → Int := fun _ => 0
def rdG (rd : Bool) (P : Int → Int → Bool) (rw : Int) (q : Int × Int × (Int → Bool)) : Int → Bool := if q.1 = 3 then (if rd = true then P (rw - 1) else fun _ => false) else q.2.2
def rdQ (I : Int → Bool) (T N kd : Int) (mk al : Bool) (P : Int → Int → Bool) (rw p : Int) : Int × Int × (Int → Bool) := rdRow I T N (hasMk kd mk) (P (rw - 1)) (hd I T kd mk al p).2.1 (hd I T kd mk al p).2.2
def rdAll (I : Int → Bool) (T N kd : Int) (mk al rd : Bool) : Nat → Int → Int → Int → (Int → Int → Bool) → (Nat → Int) → Int × Int × Int × (Int → Int → Bool) × (Nat → Int)
  | 0, rw, p, dm, P, S => (rw, p, dm, P, S)
  | n + 1, rw, p, dm, P, S =>
    if (hd I T kd mk al p).1 = false then (rw, (hd I T kd mk al p).2.2, dm, P, S)
    else if (rdQ I T N kd mk al P rw p).1 = -1 then (rw, (rdQ I T N kd mk al P rw p).2.1, dm, P, S)
    else if ¬ (rdQ I T N kd mk al P rw p).1 = 3 ∨ (hasMk kd mk = true ∧ dm + 1 < 5) then
      rdAll I T N kd mk al rd n (rw + 1) (rdQ I T N kd mk al P rw p).2.1 (if (rdQ I T N kd mk al P rw p).1 = 3 then dm + 1 else dm) (upR P rw (clp N (rdG rd P rw (rdQ I T N kd mk al P rw p)))) (va_up S rw.toNat (rdQ I T N kd mk al P rw p).1)
    else (rw + 1, (rdQ I T N kd mk al P rw p).2.1, dm + 1, upR P rw (clp N (rdG rd P rw (rdQ I T N kd mk al P rw p))), va_up S rw.toNat (rdQ I T N kd mk al P rw p).1)
def PR (F : Int → Int → Bool) (N rw : Int) (P : Int → Int → Bool) : Prop := ∀ r j, -1 ≤ r → r < rw → j < N → F r j = P r j
def SR (sa : Nat → Int) (rw : Int) (S : Nat → Int) : Prop := ∀ i : Nat, (i : Int) < rw → sa i = S i
theorem PR_0 {F : Int → Int → Bool} {N : Int} (h : ∀ j, F (-1) j = false) : PR F N 0 P00 := fun r j h1 h2 _ => by rw [show r = -1 by omega, h j]; rfl
theorem SR_0 (sa : Nat → Int) : SR sa 0 S00 := fun i h => absurd h (by omega)
theorem PR_keep {F F' : Int → Int → Bool} {N rw : Int} {P : Int → Int → Bool} (h : PR F N rw P) (hk : ∀ r j, ¬ r = rw → j < N → F' r j = F r j) : PR F' N rw P := fun r j h1 h2 h3 => by rw [hk r j (by omega) h3]; exact h r j h1 h2 h3
theorem ra_end {I : Int → Bool} {T N kd : Int} {mk al rd : Bool} {n : Nat} {rw p dm : Int} {P : Int → Int → Bool} {S : Nat → Int} (hh : (hd I T kd mk al p).1 = false) : rdAll I T N kd mk al rd (n + 1) rw p dm P S = (rw, (hd I T kd mk al p).2.2, dm, P, S) := by rw [rdAll, if_pos hh]
theorem ra_step {I : Int → Bool} {T N kd : Int} {mk al rd : Bool} {n : Nat} {rw p dm : Int} {P : Int → Int → Bool} {S : Nat → Int} {q : Int × Int × (Int → Bool)} {F F' : Int → Int → Bool} {sa s3 : Nat → Int} {n2 p3 d3 : Int} {bv : Bool}
    (hh : (hd I T kd mk al p).1 = true) (hq : q = rdQ I T N kd mk al P rw p) (hb : (decide (¬ q.1 = -1) && (decide (¬ q.1 = 3) || (hasMk kd mk && decide (dm + 1 < 5)))) = bv) (hrw : 0 ≤ rw)
    (e2 : n2 = if q.1 = -1 then rw else rw + 1) (e3 : p3 = q.2.1) (e4 : d3 = if q.1 = 3 then dm + 1 else dm) (e5 : s3 = if q.1 = -1 then sa else va_up sa rw.toNat q.1) (hP : PR F N rw P) (hS : SR sa rw S)
    (hk : ∀ r j, ¬ r = rw → j < N → F' r j = F r j) (h0 : ∀ j, j < 0 → F' rw j = false) (h1 : ¬ q.1 = -1 → ∀ j, 0 ≤ j → j < N → F' rw j = (if q.1 = 3 then (if rd = true then F (rw - 1) j else false) else q.2.2 j)) :
    ∃ P3 S3, rdAll I T N kd mk al rd (n + 1) rw p dm P S = (if bv = true then rdAll I T N kd mk al rd n n2 p3 d3 P3 S3 else (n2, p3, d3, P3, S3)) ∧ PR F' N n2 P3 ∧ SR s3 n2 S3 := by
  subst hq
  rw [rdAll, hh, if_neg (by decide)]
  by_cases z1 : (rdQ I T N kd mk al P rw p).1 = -1
  · rw [if_pos z1] at e2 e5
    rw [if_neg (by omega)] at e4
    rw [if_pos z1]
    rw [decide_eq_false (p := ¬ (rdQ I T N kd mk al P rw p).1 = -1) (fun z => z z1), Bool.false_and] at hb
    refine ⟨P, S, ?_, ?_, ?_⟩
    · rw [← hb, if_neg (by decide), e2, e3, e4]
    · rw [e2]; exact PR_keep hP hk
    · rw [e2, e5]; exact hS
  · rw [if_neg z1] at e2 e5
    rw [if_neg z1]
    rw [decide_eq_true (p := ¬ (rdQ I T N kd mk al P rw p).1 = -1) z1, Bool.true_and] at hb
    have h1' := h1 z1
    have hP3 : PR F' N n2 (upR P rw (clp N (rdG rd P rw (rdQ I T N kd mk al P rw p)))) := fun r j r1 r2 r3 => by
      unfold upR
      by_cases hr : r = rw
      · rw [if_pos hr, hr, clp]
        by_cases hj : 0 ≤ j
        · rw [decide_eq_true ⟨hj, r3⟩, Bool.true_and, h1' j hj r3, rdG]
          split
          · split
            · exact hP (rw - 1) j (by omega) (by omega) r3
            · rfl
          · rfl
        · rw [decide_eq_false (fun z => hj z.1), Bool.false_and]; exact h0 j (by omega)
      · rw [if_neg hr, hk r j hr r3]
        exact hP r j r1 (by omega) r3
    have hS3 : SR s3 n2 (va_up S rw.toNat (rdQ I T N kd mk al P rw p).1) := fun i hi => by
      rw [e5, va_up, va_up]
      by_cases hr : i = rw.toNat
      · rw [if_pos hr, if_pos hr]
      · rw [if_neg hr, if_neg hr]; exact hS i (by omega)
    refine ⟨_, _, ?_, hP3, hS3⟩
    by_cases z3 : (rdQ I T N kd mk al P rw p).1 = 3
    · rw [decide_eq_false (p := ¬ (rdQ I T N kd mk al P rw p).1 = 3) (fun z => z z3), Bool.false_or] at hb
      rw [if_pos z3] at e4
      by_cases z4 : hasMk kd mk = true ∧ dm + 1 < 5
      · rw [z4.1, decide_eq_true z4.2] at hb
        have hb2 : bv = true := hb.symm
        rw [if_pos (Or.inr z4), if_pos z3, hb2, if_pos rfl, e2, e3, e4]
      · have hb2 : bv = false := by
          rw [← hb]
          cases hm9 : hasMk kd mk
          · rfl
          · rw [decide_eq_false (fun z => z4 ⟨hm9, z⟩)]; rfl
        rw [if_neg (fun z => z.elim (fun z => z z3) z4), hb2, if_neg (by decide), e2, e3, e4]
    · rw [decide_eq_true (p := ¬ (rdQ I T N kd mk al P rw p).1 = 3) z3, Bool.true_or] at hb
      rw [if_neg z3] at e4
      have hb2 : bv = true := hb.symm
      rw [if_pos (Or.inl z3), if_neg z3, hb2, if_pos rfl, e2, e3, e4]
theorem RM_wh (da : Nat → Bool) {co r : Int} (hr : 0 ≤ r) (hco : co ≤ 700) : RM da (pnM da r 0 700 false) co r (fun _ => false) := by
  refine ⟨fun j h0 h1 => ?_, fun r' j hn hj => ?_⟩
  · rw [pd_pn da false hr (Int.le_refl 0) (Int.le_refl 700) (by omega), if_pos ⟨rfl, h0, by omega⟩]
  · rw [pd_pn da false hr (Int.le_refl 0) (Int.le_refl 700) hj, if_neg (fun z => hn z.1)]
theorem pd_neg (da : Nat → Bool) {r j : Int} (h : j < 0) : pd da r j = false := pd_out (by omega)
theorem pd_m1 (da : Nat → Bool) (j : Int) : pd da (-1) j = false := pd_out (by omega)
theorem px_n (wo : Nat → BitVec 64) (co r : Int) {j : Int} (h : j < 0) : px wo co r j = false := by rw [px, decide_eq_false (by omega)]; rfl
theorem hd_rg (I : Int → Bool) (T kd : Int) (mk al : Bool) {p : Int} (h0 : 0 ≤ p) (h1 : p ≤ T) (c : Int) (hT : T = 8 * c) : 0 ≤ (hd I T kd mk al p).2.2 ∧ (hd I T kd mk al p).2.2 ≤ T := by
  have hf := fmk_rg I T p 0
  unfold hd
  split
  · split
    · dsimp only; omega
    · split
      · split
        · dsimp only; omega
        · dsimp only; omega
      · dsimp only; omega
  · split
    · dsimp only; split <;> omega
    · dsimp only; split <;> omega
theorem hdV_rg (h : Bool × Bool × Int) : -1 ≤ hdV h ∧ hdV h ≤ 1 := by
  have := b2i_01 h.2.1
  unfold hdV
  split <;> omega
