/-! pure: a row's way to be read, and its head -/
theorem fmk_rg (I : Int → Bool) (T i z : Int) : fmk I T i z = -1 ∨ (i < fmk I T i z ∧ fmk I T i z ≤ T) := by
  rcases Int.lt_or_le i T with h | h
  · cases hI : I i with
    | true =>
      by_cases hz : 11 ≤ z
      · rw [fmk_hit h hI hz]; right; omega
      · rw [fmk_one h hI hz]
        have := fmk_rg I T (i + 1) 0
        omega
    | false =>
      rw [fmk_zero h hI]
      have := fmk_rg I T (i + 1) (z + 1)
      omega
  · rw [fmk_end h]; left; rfl
termination_by (T - i).toNat
decreasing_by all_goals omega
theorem pws_rg (I : Int → Bool) (T : Int) (mk : Bool) (r p : Int) : -1 ≤ pws I T mk r p ∧ pws I T mk r p ≤ 3 := by
  unfold pws
  split
  · omega
  · split
    · split
      · omega
      · split <;> omega
    · omega
theorem rdPl_rg (I : Int → Bool) (T N : Int) (mk : Bool) (hN : 0 ≤ N) : ∀ (n : Nat) (p x : Int) (d ct : Bool) (g : Int → Bool), p ≤ T → 0 ≤ x → (p ≤ (rdPl I T N mk n p x d ct g).2.1 ∧ (rdPl I T N mk n p x d ct g).2.1 ≤ T) ∧ -1 ≤ (rdPl I T N mk n p x d ct g).1 ∧ (rdPl I T N mk n p x d ct g).1 ≤ 3
  | 0, p, x, d, ct, g, h, hx => by
    have := b2i_01 ct
    rw [rdPl]
    exact ⟨⟨Int.le_refl _, h⟩, by show -1 ≤ b2i ct; omega, by show b2i ct ≤ 3; omega⟩
  | n + 1, p, x, d, ct, g, h, hx => by
    have hr := rdRun_rg I T d 3201 p 0 false h (by omega)
    rw [rdPl]
    split
    · split
      · exact ⟨hr.1, pws_rg I T mk _ _⟩
      · have hm := mn_rg (a := x + (rdRun I T d 3201 p 0 false).1) (b := N) (x := 0) (by omega) hN
        have ih := rdPl_rg I T N mk hN n (rdRun I T d 3201 p 0 false).2 (mn (x + (rdRun I T d 3201 p 0 false).1) N) (!d) (decide (N < x + (rdRun I T d 3201 p 0 false).1) || ct) (ptg g x (mn (x + (rdRun I T d 3201 p 0 false).1) N) d) hr.1.2 hm.1
        omega
    · have := b2i_01 ct
      exact ⟨⟨Int.le_refl _, h⟩, by show -1 ≤ b2i ct; omega, by show b2i ct ≤ 3; omega⟩
theorem fz_rg (r : Int) : -1 ≤ fz r ∧ fz r ≤ 3 := by unfold fz; split <;> omega
def ok3 (p T : Int) (t : Int × Int × (Int → Bool)) : Prop := (p ≤ t.2.1 ∧ t.2.1 ≤ T) ∧ -1 ≤ t.1 ∧ t.1 ≤ 3
theorem ok3_if {p T : Int} {c : Prop} [Decidable c] {a b : Int × Int × (Int → Bool)} (h1 : ok3 p T a) (h2 : ok3 p T b) : ok3 p T (if c then a else b) := by
  split
  · exact h1
  · exact h2
theorem ok3_mono {p q T : Int} {a : Int × Int × (Int → Bool)} (h : p ≤ q) (h2 : ok3 q T a) : ok3 p T a := ⟨⟨Int.le_trans h h2.1.1, h2.1.2⟩, h2.2⟩
theorem rdDr_rg (I : Int → Bool) (T N : Int) (ab : Int → Bool) : ∀ (n : Nat) (p x : Int) (d fi ct : Bool) (g : Int → Bool), p ≤ T → ok3 p T (rdDr I T N ab n p x d fi ct g)
  | 0, p, x, d, fi, ct, g, h => by
    have := b2i_01 ct
    rw [rdDr]
    exact ⟨⟨Int.le_refl _, h⟩, by show -1 ≤ b2i ct; omega, by show b2i ct ≤ 3; omega⟩
  | n + 1, p, x, d, fi, ct, g, h => by
    have hw := rdWay_rg I T p h 9 (by omega)
    have hr := rdRun_rg I T d 3201 (rdWay I T p 9).2 0 false hw.1.2 (by omega)
    have hs := rdRun_rg I T (!d) 3201 (rdRun I T d 3201 (rdWay I T p 9).2 0 false).2 0 false hr.1.2 (by omega)
    rw [rdDr]
    refine ok3_if (ok3_if (ok3_if ?_ (ok3_if ?_ ?_)) (ok3_if ?_ (ok3_if ?_ (ok3_if ?_ ?_)))) ?_
    · exact ⟨⟨Int.le_trans hw.1.1 hr.1.1, hr.1.2⟩, fz_rg _⟩
    · exact ⟨⟨Int.le_trans hw.1.1 (Int.le_trans hr.1.1 hs.1.1), hs.1.2⟩, fz_rg _⟩
    · exact ok3_mono (Int.le_trans hw.1.1 (Int.le_trans hr.1.1 hs.1.1)) (rdDr_rg I T N ab n _ _ _ _ _ _ hs.1.2)
    · exact ⟨hw.1, fz_rg _⟩
    · exact ok3_mono hw.1.1 (rdDr_rg I T N ab n _ _ _ _ _ _ hw.1.2)
    · exact ⟨hw.1, (by decide : (-1 : Int) ≤ 3), (by decide : (3 : Int) ≤ 3)⟩
    · exact ok3_mono hw.1.1 (rdDr_rg I T N ab n _ _ _ _ _ _ hw.1.2)
    · have := b2i_01 ct
      exact ⟨⟨Int.le_refl _, h⟩, by show -1 ≤ b2i ct; omega, by show b2i ct ≤ 3; omega⟩
def rdRow (I : Int → Bool) (T N : Int) (mk : Bool) (ab : Int → Bool) (pl : Bool) (p : Int) : Int × Int × (Int → Bool) := if pl then rdPl I T N mk 3201 p 0 false false (fun _ => false) else rdDr I T N ab 3201 p 0 false true false (fun _ => false)
theorem rdRow_rg (I : Int → Bool) (T N : Int) (mk : Bool) (ab : Int → Bool) (pl : Bool) (p : Int) (hN : 0 ≤ N) (h : p ≤ T) : (p ≤ (rdRow I T N mk ab pl p).2.1 ∧ (rdRow I T N mk ab pl p).2.1 ≤ T) ∧ -1 ≤ (rdRow I T N mk ab pl p).1 ∧ (rdRow I T N mk ab pl p).1 ≤ 3 := by
  unfold rdRow
  split
  · exact rdPl_rg I T N mk hN _ _ _ _ _ _ h (by omega)
  · exact rdDr_rg I T N ab _ _ _ _ _ _ _ h
def hd (I : Int → Bool) (T kd : Int) (mk al : Bool) (p : Int) : Bool × Bool × Int :=
  if hasMk kd mk = true then
    (if fmk I T p 0 < 0 then (false, false, T)
     else if kd = 1 then (if T - fmk I T p 0 < 1 then (false, false, fmk I T p 0) else (!isMk I T (fmk I T p 0 + 1), I (fmk I T p 0), fmk I T p 0 + 1))
     else (!isMk I T (fmk I T p 0), true, fmk I T p 0))
  else if kd = 2 then (!isMk I T (if al = true then p + -p % 2 ^ 3 else p), false, (if al = true then p + -p % 2 ^ 3 else p))
  else (true, true, (if al = true then p + -p % 2 ^ 3 else p))
theorem RR_wh {wo w : Nat → BitVec 64} {co r : Int} {g : Int → Bool} (hr : 0 ≤ r ∧ r < 24) (h : RowRel wo w co r g) : RowRel wo (pnC w co r 0 co false) co r (fun _ => false) := by
  refine ⟨fun j h0 h1 => ?_, fun r' j hn => ?_⟩
  · rw [px_pn w false hr (by omega) (by omega), if_pos ⟨rfl, h0, h1⟩]
  · rw [px_pn w false hr (by omega) (by omega), if_neg (fun z => hn z.1)]
    exact h.2 r' j hn
theorem RR_cp {wo w : Nat → BitVec 64} {co r : Int} {g : Int → Bool} (hr : 0 ≤ r ∧ r < 24) (h : RowRel wo w co r g) : RowRel wo (cpC w co r ((co + 63) / 64)) co r (px wo co (r - 1)) := by
  refine ⟨fun j h0 h1 => ?_, fun r' j hn => ?_⟩
  · rw [px_cp w hr, if_pos rfl]
    exact h.2 (r - 1) j (by omega)
  · rw [px_cp w hr, if_neg hn]
    exact h.2 r' j hn
theorem RR_tr {wo w w2 : Nat → BitVec 64} {co r : Int} {g g2 : Int → Bool} (h : RowRel wo w co r g) (h2 : RowRel w w2 co r g2) : RowRel wo w2 co r g2 := ⟨h2.1, fun r' x hn => (h2.2 r' x hn).trans (h.2 r' x hn)⟩
theorem RR_rf (wo : Nat → BitVec 64) (co r : Int) : RowRel wo wo co r (px wo co r) := ⟨fun _ _ _ => rfl, fun _ _ _ => rfl⟩
