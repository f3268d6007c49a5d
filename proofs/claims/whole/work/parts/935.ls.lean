/-! pure: the states that are read; what the settings, the rows, the places become -/
theorem ra_S {I : Int → Bool} {T N kd : Int} {mk al rd : Bool} (hN : 0 ≤ N) (c : Int) (hT : T = 8 * c) : ∀ (n : Nat) (rw p dm : Int) (P : Int → Int → Bool) (S : Nat → Int), 0 ≤ rw → 0 ≤ p → p ≤ T → (∀ i : Nat, (i : Int) < rw → 0 ≤ S i ∧ S i ≤ 3) → ∀ i : Nat, (i : Int) < (rdAll I T N kd mk al rd n rw p dm P S).1 → 0 ≤ (rdAll I T N kd mk al rd n rw p dm P S).2.2.2.2 i ∧ (rdAll I T N kd mk al rd n rw p dm P S).2.2.2.2 i ≤ 3
  | 0, rw, p, dm, P, S, h0, h1, h2, hS, i, hi => hS i hi
  | n + 1, rw, p, dm, P, S, h0, h1, h2, hS, i, hi => by
    have hh := hd_rg I T kd mk al h1 h2 c hT
    have hq : ((hd I T kd mk al p).2.2 ≤ (rdQ I T N kd mk al P rw p).2.1 ∧ (rdQ I T N kd mk al P rw p).2.1 ≤ T) ∧ -1 ≤ (rdQ I T N kd mk al P rw p).1 ∧ (rdQ I T N kd mk al P rw p).1 ≤ 3 := rdRow_rg _ _ _ _ _ _ _ hN hh.2
    have hS2 : ¬ (rdQ I T N kd mk al P rw p).1 = -1 → ∀ i : Nat, (i : Int) < rw + 1 → 0 ≤ va_up S rw.toNat (rdQ I T N kd mk al P rw p).1 i ∧ va_up S rw.toNat (rdQ I T N kd mk al P rw p).1 i ≤ 3 := fun c2 i hi => by
      unfold va_up
      by_cases e : i = rw.toNat
      · rw [if_pos e]; omega
      · rw [if_neg e]; exact hS i (by omega)
    rw [rdAll] at hi ⊢
    by_cases c1 : (hd I T kd mk al p).1 = false
    · rw [if_pos c1] at hi ⊢; exact hS i hi
    · rw [if_neg c1] at hi ⊢
      by_cases c2 : (rdQ I T N kd mk al P rw p).1 = -1
      · rw [if_pos c2] at hi ⊢; exact hS i hi
      · rw [if_neg c2] at hi ⊢
        by_cases c3 : ¬ (rdQ I T N kd mk al P rw p).1 = 3 ∨ (hasMk kd mk = true ∧ dm + 1 < 5)
        · rw [if_pos c3] at hi ⊢
          exact ra_S hN c hT n _ _ _ _ _ (by omega) (by omega) hq.1.2 (hS2 c2) i hi
        · rw [if_neg c3] at hi ⊢; exact hS2 c2 i hi
/-- class and reference agree -/
def LI (kd co : Int) (mk al dz rd : Bool) (rw : Int) (wo : Nat → BitVec 64) (sa : Nat → Int) (sz ps : Int) (bt : Nat → Int) (ou : Nat → BitVec 64) (L : List Bool) (dm : Int) (se da : Nat → Bool) (sa2 bt2 : Nat → Int) (oz : Nat → Bool) : Prop :=
  ((0 ≤ kd ∧ kd ≤ 2) ∧ (1 ≤ co ∧ co ≤ 700) ∧ (0 ≤ rw ∧ rw ≤ 24) ∧ (0 ≤ sz ∧ sz ≤ 400) ∧ (0 ≤ ps ∧ ps ≤ 3200) ∧ (0 ≤ dm ∧ dm ≤ 24)) ∧
  (se 0 = mk ∧ se 1 = al ∧ se 2 = dz ∧ se 3 = rd) ∧
  (∀ r j, -1 ≤ r → r < rw → j < co → px wo co r j = pd da r j) ∧
  (∀ i : Nat, (i : Int) < rw → sa i = sa2 i ∧ 0 ≤ sa i ∧ sa i ≤ 3) ∧
  ((∀ i : Nat, (i : Int) < sz → bt i % 256 = bt2 i % 256) ∧ ∀ j, 0 ≤ bt2 j ∧ bt2 j < 256) ∧
  (OR ou L ∧ OZ oz L ∧ L.length % 8 = 0 ∧ ((L.length : Nat) : Int) ≤ 24 * (7 * co + 31) + 92)
theorem set_up {se : Nat → Bool} {z : Int} {d : Bool} {mk al dz rd : Bool} (h : 0 ≤ z ∧ z ≤ 3) (hs : se 0 = mk ∧ se 1 = al ∧ se 2 = dz ∧ se 3 = rd) : va_up se z.toNat d 0 = (if z = 0 then d else mk) ∧ va_up se z.toNat d 1 = (if z = 1 then d else al) ∧ va_up se z.toNat d 2 = (if z = 2 then d else dz) ∧ va_up se z.toNat d 3 = (if z = 3 then d else rd) := by
  unfold va_up
  rcases (by omega : z = 0 ∨ z = 1 ∨ z = 2 ∨ z = 3) with e | e | e | e <;> rw [e] <;> exact ⟨by first | rfl | exact hs.1, by first | rfl | exact hs.2.1, by first | rfl | exact hs.2.2.1, by first | rfl | exact hs.2.2.2⟩
theorem px_neg' (wo : Nat → BitVec 64) (co : Int) (j : Int) : px wo co (-1) j = false := px_neg wo co j
theorem px_ge (wo : Nat → BitVec 64) (co r : Int) {j : Int} (h : j < 0) : px wo co r j = false := px_n wo co r h
/-- painting keeps the agreement -/
theorem PX_pn {wo : Nat → BitVec 64} {da : Nat → Bool} {co rw r x y : Int} (d : Bool) (hco : 1 ≤ co ∧ co ≤ 700) (hr : 0 ≤ r ∧ r < 24) (hx : 0 ≤ x) (hy : y ≤ co) (h : ∀ r' j, -1 ≤ r' → r' < rw → j < co → px wo co r' j = pd da r' j) : ∀ r' j, -1 ≤ r' → r' < rw → j < co → px (pnC wo co r x y d) co r' j = pd (pnM da r x y d) r' j := fun r' j h1 h2 h3 => by
  rw [px_pn wo d hr hx hy, pd_pn da d hr.1 hx (by omega) (by omega), h r' j h1 h2 h3]
/-- a new row is white on both sides -/
theorem PX_row {wo : Nat → BitVec 64} {da : Nat → Bool} {co rw : Int} (hco : 1 ≤ co ∧ co ≤ 700) (hr : 0 ≤ rw ∧ rw < 24) (h : ∀ r' j, -1 ≤ r' → r' < rw → j < co → px wo co r' j = pd da r' j) : ∀ r' j, -1 ≤ r' → r' < rw + 1 → j < co → px (pnC wo co rw 0 co false) co r' j = pd (pnM da rw 0 700 false) r' j := fun r' j h1 h2 h3 => by
  rw [px_pn wo false hr (Int.le_refl 0) (Int.le_refl co), pd_pn da false hr.1 (Int.le_refl 0) (Int.le_refl 700) (by omega)]
  by_cases e : r' = rw
  · by_cases hj : 0 ≤ j
    · rw [if_pos ⟨e, hj, h3⟩, if_pos ⟨e, hj, by omega⟩]
    · rw [if_neg (fun z => hj z.2.1), if_neg (fun z => hj z.2.1), px_n wo co r' (by omega), pd_neg da (by omega)]
  · rw [if_neg (fun z => e z.1), if_neg (fun z => e z.1)]; exact h r' j h1 (by omega) h3
theorem ST_up {sa sa2 : Nat → Int} {rw r v : Int} (hv : 0 ≤ v ∧ v ≤ 3) (rw2 : Int) (hr : 0 ≤ r) (h2 : rw2 ≤ rw ∨ (rw2 = rw + 1 ∧ r = rw)) (h : ∀ i : Nat, (i : Int) < rw → sa i = sa2 i ∧ 0 ≤ sa i ∧ sa i ≤ 3) : ∀ i : Nat, (i : Int) < rw2 → va_up sa r.toNat v i = va_up sa2 r.toNat v i ∧ 0 ≤ va_up sa r.toNat v i ∧ va_up sa r.toNat v i ≤ 3 := fun i hi => by
  unfold va_up
  by_cases e : i = r.toNat
  · rw [if_pos e, if_pos e]; exact ⟨rfl, hv⟩
  · rw [if_neg e, if_neg e]; exact h i (by omega)
theorem goodIn_sA {big ws E : List Cond} {own : String} {i : Nat} {y : MethodName} (h : GoodIn big (va_wsS own i y ws)) (hE : GoodIn big E) : GoodIn big (va_wsS own i y (ws ++ E)) := by
  unfold va_wsS at *
  rw [← List.append_assoc]
  exact goodIn_app h hE
theorem goodEL : GoodIn lw_tbl ((vx_atS RX7 159 "java/lang/ArrayIndexOutOfBoundsException" zxnA).filter goodWord) := goodIn_sub (by decide +kernel) (List.all_eq_true.mpr (fun w hw => (List.mem_filter.mp hw).2))
