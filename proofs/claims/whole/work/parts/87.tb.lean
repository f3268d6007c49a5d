/-! pure: how the tables are made, step by step -/
def LG (l : List Int) : Nat → Int := fun j => l.getD j 0
theorem LG_up {l : List Int} {i : Nat} (h : i < l.length) (v : Int) : va_up (LG l) i v = LG (l.set i v) := by
  funext j
  unfold va_up LG
  rw [List.getD_eq_getElem?_getD, List.getD_eq_getElem?_getD, List.getElem?_set]
  by_cases e : j = i
  · subst e
    rw [if_pos rfl, if_pos rfl, if_pos h]; rfl
  · rw [if_neg e, if_neg (fun z => e z.symm)]
theorem LG_0 (n : Nat) : LG (List.replicate n 0) = fun _ => 0 := by
  funext j
  unfold LG
  rw [List.getD_eq_getElem?_getD, List.getElem?_replicate]
  split <;> rfl
abbrev ttS : Type := Int × Int × List Int × List Int × List Int × List Int
def ttSt (ln : Nat → Int) (len : Int) (sl : Nat) (t : ttS) : ttS :=
  if ln sl = len then (if t.2.1 < 74 then (t.1 - 2 ^ (12 - len).toNat, t.2.1 + 1, t.2.2.1.set sl len, t.2.2.2.1.set sl ((t.1 - 2 ^ (12 - len).toNat) / 2 ^ (12 - len).toNat), t.2.2.2.2.1.set t.2.1.toNat (sl : Int), t.2.2.2.2.2.set t.2.1.toNat (t.1 - 2 ^ (12 - len).toNat)) else t) else t
def ttIn (ln : Nat → Int) (len : Int) : Nat → ttS → ttS
  | 0, t => t
  | n + 1, t => ttSt ln len n (ttIn ln len n t)
def tt0 : ttS := (4096, 0, List.replicate 74 0, List.replicate 74 0, List.replicate 74 0, List.replicate 74 0)
def ttOut (ln : Nat → Int) : Nat → ttS
  | 0 => tt0
  | n + 1 => ttIn ln ((n : Int) + 1) 74 (ttOut ln n)
def okT (t : ttS) : Prop := (0 ≤ t.2.1 ∧ t.2.1 ≤ 74) ∧ (4096 - 2048 * t.2.1 ≤ t.1 ∧ t.1 ≤ 4096) ∧ t.2.2.1.length = 74 ∧ t.2.2.2.1.length = 74 ∧ t.2.2.2.2.1.length = 74 ∧ t.2.2.2.2.2.length = 74
theorem okT_st (ln : Nat → Int) {len : Int} (sl : Nat) {t : ttS} (h1 : 1 ≤ len ∧ len ≤ 12) (h : okT t) : okT (ttSt ln len sl t) := by
  obtain ⟨a1, a2, a3, a4, a5, a6⟩ := h
  have hp : (2 : Int) ^ (12 - len).toNat ≤ 2 ^ 11 := pow2_le (by omega)
  have hp0 : (0 : Int) < 2 ^ (12 - len).toNat := Int.pow_pos (by decide)
  have h11 : (2 : Int) ^ 11 = 2048 := by decide
  unfold ttSt
  split
  · split
    · refine ⟨?_, ?_, ?_, ?_, ?_, ?_⟩
      · dsimp only; omega
      · dsimp only; omega
      · show (List.set _ _ _).length = 74
        rw [List.length_set]; exact a3
      · show (List.set _ _ _).length = 74
        rw [List.length_set]; exact a4
      · show (List.set _ _ _).length = 74
        rw [List.length_set]; exact a5
      · show (List.set _ _ _).length = 74
        rw [List.length_set]; exact a6
    · exact ⟨a1, a2, a3, a4, a5, a6⟩
  · exact ⟨a1, a2, a3, a4, a5, a6⟩
theorem okT_in (ln : Nat → Int) {len : Int} (h1 : 1 ≤ len ∧ len ≤ 12) {t : ttS} (h : okT t) : ∀ n, okT (ttIn ln len n t)
  | 0 => h
  | n + 1 => okT_st ln n h1 (okT_in ln h1 h n)
theorem okT_0 : okT tt0 := ⟨⟨by decide, by decide⟩, ⟨by decide, by decide⟩, List.length_replicate, List.length_replicate, List.length_replicate, List.length_replicate⟩
theorem okT_out (ln : Nat → Int) : ∀ n, n ≤ 12 → okT (ttOut ln n)
  | 0, _ => okT_0
  | n + 1, h => okT_in ln (by omega) (okT_out ln n (by omega)) 74
set_option maxRecDepth 100000 in
theorem tt_endF : (ttOut (tB false) 12).2.2.1 = ((List.range 74).map (tB false)) ∧ (ttOut (tB false) 12).2.2.2.1 = ((List.range 74).map (tC false)) ∧ (ttOut (tB false) 12).2.2.2.2.1 = ((List.range 74).map (tO false)) ∧ (ttOut (tB false) 12).2.2.2.2.2 = ((List.range 74).map (tF false)) := by decide +kernel
set_option maxRecDepth 100000 in
theorem tt_endT : (ttOut (tB true) 12).2.2.1 = ((List.range 74).map (tB true)) ∧ (ttOut (tB true) 12).2.2.2.1 = ((List.range 74).map (tC true)) ∧ (ttOut (tB true) 12).2.2.2.2.1 = ((List.range 74).map (tO true)) ∧ (ttOut (tB true) 12).2.2.2.2.2 = ((List.range 74).map (tF true)) := by decide +kernel
theorem tt_end (d : Bool) : (ttOut (tB d) 12).2.2.1 = ((List.range 74).map (tB d)) ∧ (ttOut (tB d) 12).2.2.2.1 = ((List.range 74).map (tC d)) ∧ (ttOut (tB d) 12).2.2.2.2.1 = ((List.range 74).map (tO d)) ∧ (ttOut (tB d) 12).2.2.2.2.2 = ((List.range 74).map (tF d)) := by
  cases d
  · exact tt_endF
  · exact tt_endT
theorem LG_map (g : Nat → Int) {N i : Nat} (h : i < N) : LG ((List.range N).map g) i = g i := by
  unfold LG
  rw [List.getD_eq_getElem?_getD, List.getElem?_map, List.getElem?_range h]; rfl
theorem aI_cg {cA : ClassId} {N : Nat} {g g' : Nat → Int} (h : ∀ i, i < N → g i = g' i) : vp_cell cA (N, .inl (fun i => Int32.ofInt (g i))) = vp_cell cA (N, .inl (fun i => Int32.ofInt (g' i))) := by
  show arrV cA N (fun j => .int (Int32.ofInt (g j))) = arrV cA N (fun j => .int (Int32.ofInt (g' j)))
  unfold arrV
  congr 2
  funext j
  show Value.int (Int32.ofInt (g j.val)) = Value.int (Int32.ofInt (g' j.val))
  rw [h j.val j.isLt]
section ZAEQ
variable {V : zV} {p : Program} {l : Launch} {e : Env} {R : Room} {s : State} {m : MethodId} {args : Array Value} {below : List Frame} {meth : Method} {c : Code} {D : va_G} {tys : List (ClassId × FieldType)} {tw : Nat → Nat} {A : Nat → Prop} {cc : ByteArray} {Ts : List Cond} {own : String} {nL : Nat} {ret : Option FieldType} {Q : State → Prop} {k n : Nat} {lv : List (Nat × Value)} {st : List Value} {pc : Nat} {ws : va_W}
/-- an array is what its own places hold -/
theorem z_aeq (C : zX V p l e R s m args below meth c D tys tw A cc Ts own nL ret Q) (q0 : Nat) {a : Nat} {cA : ClassId} {N : Nat} {g : Nat → Int} (g' : Nat → Int) (he : ws[q0]? = some (a, aI cA N g)) (h : ∀ i, i < N → g i = g' i) {ws' : va_W} (hw : ws.set q0 (a, aI cA N g') = ws') (kk : V k n ws' lv st pc) : V k n ws lv st pc := by
  obtain ⟨⟨hx, hb, hml, hown, hts⟩, hK, hE, hA, hr, hlk, rfl⟩ := C
  intro H locs ls hP hD hS hl
  subst hw
  refine kk H locs ls ?_ (hD.set he) hS hl
  refine hP.set hD he ?_ (fun _ _ => rfl)
  show H[a]? = some (vp_cell _ _)
  rw [← aI_cg h]
  exact hP q0 _ he
end ZAEQ
abbrev mkS : Type := Int × List Int × List Int
def bO (y z : Int) : Int :=
  if y = 0 then (if 2 ≤ z ∧ z ≤ 7 then 4 else if (8 ≤ z ∧ z ≤ 11) ∨ z = 64 ∨ z = 128 then 5 else if z = 1 ∨ (12 ≤ z ∧ z ≤ 17) then 6 else if 18 ≤ z ∧ z ≤ 27 then 7 else 8)
  else if (2 ≤ z ∧ z ≤ 3) ∨ z = 1 ∨ z = 4 then (if z = 2 ∨ z = 3 then 2 else 3) else if 5 ≤ z ∧ z ≤ 8 then (if z < 7 then 4 else 5) else if 9 ≤ z ∧ z ≤ 12 then 7 else if z = 0 ∨ (13 ≤ z ∧ z ≤ 20) then 9 else 12
def mkSt (y mn : Int) (z : Nat) (t : mkS) : mkS :=
  if isR (z : Int) = true then (if bO y (z : Int) = mn then (t.1 - 4096 / 2 ^ mn.toNat, t.2.1.set (704 * y + z).toNat ((t.1 - 4096 / 2 ^ mn.toNat) / 2 ^ (12 - mn).toNat), t.2.2.set (704 * y + z).toNat mn) else t) else t
def mkIn (y mn : Int) : Nat → mkS → mkS
  | 0, t => t
  | n + 1, t => mkSt y mn n (mkIn y mn n t)
def mkOut (y : Int) (lc lb : List Int) : Nat → mkS
  | 0 => (4096, lc, lb)
  | n + 1 => mkIn y ((n : Int) + 1) 641 (mkOut y lc lb n)
def okM (x : Int) (t : mkS) : Prop := (4096 - 2048 * x ≤ t.1 ∧ t.1 ≤ 4096) ∧ t.2.1.length = 1408 ∧ t.2.2.length = 1408
theorem okM_st (y : Int) {mn x : Int} (z : Nat) {t : mkS} (h1 : 1 ≤ mn ∧ mn ≤ 12) (h : okM x t) : okM (x + 1) (mkSt y mn z t) := by
  obtain ⟨a1, a2, a3⟩ := h
  have hp : (4096 : Int) / 2 ^ mn.toNat ≤ 2048 ∧ 0 ≤ (4096 : Int) / 2 ^ mn.toNat := by
    rcases (by omega : mn = 1 ∨ mn = 2 ∨ mn = 3 ∨ mn = 4 ∨ mn = 5 ∨ mn = 6 ∨ mn = 7 ∨ mn = 8 ∨ mn = 9 ∨ mn = 10 ∨ mn = 11 ∨ mn = 12) with e | e | e | e | e | e | e | e | e | e | e | e <;> rw [e] <;> decide
  unfold mkSt
  split
  · split
    · refine ⟨?_, ?_, ?_⟩
      · dsimp only; omega
      · show (List.set _ _ _).length = 1408
        rw [List.length_set]; exact a2
      · show (List.set _ _ _).length = 1408
        rw [List.length_set]; exact a3
    · exact ⟨by omega, a2, a3⟩
  · exact ⟨by omega, a2, a3⟩
theorem okM_in (y : Int) {mn x : Int} (h1 : 1 ≤ mn ∧ mn ≤ 12) {t : mkS} (h : okM x t) : ∀ n : Nat, okM (x + n) (mkIn y mn n t)
  | 0 => by rw [Int.natCast_zero, Int.add_zero]; exact h
  | n + 1 => by
    have := okM_st y n h1 (okM_in y h1 h n)
    rw [Int.natCast_add, ← Int.add_assoc]; exact this
theorem okM_out (y : Int) {lc lb : List Int} (hc : lc.length = 1408) (hb : lb.length = 1408) : ∀ n : Nat, n ≤ 12 → okM (641 * n) (mkOut y lc lb n)
  | 0, _ => ⟨⟨by dsimp only [mkOut]; omega, by dsimp only [mkOut]; omega⟩, hc, hb⟩
  | n + 1, h => by
    have := okM_in y (mn := (n : Int) + 1) (by omega) (okM_out y hc hb n (by omega)) 641
    rw [show (641 * ((n + 1 : Nat) : Int)) = 641 * (n : Int) + ((641 : Nat) : Int) by omega]; exact this
def mk0 : List Int := List.replicate 1408 0
set_option maxRecDepth 100000 in
theorem mk_end : (mkOut 1 (mkOut 0 mk0 mk0 12).2.1 (mkOut 0 mk0 mk0 12).2.2 12).2 = ((List.range 1408).map mC, (List.range 1408).map mB) := by decide +kernel
