theorem kdOf_rg (z : Int) : 0 ≤ kdOf z ∧ kdOf z ≤ 2 := by unfold kdOf; split <;> (try split) <;> omega
theorem coOf_rg (z : Int) : 1 ≤ coOf z ∧ coOf z ≤ 700 := by unfold coOf; split <;> (try split) <;> omega
theorem lw_i7 : ∀ w ∈ u_ws RX7 TX7 8, w ∈ lw_tbl := lw_u9.1
theorem lw_i8 : ∀ w ∈ u_ws RX8 TX8 22, w ∈ lw_tbl := lw_u10.1
theorem lw_l1 : Cond.classLink RL 8 RX7 ∈ lw_tbl ∧ Cond.initialized RX7 ∈ lw_tbl ∧ Cond.instanceMethod yX7_init ∈ lw_tbl ∧ Cond.methodLink RL 60 yX7_init ∈ lw_tbl ∧ Cond.classLink RL 63 RX8 ∈ lw_tbl ∧ Cond.initialized RX8 ∈ lw_tbl ∧ Cond.instanceMethod yX8_init ∈ lw_tbl ∧ Cond.methodLink RL 65 yX8_init ∈ lw_tbl ∧ Cond.arrayClass .long ∈ lw_tbl := by decide +kernel
theorem lw_l2 : Cond.instantiable RX7 8 ∈ lw_tbl ∧ Cond.instantiable RX8 22 ∈ lw_tbl := by decide +kernel
set_option maxHeartbeats 4000000 in
set_option maxRecDepth 100000 in
theorem whole_start {p : Program} {e : Env} {s : State} {m : MethodId} {below : List Frame} {meth : Method} {c : Code} (l : Launch) (hflags : l.flags = flags0) {b L : Nat} {xs : Nat → Int32} (hL : L ≤ 322) (C0 : lw_At p s m meth c b L xs) : W p l e room_1 s m #[Value.ref b] below meth c s.heap [] 0 0 (lw_Z below #[Value.ref b] s) (entryFrame m ([Value.ref b] : List Value).toArray 7) := by
  obtain ⟨hx, hb, hr, hml, hown, hts, hX, hbl, hlocks, hgv⟩ := C0
  have hl9 : l.stackTraces = false := by
    unfold Launch.stackTraces
    rw [hflags]
    rfl
  have hs : ∀ w ∈ lw_gv, w.before #[Value.ref b] s = true := flat_of_before _ hgv
  have hA : ∀ a : Nat, a < s.heap.size → ¬ (fun q : Nat => s.heap.size ≤ q) a := fun a h => Nat.not_le.mpr h
  obtain ⟨D, cy, hK⟩ := lw_K hts
  obtain ⟨tw, hE⟩ := lw_E (A := fun q : Nat => s.heap.size ≤ q) hA hts hs
  obtain ⟨sr, XL⟩ := lw_X (A := fun q : Nat => s.heap.size ≤ q) hA hts hs
  have hP0 : va_P D vwCl [] s.heap := fun k q h => by simp at h
  have hD0 : va_D (fun q : Nat => s.heap.size ≤ q) [] := ⟨fun i j p q h => by simp at h, fun k q h => by simp at h⟩
  have hl := lv_entry ([.ref b]) (n := 7) (Nat.le_of_ble_eq_true rfl)
  rw [lg_entry_eq]
  generalize (lg_sl ([.ref b]) ++ List.replicate (7 - (lg_sl ([.ref b])).length) Slot.unset).toArray = ls at hl ⊢
  have hl : lv_has ls 7 [(0, .ref b)] := hl
  obtain ⟨V, hV⟩ : ∃ V : zV, V = fun k n ws lv st pc => ∀ (H : Heap) (locs : List Loc) (ls : Array Slot), va_P D vwCl ws H → va_D (fun q : Nat => s.heap.size ≤ q) ws → va_S (fun q : Nat => s.heap.size ≤ q) s.heap H locs → lv_has ls 7 lv → W p l e room_1 s m #[Value.ref b] below meth c H locs k n (lw_Z below #[Value.ref b] s) (F0 m pc ls st) := ⟨_, rfl⟩
  have C : zX V p l e room_1 s m #[Value.ref b] below meth c D (zT cy) tw (fun q : Nat => s.heap.size ≤ q) cL_law lw_tbl RL 7 ret (lw_Z below #[Value.ref b] s) := ⟨⟨hx, hb, hml, hown, hts⟩, hK, hE, fun q h => h, hr, hlocks, hV⟩
  have END : ∀ (k n : Nat) (ws : va_W) (lv : List (Nat × Value)), k ≤ 600384 → n ≤ 7290968 → V k n ws lv [] 955 := by
    intro k n ws lv h1 h2
    refine z_iconst C (z := 1) dL_law_955 ?_
    rw [hV]
    intro H locs ls hP hD hS hl
    exact va_forget hS.2.2 (W.widen h1 h2 (lw_ret hx hb hr hlocks dL_law_956))
  suffices h : V 0 0 [] [(0, .ref b)] [] 0 by
    rw [hV] at h
    exact h s.heap [] ls hP0 hD0 va_S.rf hl
  obtain ⟨zx, ezx⟩ : ∃ zx : Nat → Int, zx = fun j => (xs j).toInt := ⟨_, rfl⟩
  have hX9 : va_X b L (fun j => Int32.ofInt (zx j)) s s.heap := by
    have e : (fun j => Int32.ofInt (zx j)) = xs := by rw [ezx]; exact funext fun j => Int32.ofInt_toInt _
    rw [e]; exact hX
  have hzx : ∀ j, -2147483648 ≤ zx j ∧ zx j < 2147483648 := fun j => by
    have h1 := Int32.le_toInt (xs j)
    have h2 := Int32.toInt_lt (xs j)
    rw [ezx]
    show -2147483648 ≤ (xs j).toInt ∧ (xs j).toInt < 2147483648
    omega
  have hbA : ¬ (fun q : Nat => s.heap.size ≤ q) b := hA b hbl
  have hN : (L : Int) ≤ 322 := by omega
  have HL : LC V p l e s m #[Value.ref b] below meth c D cy tw sr (fun q : Nat => s.heap.size ≤ q) (lw_Z below #[Value.ref b] s) b L zx := ⟨C, XL, hX9, hbl, hbA, hN, hzx, hl9⟩
  obtain ⟨kz, ekz⟩ : ∃ z : Int, z = if (0 : Int) < (L : Int) then zx (0 : Int).toNat else 0 := ⟨_, rfl⟩
  have hkz : -2147483648 ≤ kz ∧ kz < 2147483648 := by rw [ekz]; split; exact hzx _; decide
  have Mkz : zMetC l yL_cell wsL_cell { frames := 0, cells := 0, slots := 0, locals := 0 } D (zT cy) tw b L zx [.ref b, vI 0] kz := by rw [ekz]; exact c_L_cell l D cy tw b L zx hN 0 (by decide)
  obtain ⟨cz, ecz⟩ : ∃ z : Int, z = if (1 : Int) < (L : Int) then zx (1 : Int).toNat else 0 := ⟨_, rfl⟩
  have hcz : -2147483648 ≤ cz ∧ cz < 2147483648 := by rw [ecz]; split; exact hzx _; decide
  have Mcz : zMetC l yL_cell wsL_cell { frames := 0, cells := 0, slots := 0, locals := 0 } D (zT cy) tw b L zx [.ref b, vI 1] cz := by rw [ecz]; exact c_L_cell l D cy tw b L zx hN 1 (by decide)
  refine z_new C lw_i7 tyX7 tyX7_ok (ci := 9) rfl [.null, .null, .null, .null, .null, .null, .null, .null] lw_l1.1 lw_l2.1 lw_l1.2.1 (fun j hj => by rcases (by omega : j = 0 ∨ j = 1 ∨ j = 2 ∨ j = 3 ∨ j = 4 ∨ j = 5 ∨ j = 6 ∨ j = 7) with rfl | rfl | rfl | rfl | rfl | rfl | rfl | rfl <;> rfl) (Nat.le_of_ble_eq_true rfl) (Nat.le_of_ble_eq_true rfl) dL_law_0 (fun q1 => ?_)
  show V 1 8 [(q1, .inr (9, [.null, .null, .null, .null, .null, .null, .null, .null]))] [(0, .ref b)] [.ref q1] 3
  refine z_dup C dL_law_3 rfl ?_
  refine z_aload_n C dL_law_4 0 rfl ?_
  refine z_iconst C (z := 0) dL_law_5 ?_
  refine z_callC C (As := [.ref b, vI 0]) (st := [.ref q1, .ref q1]) Mkz hX9 hbl hbA (goodIn_mo wsL_law_in gL_law_L_cell) kn_L_cell ⟨rfl, rfl, Nat.le_of_ble_eq_true rfl, Nat.le_of_ble_eq_true rfl⟩ rfl (Nat.le_of_ble_eq_true rfl) ⟨Nat.le_of_ble_eq_true rfl, Nat.le_of_ble_eq_true rfl⟩ dL_law_6 ?_
  refine z_aload_n C dL_law_9 0 rfl ?_
  refine z_iconst C (z := 1) dL_law_10 ?_
  refine z_callC C (As := [.ref b, vI 1]) (st := [vI kz, .ref q1, .ref q1]) Mcz hX9 hbl hbA (goodIn_mo wsL_law_in gL_law_L_cell) kn_L_cell ⟨rfl, rfl, Nat.le_of_ble_eq_true rfl, Nat.le_of_ble_eq_true rfl⟩ rfl (Nat.le_of_ble_eq_true rfl) ⟨Nat.le_of_ble_eq_true rfl, Nat.le_of_ble_eq_true rfl⟩ dL_law_11 ?_
  show V 1 8 (([] ++ [(q1, .inr (9, [.null, .null, .null, .null, .null, .null, .null, .null]))]) ++ []) [(0, .ref b)] ([vI kz, vI cz].reverse ++ .ref q1 :: [.ref q1]) 14
  refine z_callIF C (X := []) (W0 := [(q1, .inr (9, [.null, .null, .null, .null, .null, .null, .null, .null]))]) (Y := []) (As := [vI kz, vI cz]) (st := [.ref q1]) (c_X7_init l D cy tw q1 kz cz hkz hcz) (fun _ _ => rfl) (goodIn_mo wsL_law_in gL_law_X7_init) kn_X7_init lw_l1.2.1 lw_l1.2.2.1 lw_l1.2.2.2.1 rfl ⟨rfl, rfl, Nat.le_of_ble_eq_true rfl, Nat.le_of_ble_eq_true rfl⟩ rfl (Nat.le_of_ble_eq_true rfl) ⟨Nat.le_of_ble_eq_true rfl, Nat.le_of_ble_eq_true rfl⟩ dL_law_14 (fun u hu => ?_)
  rw [← hu]
  show V 21 16221 (CW cy u (kdOf kz) (coOf cz) false false false false 0 (fun _ => 0#64) (fun _ => 0) 0 0 (fun _ => 0) (fun _ => 0#64) 0 0 false 0 false) [(0, .ref b)] [.ref (u 0)] 17
  refine z_astore_n C (lv' := [(1, .ref (u 0)), (0, .ref b)]) dL_law_17 rfl (by decide) rfl ?_
  refine z_new C lw_i8 tyX8 tyX8_ok (ci := 10) rfl [vI 0, vI 0, vI 0, .null, .null, .null, vI 0, .null, .null, vI 0, .null, vI 0, .null, vI 0, vI 0, vI 0, vI 0, vI 0, vI 0, vI 0, vI 0, vI 0] lw_l1.2.2.2.2.1 lw_l2.2 lw_l1.2.2.2.2.2.1 (fun j hj => by rcases (by omega : j = 0 ∨ j = 1 ∨ j = 2 ∨ j = 3 ∨ j = 4 ∨ j = 5 ∨ j = 6 ∨ j = 7 ∨ j = 8 ∨ j = 9 ∨ j = 10 ∨ j = 11 ∨ j = 12 ∨ j = 13 ∨ j = 14 ∨ j = 15 ∨ j = 16 ∨ j = 17 ∨ j = 18 ∨ j = 19 ∨ j = 20 ∨ j = 21) with rfl | rfl | rfl | rfl | rfl | rfl | rfl | rfl | rfl | rfl | rfl | rfl | rfl | rfl | rfl | rfl | rfl | rfl | rfl | rfl | rfl | rfl <;> rfl) (Nat.le_of_ble_eq_true rfl) (Nat.le_of_ble_eq_true rfl) dL_law_18 (fun q2 => ?_)
  show V 22 16243 (CW cy u (kdOf kz) (coOf cz) false false false false 0 (fun _ => 0#64) (fun _ => 0) 0 0 (fun _ => 0) (fun _ => 0#64) 0 0 false 0 false ++ [(q2, .inr (10, [vI 0, vI 0, vI 0, .null, .null, .null, vI 0, .null, .null, vI 0, .null, vI 0, .null, vI 0, vI 0, vI 0, vI 0, vI 0, vI 0, vI 0, vI 0, vI 0]))]) [(1, .ref (u 0)), (0, .ref b)] [.ref q2] 21
  refine z_dup C dL_law_21 rfl ?_
  refine z_aload_n C dL_law_22 1 rfl ?_
  refine z_iconst C (z := 0) dL_law_23 ?_
  refine z_callC C (As := [.ref b, vI 0]) (st := [.ref q2, .ref q2]) Mkz hX9 hbl hbA (goodIn_mo wsL_law_in gL_law_L_cell) kn_L_cell ⟨rfl, rfl, Nat.le_of_ble_eq_true rfl, Nat.le_of_ble_eq_true rfl⟩ rfl (Nat.le_of_ble_eq_true rfl) ⟨Nat.le_of_ble_eq_true rfl, Nat.le_of_ble_eq_true rfl⟩ dL_law_24 ?_
  refine z_aload_n C dL_law_27 1 rfl ?_
  refine z_iconst C (z := 1) dL_law_28 ?_
  refine z_callC C (As := [.ref b, vI 1]) (st := [vI kz, .ref q2, .ref q2]) Mcz hX9 hbl hbA (goodIn_mo wsL_law_in gL_law_L_cell) kn_L_cell ⟨rfl, rfl, Nat.le_of_ble_eq_true rfl, Nat.le_of_ble_eq_true rfl⟩ rfl (Nat.le_of_ble_eq_true rfl) ⟨Nat.le_of_ble_eq_true rfl, Nat.le_of_ble_eq_true rfl⟩ dL_law_29 ?_
  show V 22 16243 ((CW cy u (kdOf kz) (coOf cz) false false false false 0 (fun _ => 0#64) (fun _ => 0) 0 0 (fun _ => 0) (fun _ => 0#64) 0 0 false 0 false ++ [(q2, .inr (10, [vI 0, vI 0, vI 0, .null, .null, .null, vI 0, .null, .null, vI 0, .null, vI 0, .null, vI 0, vI 0, vI 0, vI 0, vI 0, vI 0, vI 0, vI 0, vI 0]))]) ++ []) [(1, .ref (u 0)), (0, .ref b)] ([vI kz, vI cz].reverse ++ .ref q2 :: [.ref q2]) 32
  refine z_callIF C (X := CW cy u (kdOf kz) (coOf cz) false false false false 0 (fun _ => 0#64) (fun _ => 0) 0 0 (fun _ => 0) (fun _ => 0#64) 0 0 false 0 false) (W0 := [(q2, .inr (10, [vI 0, vI 0, vI 0, .null, .null, .null, vI 0, .null, .null, vI 0, .null, vI 0, .null, vI 0, vI 0, vI 0, vI 0, vI 0, vI 0, vI 0, vI 0, vI 0]))]) (Y := []) (As := [vI kz, vI cz]) (st := [.ref q2]) (c_X8_init l D cy tw q2 kz cz hkz hcz) (fun _ _ => rfl) (goodIn_mo wsL_law_in gL_law_X8_init) kn_X8_init lw_l1.2.2.2.2.2.1 lw_l1.2.2.2.2.2.2.1 lw_l1.2.2.2.2.2.2.2.1 rfl ⟨rfl, rfl, Nat.le_of_ble_eq_true rfl, Nat.le_of_ble_eq_true rfl⟩ rfl (Nat.le_of_ble_eq_true rfl) ⟨Nat.le_of_ble_eq_true rfl, Nat.le_of_ble_eq_true rfl⟩ dL_law_32 (fun v hv => ?_)
  rw [← hv]
  show V 29 176287 (CW cy u (kdOf kz) (coOf cz) false false false false 0 (fun _ => 0#64) (fun _ => 0) 0 0 (fun _ => 0) (fun _ => 0#64) 0 0 false 0 false ++ MW cy v (kdOf kz) (coOf cz) 0 0 0 0 0 0 0 0 false false 0 0 false (fun _ => false) (fun _ => false) (fun _ => 0) (fun _ => 0) (fun _ => false)) [(1, .ref (u 0)), (0, .ref b)] [.ref (v 0)] 35
  refine z_astore_n C (lv' := [(2, .ref (v 0)), (1, .ref (u 0)), (0, .ref b)]) dL_law_35 rfl (by decide) rfl ?_
  refine z_iconst C (z := 1) dL_law_36 ?_
  refine z_newaJ C 1 rfl (by decide) lw_l1.2.2.2.2.2.2.2.2 2 rfl (Nat.le_of_ble_eq_true rfl) (Nat.le_of_ble_eq_true rfl) dL_law_37 (fun o => ?_)
  show V 30 176288 ((CW cy u (kdOf kz) (coOf cz) false false false false 0 (fun _ => 0#64) (fun _ => 0) 0 0 (fun _ => 0) (fun _ => 0#64) 0 0 false 0 false ++ MW cy v (kdOf kz) (coOf cz) 0 0 0 0 0 0 0 0 false false 0 0 false (fun _ => false) (fun _ => false) (fun _ => 0) (fun _ => 0) (fun _ => false)) ++ [(o, aJ (cy 2) 1 (fun _ => 0#64))]) [(2, .ref (v 0)), (1, .ref (u 0)), (0, .ref b)] [.ref o] 39
  refine z_astore_n C (lv' := [(3, .ref o), (2, .ref (v 0)), (1, .ref (u 0)), (0, .ref b)]) dL_law_39 rfl (by decide) rfl ?_
  refine z_iconst C (z := 2) dL_law_40 ?_
  refine z_istore C (lv' := [(4, vI 2), (3, .ref o), (2, .ref (v 0)), (1, .ref (u 0)), (0, .ref b)]) dL_law_41 (by decide) rfl ?_
  refine z_lsub C [4, 3, 2, 1, 0] rfl ?_
  refine z_psub C (ws' := ([(o, aJ (cy 2) 1 (fun _ => 0#64))] ++ CW cy u (kdOf kz) (coOf cz) false false false false 0 (fun _ => 0#64) (fun _ => 0) 0 0 (fun _ => 0) (fun _ => 0#64) 0 0 false 0 false) ++ MW cy v (kdOf kz) (coOf cz) 0 0 0 0 0 0 0 0 false false 0 0 false (fun _ => false) (fun _ => false) (fun _ => 0) (fun _ => 0) (fun _ => false)) [29, 0, 1, 2, 3, 4, 5, 6, 7, 8, 9, 10, 11, 12, 13, 14, 15, 16, 17, 18, 19, 20, 21, 22, 23, 24, 25, 26, 27, 28] rfl (by decide) rfl ?_
  show V 30 176288 (([(o, aJ (cy 2) 1 (fun _ => 0#64))] ++ CW cy u (kdOf kz) (coOf cz) false false false false 0 (fun _ => 0#64) (fun _ => 0) 0 0 (fun _ => 0) (fun _ => 0#64) ((([] : List Bool).length : Nat) : Int) 0 false 0 false) ++ MW cy v (kdOf kz) (coOf cz) 0 0 0 ((([] : List Bool).length : Nat) : Int) 0 0 0 0 false false 0 0 false (fun _ => false) (fun _ => false) (fun _ => 0) (fun _ => 0) (fun _ => false)) [(0, .ref b), (1, .ref (u 0)), (2, .ref (v 0)), (3, .ref o), (4, vI 2)] [] 43
  exact lw_loop HL u v o END 1000 30 176288 2 _ _ _ _ _ _ _ _ _ _ _ _ _ _ _ _ _ _ _ _ _ _ _ _ _ _ _ _ _ _ (by decide) (by decide) (by omega) (LI_mk ⟨kdOf_rg kz, coOf_rg cz⟩ (by decide) (by decide) (by decide) (by decide) ⟨rfl, rfl, rfl, rfl⟩ (fun r j h1 h2 _ => by rw [show r = -1 by omega, px_neg', pd_m1]) (fun i hi => absurd hi (by omega)) ⟨fun i hi => absurd hi (by omega), fun j => by decide⟩ ⟨OR_nil _, OZ_nil _, rfl, by have := coOf_rg cz; show (0 : Int) ≤ _; omega⟩)
