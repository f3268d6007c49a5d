theorem fmk_zer (I : Int → Bool) (T i z : Int) : fmk I T i z = if zer I T i < T - i then (if 11 ≤ z + zer I T i then i + zer I T i + 1 else fmk I T (i + zer I T i + 1) 0) else -1 := by
  rcases Int.lt_or_le i T with h | h
  · cases hI : I i with
    | true =>
      rw [zer_lt h hI, if_pos (by omega)]
      by_cases h1 : 11 ≤ z
      · rw [fmk_hit h hI h1, if_pos (by omega), Int.add_zero]
      · rw [fmk_one h hI h1, if_neg (by omega), Int.add_zero]
    | false =>
      rw [fmk_zero h hI, fmk_zer I T (i + 1) (z + 1), zer_st h hI]
      have e1 : i + 1 + zer I T (i + 1) + 1 = i + (1 + zer I T (i + 1)) + 1 := by omega
      by_cases h1 : zer I T (i + 1) < T - (i + 1)
      · rw [if_pos h1, if_pos (show 1 + zer I T (i + 1) < T - i by omega)]
        by_cases h2 : 11 ≤ z + 1 + zer I T (i + 1)
        · rw [if_pos h2, if_pos (show 11 ≤ z + (1 + zer I T (i + 1)) by omega), e1]
        · rw [if_neg h2, if_neg (show ¬ 11 ≤ z + (1 + zer I T (i + 1)) by omega), e1]
      · rw [if_neg h1, if_neg (show ¬ 1 + zer I T (i + 1) < T - i by omega)]
  · rw [fmk_end h, if_neg]
    rw [zer_ge h]; omega
termination_by (T - i).toNat
decreasing_by omega
def zr (I : Int → Bool) (T p : Int) : Int := if zer I T p < T - p then zer I T p else -1
theorem kn_X8_left : zKn yX8_left wsX8_left cX8_left 1 (some .int) 0 := ⟨⟨_, rfl⟩, by decide +kernel, by decide +kernel, by decide +kernel⟩
set_option maxHeartbeats 400000 in
set_option maxRecDepth 100000 in
theorem c_X8_left (l : Launch) (D : va_G) (cy : Nat → ClassId) (tw : Nat → Nat) (b : Nat → Nat) (kd : Int) (co : Int) (th : Int) (rw : Int) (cl : Int) (wr : Int) (po : Int) (dm : Int) (sx : Int) (aa : Int) (dk : Bool) (fi : Bool) (bb : Int) (cz : Int) (hm : Bool) (se : Nat → Bool) (da : Nat → Bool) (sa : Nat → Int) (bt : Nat → Int) (oz : Nat → Bool)    : zMet l yX8_left wsX8_left { frames := 0, cells := 0, slots := 0, locals := 0 } D (zT cy) tw (MW cy b kd co th rw cl wr po dm sx aa dk fi bb cz hm se da sa bt oz) [.ref (b 0)] 0 0 (S := Unit) (fun _ => some (vI (8 * cl - po))) (fun _ => MW cy b kd co th rw cl wr po dm sx aa dk fi bb cz hm se da sa bt oz) (fun _ => True) := by
  refine z_met (cc := cX8_left) (nL := 1) (ret := some .int) (by decide +kernel) rfl (Nat.le_of_ble_eq_true rfl) (lv := [(0, .ref (b 0))]) rfl ?_
  intro V p_ e_ s_ m_ args_ below_ meth_ c_ A_ C hmn
  have hinX8 : ∀ w ∈ u_ws RX8 TX8 22, w ∈ wsX8_left := by decide +kernel
  have k0 : Cond.fieldLink RX8 63 "FaxFilterModel" "collected" "I" ∈ wsX8_left := List.mem_of_getElem? (i := 1) rfl
  have k1 : Cond.fieldLink RX8 69 "FaxFilterModel" "place" "I" ∈ wsX8_left := List.mem_of_getElem? (i := 2) rfl
  refine z_bipush C (z := 8) dX8_left_0 (by decide) ?_
  refine z_aload_n C dX8_left_2 0 rfl ?_
  refine z_get C hinX8 (ci := 10) rfl 0 rfl 9 (by decide) k0 rfl (v := vI cl) rfl dX8_left_3 ?_
  refine z_imul C dX8_left_6 ?_
  refine z_aload_n C dX8_left_7 0 rfl ?_
  refine z_get C hinX8 (ci := 10) rfl 0 rfl 13 (by decide) k1 rfl (v := vI po) rfl dX8_left_8 ?_
  refine z_isub C dX8_left_11 ?_
  refine z_iret (x := ((8 * cl) - po)) C dX8_left_12 () ?_ ?_ ?_ (by decide) (by decide)
  · exact rfl
  · exact trivial
  · exact rfl
theorem kn_X8_bitAt : zKn yX8_bitAt wsX8_bitAt cX8_bitAt 2 (some .int) 1 := ⟨⟨_, rfl⟩, by decide +kernel, by decide +kernel, by decide +kernel⟩
set_option maxHeartbeats 400000 in
set_option maxRecDepth 100000 in
theorem c_X8_bitAt (l : Launch) (D : va_G) (cy : Nat → ClassId) (tw : Nat → Nat) (b : Nat → Nat) (kd : Int) (co : Int) (th : Int) (rw : Int) (cl : Int) (wr : Int) (po : Int) (dm : Int) (sx : Int) (aa : Int) (dk : Bool) (fi : Bool) (bb : Int) (cz : Int) (hm : Bool) (se : Nat → Bool) (da : Nat → Bool) (sa : Nat → Int) (bt : Nat → Int) (oz : Nat → Bool) (p : Int)  (hcl : 0 ≤ cl ∧ cl ≤ 400) (hbt : ∀ j : Nat, 0 ≤ bt j ∧ bt j < 256) (hp : 0 ≤ p ∧ p < 8 * cl) : zMet l yX8_bitAt wsX8_bitAt { frames := 0, cells := 0, slots := 0, locals := 0 } D (zT cy) tw (MW cy b kd co th rw cl wr po dm sx aa dk fi bb cz hm se da sa bt oz) [.ref (b 0), vI p] 0 0 (S := Unit) (fun _ => some (vI (bitC bt cl p))) (fun _ => MW cy b kd co th rw cl wr po dm sx aa dk fi bb cz hm se da sa bt oz) (fun _ => True) := by
  refine z_met (cc := cX8_bitAt) (nL := 2) (ret := some .int) (by decide +kernel) rfl (Nat.le_of_ble_eq_true rfl) (lv := [(0, .ref (b 0)), (1, vI p)]) rfl ?_
  intro V p_ e_ s_ m_ args_ below_ meth_ c_ A_ C hmn
  have hinX8 : ∀ w ∈ u_ws RX8 TX8 22, w ∈ wsX8_bitAt := by decide +kernel
  have k0 : Cond.fieldLink RX8 26 "FaxFilterModel" "bytes" "[I" ∈ wsX8_bitAt := List.mem_of_getElem? (i := 1) rfl
  have hb := hbt (p / 8 : Int).toNat
  have hd9 : 0 ≤ bt (p / 8 : Int).toNat / 2 ^ (7 - p % 8).toNat := Int.ediv_nonneg hb.1 (Int.le_of_lt (Int.pow_pos (by decide)))
  have hd8 : bt (p / 8 : Int).toNat / 2 ^ (7 - p % 8).toNat ≤ bt (p / 8 : Int).toNat := Int.ediv_le_self _ hb.1
  refine z_aload_n C dX8_bitAt_0 0 rfl ?_
  refine z_get C hinX8 (ci := 10) rfl 0 rfl 10 (by decide) k0 rfl (v := .ref (b 6)) rfl dX8_bitAt_1 ?_
  refine z_iload_n C dX8_bitAt_4 1 rfl ?_
  refine z_bipush C (z := 8) dX8_bitAt_5 (by decide) ?_
  refine z_idiv C dX8_bitAt_7 (by omega) (by decide) ?_
  refine z_iald C 6 1 (g := bt) rfl rfl (by omega) (by omega) (by decide) dX8_bitAt_8 ?_
  refine z_bipush C (z := 7) dX8_bitAt_9 (by decide) ?_
  refine z_iload_n C dX8_bitAt_11 1 rfl ?_
  refine z_bipush C (z := 8) dX8_bitAt_12 (by decide) ?_
  refine z_irem C dX8_bitAt_14 (by omega) (by decide) ?_
  refine z_isub C dX8_bitAt_15 ?_
  refine z_ishr C ((7 - (p % 8)).toNat) dX8_bitAt_16 (by omega) (by omega) (by omega) ?_
  refine z_iconst C (z := 1) dX8_bitAt_17 ?_
  refine z_iand C 1 dX8_bitAt_18 (by decide) (by decide) ?_
  refine z_iret (x := (((bt (p / 8 : Int).toNat) / 2 ^ (7 - (p % 8)).toNat) % 2 ^ 1)) C dX8_bitAt_19 () ?_ ?_ ?_ (by decide) (by decide)
  · rw [bitC, byC, if_pos (by omega), Int.emod_eq_of_lt hb.1 hb.2]
  · exact trivial
  · exact rfl
theorem kn_X8_zeros : zKn yX8_zeros wsX8_zeros cX8_zeros 2 (some .int) 0 := ⟨⟨_, rfl⟩, by decide +kernel, by decide +kernel, by decide +kernel⟩
set_option maxHeartbeats 400000 in
set_option maxRecDepth 100000 in
theorem c_X8_zeros (l : Launch) (D : va_G) (cy : Nat → ClassId) (tw : Nat → Nat) (b : Nat → Nat) (kd : Int) (co : Int) (th : Int) (rw : Int) (cl : Int) (wr : Int) (po : Int) (dm : Int) (sx : Int) (aa : Int) (dk : Bool) (fi : Bool) (bb : Int) (cz : Int) (hm : Bool) (se : Nat → Bool) (da : Nat → Bool) (sa : Nat → Int) (bt : Nat → Int) (oz : Nat → Bool)   (hcl : 0 ≤ cl ∧ cl ≤ 400) (hbt : ∀ j : Nat, 0 ≤ bt j ∧ bt j < 256) (hpo : 0 ≤ po ∧ po ≤ 8 * cl) : zMet l yX8_zeros wsX8_zeros { frames := 1, cells := 0, slots := 0, locals := 21 } D (zT cy) tw (MW cy b kd co th rw cl wr po dm sx aa dk fi bb cz hm se da sa bt oz) [.ref (b 0)] 0 0 (S := Unit) (fun _ => some (vI (zr (inC bt cl) (8 * cl) po))) (fun _ => MW cy b kd co th rw cl wr po dm sx aa dk fi bb cz hm se da sa bt oz) (fun _ => True) := by
  refine z_met (cc := cX8_zeros) (nL := 2) (ret := some .int) (by decide +kernel) rfl (Nat.le_of_ble_eq_true rfl) (lv := [(0, .ref (b 0))]) rfl ?_
  intro V p_ e_ s_ m_ args_ below_ meth_ c_ A_ C hmn
  have hinX8 : ∀ w ∈ u_ws RX8 TX8 22, w ∈ wsX8_zeros := by decide +kernel
  have k0 : Cond.fieldLink RX8 69 "FaxFilterModel" "place" "I" ∈ wsX8_zeros := List.mem_of_getElem? (i := 1) rfl
  refine z_iconst C (z := 0) dX8_zeros_0 ?_
  refine z_istore_n C (lv' := [(1, vI 0), (0, .ref (b 0))]) dX8_zeros_1 rfl (by decide) rfl ?_
  have J2 : ∀ (f : Nat) (n : Int), (0 ≤ n ∧ po + n ≤ 8 * cl) → (zer (inC bt cl) (8 * cl) po = n + zer (inC bt cl) (8 * cl) (po + n)) → (8 * cl - n).toNat < f → V 0 0 (MW cy b kd co th rw cl wr po dm sx aa dk fi bb cz hm se da sa bt oz) [(0, .ref (b 0)), (1, vI n)] [] 2 := by
    intro f
    induction f with
    | zero => intro n i0 i1 hf; exact absurd hf (Nat.not_lt_zero _)
    | succ f ih =>
      intro n i0 i1 hf
      refine z_iload_n C dX8_zeros_2 1 rfl ?_
      refine z_aload_n C dX8_zeros_3 0 rfl ?_
      refine z_callV C (As := []) (st := [vI n]) (c_X8_left l D cy tw b kd co th rw cl wr po dm sx aa dk fi bb cz hm se da sa bt oz   ) gX8_zeros_X8_left kn_X8_left rfl ⟨rfl, rfl, Nat.le_of_ble_eq_true rfl, Nat.le_of_ble_eq_true rfl⟩ 0 rfl (ci := 10) rfl rfl (Nat.le_of_ble_eq_true rfl) ⟨Nat.le_of_ble_eq_true rfl, Nat.le_of_ble_eq_true rfl⟩ dX8_zeros_4 (fun u1 hu1 => ?_)
      clear hu1; clear u1
      show V 0 0 (MW cy b kd co th rw cl wr po dm sx aa dk fi bb cz hm se da sa bt oz) [(0, .ref (b 0)), (1, vI n)] [vI (8 * cl - po), vI n] 7
      refine z_icmp_ge C (by omega) (by omega) (tgt := 29) dX8_zeros_7 (by decide) (fun hc_2 => ?_) (fun hc_2 => ?_)
      · refine z_iload_n C dX8_zeros_29 1 rfl ?_
        refine z_aload_n C dX8_zeros_30 0 rfl ?_
        refine z_callV C (As := []) (st := [vI n]) (c_X8_left l D cy tw b kd co th rw cl wr po dm sx aa dk fi bb cz hm se da sa bt oz   ) gX8_zeros_X8_left kn_X8_left rfl ⟨rfl, rfl, Nat.le_of_ble_eq_true rfl, Nat.le_of_ble_eq_true rfl⟩ 0 rfl (ci := 10) rfl rfl (Nat.le_of_ble_eq_true rfl) ⟨Nat.le_of_ble_eq_true rfl, Nat.le_of_ble_eq_true rfl⟩ dX8_zeros_31 (fun u3 hu3 => ?_)
        clear hu3; clear u3
        show V 0 0 (MW cy b kd co th rw cl wr po dm sx aa dk fi bb cz hm se da sa bt oz) [(0, .ref (b 0)), (1, vI n)] [vI (8 * cl - po), vI n] 34
        refine z_icmp_ge C (by omega) (by omega) (tgt := 41) dX8_zeros_34 (by decide) (fun hc_4 => ?_) (fun hc_4 => ?_)
        · refine z_iconst C (z := (-1)) dX8_zeros_41 ?_
          refine z_iret (x := (-1)) C dX8_zeros_42 () ?_ ?_ ?_ (by decide) (by decide)
          · rw [zr, i1, zer_ge (by omega), if_neg (by omega)]
          · exact trivial
          · exact rfl
        · exfalso; omega
      · refine z_aload_n C dX8_zeros_10 0 rfl ?_
        refine z_aload_n C dX8_zeros_11 0 rfl ?_
        refine z_get C hinX8 (ci := 10) rfl 0 rfl 13 (by decide) k0 rfl (v := vI po) rfl dX8_zeros_12 ?_
        refine z_iload_n C dX8_zeros_15 1 rfl ?_
        refine z_iadd C dX8_zeros_16 ?_
        refine z_callV C (As := [vI (po + n)]) (st := []) (c_X8_bitAt l D cy tw b kd co th rw cl wr po dm sx aa dk fi bb cz hm se da sa bt oz (po + n)  (by omega) (hbt) (by omega)) gX8_zeros_X8_bitAt kn_X8_bitAt rfl ⟨rfl, rfl, Nat.le_of_ble_eq_true rfl, Nat.le_of_ble_eq_true rfl⟩ 0 rfl (ci := 10) rfl rfl (Nat.le_of_ble_eq_true rfl) ⟨Nat.le_of_ble_eq_true rfl, Nat.le_of_ble_eq_true rfl⟩ dX8_zeros_17 (fun u5 hu5 => ?_)
        clear hu5; clear u5
        show V 0 0 (MW cy b kd co th rw cl wr po dm sx aa dk fi bb cz hm se da sa bt oz) [(0, .ref (b 0)), (1, vI n)] [vI (bitC bt cl (po + n))] 20
        have h01 := bitC_01 bt cl (po + n)
        refine z_if_ne C (by omega) (tgt := 29) dX8_zeros_20 (by decide) (fun cb => ?_) (fun cb => ?_)
        · refine z_iload_n C dX8_zeros_29 1 rfl ?_
          refine z_aload_n C dX8_zeros_30 0 rfl ?_
          refine z_callV C (As := []) (st := [vI n]) (c_X8_left l D cy tw b kd co th rw cl wr po dm sx aa dk fi bb cz hm se da sa bt oz   ) gX8_zeros_X8_left kn_X8_left rfl ⟨rfl, rfl, Nat.le_of_ble_eq_true rfl, Nat.le_of_ble_eq_true rfl⟩ 0 rfl (ci := 10) rfl rfl (Nat.le_of_ble_eq_true rfl) ⟨Nat.le_of_ble_eq_true rfl, Nat.le_of_ble_eq_true rfl⟩ dX8_zeros_31 (fun u6 hu6 => ?_)
          clear hu6; clear u6
          show V 0 0 (MW cy b kd co th rw cl wr po dm sx aa dk fi bb cz hm se da sa bt oz) [(0, .ref (b 0)), (1, vI n)] [vI (8 * cl - po), vI n] 34
          refine z_icmp_ge C (by omega) (by omega) (tgt := 41) dX8_zeros_34 (by decide) (fun hc_7 => ?_) (fun hc_7 => ?_)
          · exfalso; omega
          · refine z_iload_n C dX8_zeros_37 1 rfl ?_
            refine z_goto C (tgt := 42) dX8_zeros_38 (by decide) ?_
            refine z_iret (x := n) C dX8_zeros_42 () ?_ ?_ ?_ (by decide) (by decide)
            · rw [zr, i1, zer_lt (by omega) (inC_t cb), if_pos (by omega), Int.add_zero]
            · exact trivial
            · exact rfl
        · refine z_iinc C (lv' := [(1, vI (n + 1)), (0, .ref (b 0))]) dX8_zeros_23 1 rfl (by decide) rfl ?_
          refine z_goto C (tgt := 2) dX8_zeros_26 (by decide) ?_
          refine z_lsub C [1, 0] rfl ?_
          exact ih (n + 1) (by omega) (by rw [i1, zer_st (by omega) (inC_f cb), ← Int.add_assoc]; rw [Int.add_assoc po n 1]) (by omega)
  refine z_lsub C [1, 0] rfl ?_
  exact J2 _ 0 (by omega) (by rw [Int.add_zero, Int.zero_add]) (Nat.lt_succ_self _)
theorem kn_X8_isMarkHere : zKn yX8_isMarkHere wsX8_isMarkHere cX8_isMarkHere 1 (some .boolean) 0 := ⟨⟨_, rfl⟩, by decide +kernel, by decide +kernel, by decide +kernel⟩
set_option maxHeartbeats 400000 in
set_option maxRecDepth 100000 in
theorem c_X8_isMarkHere (l : Launch) (D : va_G) (cy : Nat → ClassId) (tw : Nat → Nat) (b : Nat → Nat) (kd : Int) (co : Int) (th : Int) (rw : Int) (cl : Int) (wr : Int) (po : Int) (dm : Int) (sx : Int) (aa : Int) (dk : Bool) (fi : Bool) (bb : Int) (cz : Int) (hm : Bool) (se : Nat → Bool) (da : Nat → Bool) (sa : Nat → Int) (bt : Nat → Int) (oz : Nat → Bool)   (hcl : 0 ≤ cl ∧ cl ≤ 400) (hbt : ∀ j : Nat, 0 ≤ bt j ∧ bt j < 256) (hpo : 0 ≤ po ∧ po ≤ 8 * cl) : zMet l yX8_isMarkHere wsX8_isMarkHere { frames := 2, cells := 0, slots := 0, locals := 42 } D (zT cy) tw (MW cy b kd co th rw cl wr po dm sx aa dk fi bb cz hm se da sa bt oz) [.ref (b 0)] 0 0 (S := Unit) (fun _ => some (vI (b2i (isMk (inC bt cl) (8 * cl) po)))) (fun _ => MW cy b kd co th rw cl wr po dm sx aa dk fi bb cz hm se da sa bt oz) (fun _ => True) := by
  refine z_met (cc := cX8_isMarkHere) (nL := 1) (ret := some .boolean) (by decide +kernel) rfl (Nat.le_of_ble_eq_true rfl) (lv := [(0, .ref (b 0))]) rfl ?_
  intro V p_ e_ s_ m_ args_ below_ meth_ c_ A_ C hmn
  have hz := zer_rg (inC bt cl) (8 * cl) po (by omega)
  have hzr : -1 ≤ zr (inC bt cl) (8 * cl) po ∧ zr (inC bt cl) (8 * cl) po ≤ 4000 := by unfold zr; split <;> omega
  refine z_aload_n C dX8_isMarkHere_0 0 rfl ?_
  refine z_callV C (As := []) (st := []) (c_X8_zeros l D cy tw b kd co th rw cl wr po dm sx aa dk fi bb cz hm se da sa bt oz   (by omega) (hbt) (by omega)) gX8_isMarkHere_X8_zeros kn_X8_zeros rfl ⟨rfl, rfl, Nat.le_of_ble_eq_true rfl, Nat.le_of_ble_eq_true rfl⟩ 0 rfl (ci := 10) rfl rfl (Nat.le_of_ble_eq_true rfl) ⟨Nat.le_of_ble_eq_true rfl, Nat.le_of_ble_eq_true rfl⟩ dX8_isMarkHere_1 (fun u1 hu1 => ?_)
  clear hu1; clear u1
  show V 0 0 (MW cy b kd co th rw cl wr po dm sx aa dk fi bb cz hm se da sa bt oz) [(0, .ref (b 0))] [vI (zr (inC bt cl) (8 * cl) po)] 4
  refine z_bipush C (z := 11) dX8_isMarkHere_4 (by decide) ?_
  refine z_icmp_lt C (by omega) (by decide) (tgt := 13) dX8_isMarkHere_6 (by decide) (fun hc_2 => ?_) (fun hc_2 => ?_)
  · refine z_iconst C (z := 0) dX8_isMarkHere_13 ?_
    refine z_zret (b := false) C dX8_isMarkHere_14 () ?_ ?_ ?_ (by decide) (by decide)
    · rw [isMk]; rw [decide_eq_false (by unfold zr at *; split at * <;> omega)]
    · exact trivial
    · exact rfl
  · refine z_iconst C (z := 1) dX8_isMarkHere_9 ?_
    refine z_goto C (tgt := 14) dX8_isMarkHere_10 (by decide) ?_
    refine z_zret (b := true) C dX8_isMarkHere_14 () ?_ ?_ ?_ (by decide) (by decide)
    · rw [isMk]; rw [decide_eq_true (by unfold zr at *; split at * <;> omega)]
    · exact trivial
    · exact rfl
theorem kn_X8_findMark : zKn yX8_findMark wsX8_findMark cX8_findMark 2 (some .boolean) 0 := ⟨⟨_, rfl⟩, by decide +kernel, by decide +kernel, by decide +kernel⟩
set_option maxHeartbeats 1000000 in
set_option maxRecDepth 100000 in
theorem c_X8_findMark (l : Launch) (D : va_G) (cy : Nat → ClassId) (tw : Nat → Nat) (b : Nat → Nat) (kd : Int) (co : Int) (th : Int) (rw : Int) (cl : Int) (wr : Int) (po : Int) (dm : Int) (sx : Int) (aa : Int) (dk : Bool) (fi : Bool) (bb : Int) (cz : Int) (hm : Bool) (se : Nat → Bool) (da : Nat → Bool) (sa : Nat → Int) (bt : Nat → Int) (oz : Nat → Bool)   (hcl : 0 ≤ cl ∧ cl ≤ 400) (hbt : ∀ j : Nat, 0 ≤ bt j ∧ bt j < 256) (hpo : 0 ≤ po ∧ po ≤ 8 * cl) : zMet l yX8_findMark wsX8_findMark { frames := 2, cells := 0, slots := 0, locals := 42 } D (zT cy) tw (MW cy b kd co th rw cl wr po dm sx aa dk fi bb cz hm se da sa bt oz) [.ref (b 0)] 0 0 (S := Unit) (fun _ => some (vI (b2i (decide (0 ≤ fmk (inC bt cl) (8 * cl) po 0))))) (fun _ => MW cy b kd co th rw cl wr (if 0 ≤ fmk (inC bt cl) (8 * cl) po 0 then fmk (inC bt cl) (8 * cl) po 0 else 8 * cl) dm sx aa dk fi bb cz hm se da sa bt oz) (fun _ => True) := by
  refine z_met (cc := cX8_findMark) (nL := 2) (ret := some .boolean) (by decide +kernel) rfl (Nat.le_of_ble_eq_true rfl) (lv := [(0, .ref (b 0))]) rfl ?_
  intro V p_ e_ s_ m_ args_ below_ meth_ c_ A_ C hmn
  have hinX8 : ∀ w ∈ u_ws RX8 TX8 22, w ∈ wsX8_findMark := by decide +kernel
  have k0 : Cond.fieldLink RX8 63 "FaxFilterModel" "collected" "I" ∈ wsX8_findMark := List.mem_of_getElem? (i := 2) rfl
  have k1 : Cond.fieldLink RX8 69 "FaxFilterModel" "place" "I" ∈ wsX8_findMark := List.mem_of_getElem? (i := 1) rfl
  refine z_aload_n C dX8_findMark_0 0 rfl ?_
  refine z_callV C (As := []) (st := []) (c_X8_zeros l D cy tw b kd co th rw cl wr po dm sx aa dk fi bb cz hm se da sa bt oz   (by omega) (hbt) (by omega)) gX8_findMark_X8_zeros kn_X8_zeros rfl ⟨rfl, rfl, Nat.le_of_ble_eq_true rfl, Nat.le_of_ble_eq_true rfl⟩ 0 rfl (ci := 10) rfl rfl (Nat.le_of_ble_eq_true rfl) ⟨Nat.le_of_ble_eq_true rfl, Nat.le_of_ble_eq_true rfl⟩ dX8_findMark_1 (fun u1 hu1 => ?_)
  clear hu1; clear u1
  show V 0 0 (MW cy b kd co th rw cl wr po dm sx aa dk fi bb cz hm se da sa bt oz) [(0, .ref (b 0))] [vI (zr (inC bt cl) (8 * cl) po)] 4
  refine z_nmI (fun n0 en0 => ?_)
  refine z_istore_n C (lv' := [(1, vI n0), (0, .ref (b 0))]) dX8_findMark_4 rfl (by decide) rfl ?_
  have J5 : ∀ (f : Nat) (n : Int) (q : Int), (0 ≤ q ∧ q ≤ 8 * cl) → (n = zr (inC bt cl) (8 * cl) q) → (fmk (inC bt cl) (8 * cl) po 0 = fmk (inC bt cl) (8 * cl) q 0) → (8 * cl - q).toNat < f → V 0 0 (MW cy b kd co th rw cl wr q dm sx aa dk fi bb cz hm se da sa bt oz) [(0, .ref (b 0)), (1, vI n)] [] 5 := by
    intro f
    induction f with
    | zero => intro n q i0 iz i1 hf; exact absurd hf (Nat.not_lt_zero _)
    | succ f ih =>
      intro n q i0 iz i1 hf
      refine z_iload_n C dX8_findMark_5 1 rfl ?_
      have hz := zer_rg (inC bt cl) (8 * cl) q (by omega)
      have hf9 := fmk_zer (inC bt cl) (8 * cl) q 0
      have hn9 : (zer (inC bt cl) (8 * cl) q < 8 * cl - q ∧ n = zer (inC bt cl) (8 * cl) q) ∨ (¬ zer (inC bt cl) (8 * cl) q < 8 * cl - q ∧ n = -1) := by
        rw [iz, zr]; by_cases z : zer (inC bt cl) (8 * cl) q < 8 * cl - q
        · rw [if_pos z]; exact Or.inl ⟨z, rfl⟩
        · rw [if_neg z]; exact Or.inr ⟨z, rfl⟩
      refine z_if_lt C (by omega) (tgt := 35) dX8_findMark_6 (by decide) (fun hc_2 => ?_) (fun hc_2 => ?_)
      · have i3 : fmk (inC bt cl) (8 * cl) po 0 = -1 := by rw [i1, hf9, if_neg (by omega)]
        refine z_aload_n C dX8_findMark_35 0 rfl ?_
        refine z_iload_n C dX8_findMark_36 1 rfl ?_
        refine z_if_ge C (by omega) (tgt := 50) dX8_findMark_37 (by decide) (fun hc_3 => ?_) (fun hc_3 => ?_)
        · exfalso; omega
        · refine z_bipush C (z := 8) dX8_findMark_40 (by decide) ?_
          refine z_aload_n C dX8_findMark_42 0 rfl ?_
          refine z_get C hinX8 (ci := 10) rfl 0 rfl 9 (by decide) k0 rfl (v := vI cl) rfl dX8_findMark_43 ?_
          refine z_imul C dX8_findMark_46 ?_
          refine z_goto C (tgt := 58) dX8_findMark_47 (by decide) ?_
          refine z_put C hinX8 tyX8 tyX8_ok nmX8 (ci := 10) rfl 0 rfl 13 (by decide) k1 rfl rfl rfl rfl (Nat.le_of_ble_eq_true rfl) dX8_findMark_58 (ws' := MW cy b kd co th rw cl wr (8 * cl) dm sx aa dk fi bb cz hm se da sa bt oz) rfl ?_
          refine z_iload_n C dX8_findMark_61 1 rfl ?_
          refine z_if_lt C (by omega) (tgt := 69) dX8_findMark_62 (by decide) (fun hc_4 => ?_) (fun hc_4 => ?_)
          · refine z_iconst C (z := 0) dX8_findMark_69 ?_
            refine z_zret (b := false) C dX8_findMark_70 () ?_ ?_ ?_ (by decide) (by decide)
            · rw [i3, decide_eq_false (by omega)]
            · exact trivial
            · rw [i3, if_neg (by omega)]
          · exfalso; omega
      · refine z_iload_n C dX8_findMark_9 1 rfl ?_
        refine z_bipush C (z := 11) dX8_findMark_10 (by decide) ?_
        refine z_icmp_ge C (by omega) (by decide) (tgt := 35) dX8_findMark_12 (by decide) (fun hc_5 => ?_) (fun hc_5 => ?_)
        · have i3 : fmk (inC bt cl) (8 * cl) po 0 = q + n + 1 := by rw [i1, hf9, if_pos (by omega), if_pos (by omega), show zer (inC bt cl) (8 * cl) q = n by omega]
          refine z_aload_n C dX8_findMark_35 0 rfl ?_
          refine z_iload_n C dX8_findMark_36 1 rfl ?_
          refine z_if_ge C (by omega) (tgt := 50) dX8_findMark_37 (by decide) (fun hc_6 => ?_) (fun hc_6 => ?_)
          · refine z_aload_n C dX8_findMark_50 0 rfl ?_
            refine z_get C hinX8 (ci := 10) rfl 0 rfl 13 (by decide) k1 rfl (v := vI q) rfl dX8_findMark_51 ?_
            refine z_iload_n C dX8_findMark_54 1 rfl ?_
            refine z_iadd C dX8_findMark_55 ?_
            refine z_iconst C (z := 1) dX8_findMark_56 ?_
            refine z_iadd C dX8_findMark_57 ?_
            refine z_put C hinX8 tyX8 tyX8_ok nmX8 (ci := 10) rfl 0 rfl 13 (by decide) k1 rfl rfl rfl rfl (Nat.le_of_ble_eq_true rfl) dX8_findMark_58 (ws' := MW cy b kd co th rw cl wr ((q + n) + 1) dm sx aa dk fi bb cz hm se da sa bt oz) rfl ?_
            refine z_iload_n C dX8_findMark_61 1 rfl ?_
            refine z_if_lt C (by omega) (tgt := 69) dX8_findMark_62 (by decide) (fun hc_7 => ?_) (fun hc_7 => ?_)
            · exfalso; omega
            · refine z_iconst C (z := 1) dX8_findMark_65 ?_
              refine z_goto C (tgt := 70) dX8_findMark_66 (by decide) ?_
              refine z_zret (b := true) C dX8_findMark_70 () ?_ ?_ ?_ (by decide) (by decide)
              · rw [i3, decide_eq_true (by omega)]
              · exact trivial
              · rw [i3, if_pos (by omega)]
          · exfalso; omega
        · have i3 : fmk (inC bt cl) (8 * cl) po 0 = fmk (inC bt cl) (8 * cl) (q + n + 1) 0 := by rw [i1, hf9, if_pos (by omega), if_neg (by omega), show zer (inC bt cl) (8 * cl) q = n by omega]
          refine z_aload_n C dX8_findMark_15 0 rfl ?_
          refine z_aload_n C dX8_findMark_16 0 rfl ?_
          refine z_get C hinX8 (ci := 10) rfl 0 rfl 13 (by decide) k1 rfl (v := vI q) rfl dX8_findMark_17 ?_
          refine z_iload_n C dX8_findMark_20 1 rfl ?_
          refine z_iadd C dX8_findMark_21 ?_
          refine z_iconst C (z := 1) dX8_findMark_22 ?_
          refine z_iadd C dX8_findMark_23 ?_
          refine z_put C hinX8 tyX8 tyX8_ok nmX8 (ci := 10) rfl 0 rfl 13 (by decide) k1 rfl rfl rfl rfl (Nat.le_of_ble_eq_true rfl) dX8_findMark_24 (ws' := MW cy b kd co th rw cl wr ((q + n) + 1) dm sx aa dk fi bb cz hm se da sa bt oz) rfl ?_
          refine z_aload_n C dX8_findMark_27 0 rfl ?_
          refine z_callV C (As := []) (st := []) (c_X8_zeros l D cy tw b kd co th rw cl wr ((q + n) + 1) dm sx aa dk fi bb cz hm se da sa bt oz   (by omega) (hbt) (by omega)) gX8_findMark_X8_zeros kn_X8_zeros rfl ⟨rfl, rfl, Nat.le_of_ble_eq_true rfl, Nat.le_of_ble_eq_true rfl⟩ 0 rfl (ci := 10) rfl rfl (Nat.le_of_ble_eq_true rfl) ⟨Nat.le_of_ble_eq_true rfl, Nat.le_of_ble_eq_true rfl⟩ dX8_findMark_28 (fun u8 hu8 => ?_)
          clear hu8; clear u8
          show V 0 0 (MW cy b kd co th rw cl wr ((q + n) + 1) dm sx aa dk fi bb cz hm se da sa bt oz) [(0, .ref (b 0)), (1, vI n)] [vI (zr (inC bt cl) (8 * cl) ((q + n) + 1))] 31
          refine z_nmI (fun n1 en1 => ?_)
          refine z_istore_n C (lv' := [(1, vI n1), (0, .ref (b 0))]) dX8_findMark_31 rfl (by decide) rfl ?_
          refine z_goto C (tgt := 5) dX8_findMark_32 (by decide) ?_
          refine z_lsub C [1, 0] rfl ?_
          exact ih n1 ((q + n) + 1) (by omega) (en1) (i3) (by omega)
  refine z_lsub C [1, 0] rfl ?_
  exact J5 _ n0 po (by omega) (en0) (rfl) (Nat.lt_succ_self _)
theorem pkI_dv (I : Int → Bool) (p : Int) (m n : Nat) : pkI I p (m + n) / 2 ^ n = pkI I p m := by
  have h := pkI_rg I (p + (m : Int)) n
  rw [pkI_add, Int.add_comm, Int.add_mul_ediv_right _ _ (by omega), Int.ediv_eq_zero_of_lt h.1 h.2, Int.zero_add]
