/-! Picture -/
theorem ix_rg {w r k : Int} (h1 : 0 ≤ r ∧ r < 24) (h2 : 0 ≤ k ∧ k < w) : 0 ≤ r * w + k ∧ r * w + k < 24 * w ∧ 0 ≤ r * w := by
  have e1 : r * w ≤ 23 * w := Int.mul_le_mul_of_nonneg_right (by omega) (by omega)
  have e2 : 0 ≤ r * w := Int.mul_nonneg (by omega) (by omega)
  omega
def ixC (co r k : Int) : Int := if 0 ≤ r ∧ r < 24 ∧ 0 ≤ k ∧ k < (co + 63) / 64 then r * ((co + 63) / 64) + k else -2
theorem ixC_in {co r k : Int} (h1 : 0 ≤ r ∧ r < 24) (h2 : 0 ≤ k ∧ k < (co + 63) / 64) : ixC co r k = r * ((co + 63) / 64) + k ∧ 0 ≤ ixC co r k ∧ ixC co r k < 24 * ((co + 63) / 64) := by
  have := ix_rg h1 h2
  rw [ixC, if_pos ⟨h1.1, h1.2, h2.1, h2.2⟩]
  omega
theorem ixC_or (co r k : Int) : ixC co r k = -2 ∨ (0 ≤ ixC co r k ∧ ixC co r k < 24 * ((co + 63) / 64) ∧ ixC co r k = r * ((co + 63) / 64) + k ∧ 0 ≤ r ∧ r < 24 ∧ 0 ≤ k ∧ k < (co + 63) / 64) := by
  by_cases h : 0 ≤ r ∧ r < 24 ∧ 0 ≤ k ∧ k < (co + 63) / 64
  · have := ixC_in (co := co) ⟨h.1, h.2.1⟩ ⟨h.2.2.1, h.2.2.2⟩
    omega
  · left; rw [ixC, if_neg h]
def wdC (wo : Nat → BitVec 64) (co r k : Int) : BitVec 64 := if ixC co r k < 0 then 0#64 else wo (ixC co r k).toNat
def px (wo : Nat → BitVec 64) (co r x : Int) : Bool := decide (0 ≤ x ∧ x < co) && (wdC wo co r (x / 64)).getLsbD (x % 64).toNat
theorem bit_and1 (w : BitVec 64) (k : Nat) : (w >>> k) &&& 1#64 = 0#64 ↔ w.getLsbD k = false := by
  constructor
  · intro h
    have h2 := congrArg (fun v => BitVec.getLsbD v 0) h
    simpa using h2
  · intro h
    apply BitVec.eq_of_getLsbD_eq
    intro i hi
    cases i with
    | zero => simp [h]
    | succ i => simp
theorem kn_X2_has : zKn yX2_has wsX2_has cX2_has 2 (some .boolean) 1 := ⟨⟨_, rfl⟩, by decide +kernel, by decide +kernel, by decide +kernel⟩
set_option maxHeartbeats 400000 in
set_option maxRecDepth 100000 in
theorem c_X2_has (l : Launch) (D : va_G) (cy : Nat → ClassId) (tw : Nat → Nat) (a : Nat → Nat) (kd : Int) (co : Int) (mk : Bool) (al : Bool) (dz : Bool) (rd : Bool) (rw : Int) (wo : Nat → BitVec 64) (sa : Nat → Int) (sz : Int) (ps : Int) (bt : Nat → Int) (ou : Nat → BitVec 64) (bi : Int) (dm : Int) (pl : Bool) (re : Int) (cu : Bool) (r : Int)  (hrw : 0 ≤ rw ∧ rw ≤ 24) (hr : -2147483648 ≤ r ∧ r < 2147483648) : zMet l yX2_has wsX2_has { frames := 0, cells := 0, slots := 0, locals := 0 } D (zT cy) tw (CW cy a kd co mk al dz rd rw wo sa sz ps bt ou bi dm pl re cu) [.ref (a 2), vI r] 0 0 (S := Unit) (fun _ => some (vI (b2i (decide (0 ≤ r ∧ r < rw))))) (fun _ => CW cy a kd co mk al dz rd rw wo sa sz ps bt ou bi dm pl re cu) (fun _ => True) := by
  refine z_met (cc := cX2_has) (nL := 2) (ret := some .boolean) (by decide +kernel) rfl (Nat.le_of_ble_eq_true rfl) (lv := [(0, .ref (a 2)), (1, vI r)]) rfl ?_
  intro V p_ e_ s_ m_ args_ below_ meth_ c_ A_ C hmn
  have hinX2 : ∀ w ∈ u_ws RX2 TX2 5, w ∈ wsX2_has := by decide +kernel
  have k0 : Cond.fieldLink RX2 26 "FaxFilter$Picture" "rows" "I" ∈ wsX2_has := List.mem_of_getElem? (i := 1) rfl
  refine z_iload_n C dX2_has_0 1 rfl ?_
  refine z_if_lt C (by omega) (tgt := 16) dX2_has_1 (by decide) (fun hc_1 => ?_) (fun hc_1 => ?_)
  · refine z_iconst C (z := 0) dX2_has_16 ?_
    refine z_zret (b := false) C dX2_has_17 () ?_ ?_ ?_ (by decide) (by decide)
    · first | rw [decide_eq_true (by omega)] | rw [decide_eq_false (by omega)]
    · exact trivial
    · exact rfl
  · refine z_iload_n C dX2_has_4 1 rfl ?_
    refine z_aload_n C dX2_has_5 0 rfl ?_
    refine z_get C hinX2 (ci := 4) rfl 2 rfl 1 (by decide) k0 rfl (v := vI rw) rfl dX2_has_6 ?_
    refine z_icmp_ge C (by omega) (by omega) (tgt := 16) dX2_has_9 (by decide) (fun hc_2 => ?_) (fun hc_2 => ?_)
    · refine z_iconst C (z := 0) dX2_has_16 ?_
      refine z_zret (b := false) C dX2_has_17 () ?_ ?_ ?_ (by decide) (by decide)
      · first | rw [decide_eq_true (by omega)] | rw [decide_eq_false (by omega)]
      · exact trivial
      · exact rfl
    · refine z_iconst C (z := 1) dX2_has_12 ?_
      refine z_goto C (tgt := 17) dX2_has_13 (by decide) ?_
      refine z_zret (b := true) C dX2_has_17 () ?_ ?_ ?_ (by decide) (by decide)
      · first | rw [decide_eq_true (by omega)] | rw [decide_eq_false (by omega)]
      · exact trivial
      · exact rfl
theorem kn_X2_stateOf : zKn yX2_stateOf wsX2_stateOf cX2_stateOf 2 (some .int) 1 := ⟨⟨_, rfl⟩, by decide +kernel, by decide +kernel, by decide +kernel⟩
set_option maxHeartbeats 400000 in
set_option maxRecDepth 100000 in
theorem c_X2_stateOf (l : Launch) (D : va_G) (cy : Nat → ClassId) (tw : Nat → Nat) (a : Nat → Nat) (kd : Int) (co : Int) (mk : Bool) (al : Bool) (dz : Bool) (rd : Bool) (rw : Int) (wo : Nat → BitVec 64) (sa : Nat → Int) (sz : Int) (ps : Int) (bt : Nat → Int) (ou : Nat → BitVec 64) (bi : Int) (dm : Int) (pl : Bool) (re : Int) (cu : Bool) (r : Int)  (hr : 0 ≤ r ∧ r < 24) : zMet l yX2_stateOf wsX2_stateOf { frames := 0, cells := 0, slots := 0, locals := 0 } D (zT cy) tw (CW cy a kd co mk al dz rd rw wo sa sz ps bt ou bi dm pl re cu) [.ref (a 2), vI r] 0 0 (S := Unit) (fun _ => some (vI (sa (r : Int).toNat))) (fun _ => CW cy a kd co mk al dz rd rw wo sa sz ps bt ou bi dm pl re cu) (fun _ => True) := by
  refine z_met (cc := cX2_stateOf) (nL := 2) (ret := some .int) (by decide +kernel) rfl (Nat.le_of_ble_eq_true rfl) (lv := [(0, .ref (a 2)), (1, vI r)]) rfl ?_
  intro V p_ e_ s_ m_ args_ below_ meth_ c_ A_ C hmn
  have hinX2 : ∀ w ∈ u_ws RX2 TX2 5, w ∈ wsX2_stateOf := by decide +kernel
  have k0 : Cond.fieldLink RX2 9 "FaxFilter$Picture" "states" "[I" ∈ wsX2_stateOf := List.mem_of_getElem? (i := 1) rfl
  refine z_iload_n C dX2_stateOf_0 1 rfl ?_
  refine z_if_lt C (by omega) (tgt := 19) dX2_stateOf_1 (by decide) (fun hc_1 => ?_) (fun hc_1 => ?_)
  · exfalso; omega
  · refine z_iload_n C dX2_stateOf_4 1 rfl ?_
    refine z_bipush C (z := 24) dX2_stateOf_5 (by decide) ?_
    refine z_icmp_ge C (by omega) (by decide) (tgt := 19) dX2_stateOf_7 (by decide) (fun hc_2 => ?_) (fun hc_2 => ?_)
    · exfalso; omega
    · refine z_aload_n C dX2_stateOf_10 0 rfl ?_
      refine z_get C hinX2 (ci := 4) rfl 2 rfl 4 (by decide) k0 rfl (v := .ref (a 10)) rfl dX2_stateOf_11 ?_
      refine z_iload_n C dX2_stateOf_14 1 rfl ?_
      refine z_iald C 10 1 (g := sa) rfl rfl (by omega) (by omega) (by decide) dX2_stateOf_15 ?_
      refine z_goto C (tgt := 20) dX2_stateOf_16 (by decide) ?_
      refine z_iret (x := (sa (r : Int).toNat)) C dX2_stateOf_20 () ?_ ?_ ?_ (by decide) (by decide)
      · exact rfl
      · exact trivial
      · exact rfl
theorem kn_X2_mend : zKn yX2_mend wsX2_mend cX2_mend 2 (none) 1 := ⟨⟨_, rfl⟩, by decide +kernel, by decide +kernel, by decide +kernel⟩
set_option maxHeartbeats 400000 in
set_option maxRecDepth 100000 in
theorem c_X2_mend (l : Launch) (D : va_G) (cy : Nat → ClassId) (tw : Nat → Nat) (a : Nat → Nat) (kd : Int) (co : Int) (mk : Bool) (al : Bool) (dz : Bool) (rd : Bool) (rw : Int) (wo : Nat → BitVec 64) (sa : Nat → Int) (sz : Int) (ps : Int) (bt : Nat → Int) (ou : Nat → BitVec 64) (bi : Int) (dm : Int) (pl : Bool) (re : Int) (cu : Bool) (r : Int)  (hr : 0 ≤ r ∧ r < 24) : zMet l yX2_mend wsX2_mend { frames := 0, cells := 0, slots := 0, locals := 0 } D (zT cy) tw (CW cy a kd co mk al dz rd rw wo sa sz ps bt ou bi dm pl re cu) [.ref (a 2), vI r] 0 0 (S := Unit) (fun _ => none) (fun _ => CW cy a kd co mk al dz rd rw wo (va_up sa (r : Int).toNat 0) sz ps bt ou bi dm pl re cu) (fun _ => True) := by
  refine z_met (cc := cX2_mend) (nL := 2) (ret := none) (by decide +kernel) rfl (Nat.le_of_ble_eq_true rfl) (lv := [(0, .ref (a 2)), (1, vI r)]) rfl ?_
  intro V p_ e_ s_ m_ args_ below_ meth_ c_ A_ C hmn
  have hinX2 : ∀ w ∈ u_ws RX2 TX2 5, w ∈ wsX2_mend := by decide +kernel
  have k0 : Cond.fieldLink RX2 9 "FaxFilter$Picture" "states" "[I" ∈ wsX2_mend := List.mem_of_getElem? (i := 1) rfl
  refine z_iload_n C dX2_mend_0 1 rfl ?_
  refine z_if_lt C (by omega) (tgt := 17) dX2_mend_1 (by decide) (fun hc_1 => ?_) (fun hc_1 => ?_)
  · exfalso; omega
  · refine z_iload_n C dX2_mend_4 1 rfl ?_
    refine z_bipush C (z := 24) dX2_mend_5 (by decide) ?_
    refine z_icmp_ge C (by omega) (by decide) (tgt := 17) dX2_mend_7 (by decide) (fun hc_2 => ?_) (fun hc_2 => ?_)
    · exfalso; omega
    · refine z_aload_n C dX2_mend_10 0 rfl ?_
      refine z_get C hinX2 (ci := 4) rfl 2 rfl 4 (by decide) k0 rfl (v := .ref (a 10)) rfl dX2_mend_11 ?_
      refine z_iload_n C dX2_mend_14 1 rfl ?_
      refine z_iconst C (z := 0) dX2_mend_15 ?_
      refine z_iast C 10 1 (g := sa) rfl rfl (by omega) (by omega) (by decide) dX2_mend_16 (ws' := CW cy a kd co mk al dz rd rw wo (va_up sa (r : Int).toNat 0) sz ps bt ou bi dm pl re cu) rfl ?_
      refine z_vret C dX2_mend_17 () ?_ ?_ ?_ (by decide) (by decide)
      · exact rfl
      · exact trivial
      · exact rfl
theorem kn_X2_keep : zKn yX2_keep wsX2_keep cX2_keep 2 (none) 1 := ⟨⟨_, rfl⟩, by decide +kernel, by decide +kernel, by decide +kernel⟩
set_option maxHeartbeats 400000 in
set_option maxRecDepth 100000 in
theorem c_X2_keep (l : Launch) (D : va_G) (cy : Nat → ClassId) (tw : Nat → Nat) (a : Nat → Nat) (kd : Int) (co : Int) (mk : Bool) (al : Bool) (dz : Bool) (rd : Bool) (rw : Int) (wo : Nat → BitVec 64) (sa : Nat → Int) (sz : Int) (ps : Int) (bt : Nat → Int) (ou : Nat → BitVec 64) (bi : Int) (dm : Int) (pl : Bool) (re : Int) (cu : Bool) (x : Int)  (hrw : 0 ≤ rw ∧ rw < 24) : zMet l yX2_keep wsX2_keep { frames := 0, cells := 0, slots := 0, locals := 0 } D (zT cy) tw (CW cy a kd co mk al dz rd rw wo sa sz ps bt ou bi dm pl re cu) [.ref (a 2), vI x] 0 0 (S := Unit) (fun _ => none) (fun _ => CW cy a kd co mk al dz rd (rw + 1) wo (va_up sa (rw : Int).toNat x) sz ps bt ou bi dm pl re cu) (fun _ => True) := by
  refine z_met (cc := cX2_keep) (nL := 2) (ret := none) (by decide +kernel) rfl (Nat.le_of_ble_eq_true rfl) (lv := [(0, .ref (a 2)), (1, vI x)]) rfl ?_
  intro V p_ e_ s_ m_ args_ below_ meth_ c_ A_ C hmn
  have hinX2 : ∀ w ∈ u_ws RX2 TX2 5, w ∈ wsX2_keep := by decide +kernel
  have k0 : Cond.fieldLink RX2 26 "FaxFilter$Picture" "rows" "I" ∈ wsX2_keep := List.mem_of_getElem? (i := 1) rfl
  have k1 : Cond.fieldLink RX2 9 "FaxFilter$Picture" "states" "[I" ∈ wsX2_keep := List.mem_of_getElem? (i := 2) rfl
  refine z_aload_n C dX2_keep_0 0 rfl ?_
  refine z_get C hinX2 (ci := 4) rfl 2 rfl 1 (by decide) k0 rfl (v := vI rw) rfl dX2_keep_1 ?_
  refine z_if_lt C (by omega) (tgt := 36) dX2_keep_4 (by decide) (fun hc_1 => ?_) (fun hc_1 => ?_)
  · exfalso; omega
  · refine z_aload_n C dX2_keep_7 0 rfl ?_
    refine z_get C hinX2 (ci := 4) rfl 2 rfl 1 (by decide) k0 rfl (v := vI rw) rfl dX2_keep_8 ?_
    refine z_bipush C (z := 24) dX2_keep_11 (by decide) ?_
    refine z_icmp_ge C (by omega) (by decide) (tgt := 36) dX2_keep_13 (by decide) (fun hc_2 => ?_) (fun hc_2 => ?_)
    · exfalso; omega
    · refine z_aload_n C dX2_keep_16 0 rfl ?_
      refine z_get C hinX2 (ci := 4) rfl 2 rfl 4 (by decide) k1 rfl (v := .ref (a 10)) rfl dX2_keep_17 ?_
      refine z_aload_n C dX2_keep_20 0 rfl ?_
      refine z_get C hinX2 (ci := 4) rfl 2 rfl 1 (by decide) k0 rfl (v := vI rw) rfl dX2_keep_21 ?_
      refine z_iload_n C dX2_keep_24 1 rfl ?_
      refine z_iast C 10 1 (g := sa) rfl rfl (by omega) (by omega) (by decide) dX2_keep_25 (ws' := CW cy a kd co mk al dz rd rw wo (va_up sa (rw : Int).toNat x) sz ps bt ou bi dm pl re cu) rfl ?_
      refine z_aload_n C dX2_keep_26 0 rfl ?_
      refine z_dup C dX2_keep_27 rfl ?_
      refine z_get C hinX2 (ci := 4) rfl 2 rfl 1 (by decide) k0 rfl (v := vI rw) rfl dX2_keep_28 ?_
      refine z_iconst C (z := 1) dX2_keep_31 ?_
      refine z_iadd C dX2_keep_32 ?_
      refine z_put C hinX2 tyX2 tyX2_ok nmX2 (ci := 4) rfl 2 rfl 1 (by decide) k0 rfl rfl rfl rfl (Nat.le_of_ble_eq_true rfl) dX2_keep_33 (ws' := CW cy a kd co mk al dz rd (rw + 1) wo (va_up sa (rw : Int).toNat x) sz ps bt ou bi dm pl re cu) rfl ?_
      refine z_vret C dX2_keep_36 () ?_ ?_ ?_ (by decide) (by decide)
      · exact rfl
      · exact trivial
      · exact rfl
theorem kn_X2_indexOf : zKn yX2_indexOf wsX2_indexOf cX2_indexOf 4 (some .int) 2 := ⟨⟨_, rfl⟩, by decide +kernel, by decide +kernel, by decide +kernel⟩
set_option maxHeartbeats 400000 in
set_option maxRecDepth 100000 in
theorem c_X2_indexOf (l : Launch) (D : va_G) (cy : Nat → ClassId) (tw : Nat → Nat) (a : Nat → Nat) (kd : Int) (co : Int) (mk : Bool) (al : Bool) (dz : Bool) (rd : Bool) (rw : Int) (wo : Nat → BitVec 64) (sa : Nat → Int) (sz : Int) (ps : Int) (bt : Nat → Int) (ou : Nat → BitVec 64) (bi : Int) (dm : Int) (pl : Bool) (re : Int) (cu : Bool) (r : Int) (k : Int)  (hco : 1 ≤ co ∧ co ≤ 700) (hr : -100 ≤ r ∧ r ≤ 100) (hk : -100 ≤ k ∧ k ≤ 100) : zMet l yX2_indexOf wsX2_indexOf { frames := 0, cells := 0, slots := 0, locals := 0 } D (zT cy) tw (CW cy a kd co mk al dz rd rw wo sa sz ps bt ou bi dm pl re cu) [.ref (a 2), vI r, vI k] 0 0 (S := Unit) (fun _ => some (vI (ixC co r k))) (fun _ => CW cy a kd co mk al dz rd rw wo sa sz ps bt ou bi dm pl re cu) (fun _ => True) := by
  refine z_met (cc := cX2_indexOf) (nL := 4) (ret := some .int) (by decide +kernel) rfl (Nat.le_of_ble_eq_true rfl) (lv := [(0, .ref (a 2)), (1, vI r), (2, vI k)]) rfl ?_
  intro V p_ e_ s_ m_ args_ below_ meth_ c_ A_ C hmn
  have hinX2 : ∀ w ∈ u_ws RX2 TX2 5, w ∈ wsX2_indexOf := by decide +kernel
  have k0 : Cond.fieldLink RX2 19 "FaxFilter$Picture" "wide" "I" ∈ wsX2_indexOf := List.mem_of_getElem? (i := 1) rfl
  refine z_iload_n C dX2_indexOf_0 1 rfl ?_
  refine z_if_lt C (by omega) (tgt := 26) dX2_indexOf_1 (by decide) (fun hc_1 => ?_) (fun hc_1 => ?_)
  · refine z_iconst C (z := 0) dX2_indexOf_26 ?_
    refine z_istore_n C (lv' := [(3, vI 0), (0, .ref (a 2)), (1, vI r), (2, vI k)]) dX2_indexOf_27 rfl (by decide) rfl ?_
    refine z_iload_n C dX2_indexOf_28 0 rfl ?_
    refine z_if_eq C (by decide) (tgt := 43) dX2_indexOf_29 (by decide) (fun hc_2 => ?_) (fun hc_2 => ?_)
    rotate_left; · exact absurd hc_2 (by decide)
    refine z_bipush C (z := (-2)) dX2_indexOf_43 (by decide) ?_
    refine z_iret (x := (-2)) C dX2_indexOf_45 () ?_ ?_ ?_ (by decide) (by decide)
    · rw [ixC]; first | rw [if_pos (by omega)] | rw [if_neg (by omega)]
    · exact trivial
    · exact rfl
  · refine z_iload_n C dX2_indexOf_4 1 rfl ?_
    refine z_bipush C (z := 24) dX2_indexOf_5 (by decide) ?_
    refine z_icmp_ge C (by omega) (by decide) (tgt := 26) dX2_indexOf_7 (by decide) (fun hc_3 => ?_) (fun hc_3 => ?_)
    · refine z_iconst C (z := 0) dX2_indexOf_26 ?_
      refine z_istore_n C (lv' := [(3, vI 0), (0, .ref (a 2)), (1, vI r), (2, vI k)]) dX2_indexOf_27 rfl (by decide) rfl ?_
      refine z_iload_n C dX2_indexOf_28 0 rfl ?_
      refine z_if_eq C (by decide) (tgt := 43) dX2_indexOf_29 (by decide) (fun hc_4 => ?_) (fun hc_4 => ?_)
      rotate_left; · exact absurd hc_4 (by decide)
      refine z_bipush C (z := (-2)) dX2_indexOf_43 (by decide) ?_
      refine z_iret (x := (-2)) C dX2_indexOf_45 () ?_ ?_ ?_ (by decide) (by decide)
      · rw [ixC]; first | rw [if_pos (by omega)] | rw [if_neg (by omega)]
      · exact trivial
      · exact rfl
    · refine z_iload_n C dX2_indexOf_10 2 rfl ?_
      refine z_if_lt C (by omega) (tgt := 26) dX2_indexOf_11 (by decide) (fun hc_5 => ?_) (fun hc_5 => ?_)
      · refine z_iconst C (z := 0) dX2_indexOf_26 ?_
        refine z_istore_n C (lv' := [(3, vI 0), (0, .ref (a 2)), (1, vI r), (2, vI k)]) dX2_indexOf_27 rfl (by decide) rfl ?_
        refine z_iload_n C dX2_indexOf_28 0 rfl ?_
        refine z_if_eq C (by decide) (tgt := 43) dX2_indexOf_29 (by decide) (fun hc_6 => ?_) (fun hc_6 => ?_)
        rotate_left; · exact absurd hc_6 (by decide)
        refine z_bipush C (z := (-2)) dX2_indexOf_43 (by decide) ?_
        refine z_iret (x := (-2)) C dX2_indexOf_45 () ?_ ?_ ?_ (by decide) (by decide)
        · rw [ixC]; first | rw [if_pos (by omega)] | rw [if_neg (by omega)]
        · exact trivial
        · exact rfl
      · refine z_iload_n C dX2_indexOf_14 2 rfl ?_
        refine z_aload_n C dX2_indexOf_15 0 rfl ?_
        refine z_get C hinX2 (ci := 4) rfl 2 rfl 2 (by decide) k0 rfl (v := vI ((co + 63) / 64)) rfl dX2_indexOf_16 ?_
        refine z_icmp_ge C (by omega) (by omega) (tgt := 26) dX2_indexOf_19 (by decide) (fun hc_7 => ?_) (fun hc_7 => ?_)
        · refine z_iconst C (z := 0) dX2_indexOf_26 ?_
          refine z_istore_n C (lv' := [(3, vI 0), (0, .ref (a 2)), (1, vI r), (2, vI k)]) dX2_indexOf_27 rfl (by decide) rfl ?_
          refine z_iload_n C dX2_indexOf_28 0 rfl ?_
          refine z_if_eq C (by decide) (tgt := 43) dX2_indexOf_29 (by decide) (fun hc_8 => ?_) (fun hc_8 => ?_)
          rotate_left; · exact absurd hc_8 (by decide)
          refine z_bipush C (z := (-2)) dX2_indexOf_43 (by decide) ?_
          refine z_iret (x := (-2)) C dX2_indexOf_45 () ?_ ?_ ?_ (by decide) (by decide)
          · rw [ixC]; first | rw [if_pos (by omega)] | rw [if_neg (by omega)]
          · exact trivial
          · exact rfl
        · refine z_iconst C (z := 1) dX2_indexOf_22 ?_
          refine z_goto C (tgt := 27) dX2_indexOf_23 (by decide) ?_
          refine z_istore_n C (lv' := [(3, vI 1), (0, .ref (a 2)), (1, vI r), (2, vI k)]) dX2_indexOf_27 rfl (by decide) rfl ?_
          refine z_iload_n C dX2_indexOf_28 0 rfl ?_
          refine z_if_eq C (by decide) (tgt := 43) dX2_indexOf_29 (by decide) (fun hc_9 => ?_) (fun hc_9 => ?_)
          · exact absurd hc_9 (by decide)
          refine z_iload_n C dX2_indexOf_32 2 rfl ?_
          refine z_aload_n C dX2_indexOf_33 1 rfl ?_
          refine z_get C hinX2 (ci := 4) rfl 2 rfl 2 (by decide) k0 rfl (v := vI ((co + 63) / 64)) rfl dX2_indexOf_34 ?_
          refine z_imul C dX2_indexOf_37 ?_
          refine z_iload_n C dX2_indexOf_38 3 rfl ?_
          refine z_iadd C dX2_indexOf_39 ?_
          refine z_goto C (tgt := 45) dX2_indexOf_40 (by decide) ?_
          refine z_iret (x := ((r * ((co + 63) / 64)) + k)) C dX2_indexOf_45 () ?_ ?_ ?_ (by decide) (by decide)
          · rw [ixC]; first | rw [if_pos (by omega)] | rw [if_neg (by omega)]
          · exact trivial
          · exact rfl
theorem kn_X2_wordOf : zKn yX2_wordOf wsX2_wordOf cX2_wordOf 4 (some .long) 2 := ⟨⟨_, rfl⟩, by decide +kernel, by decide +kernel, by decide +kernel⟩
set_option maxHeartbeats 400000 in
set_option maxRecDepth 100000 in
theorem c_X2_wordOf (l : Launch) (D : va_G) (cy : Nat → ClassId) (tw : Nat → Nat) (a : Nat → Nat) (kd : Int) (co : Int) (mk : Bool) (al : Bool) (dz : Bool) (rd : Bool) (rw : Int) (wo : Nat → BitVec 64) (sa : Nat → Int) (sz : Int) (ps : Int) (bt : Nat → Int) (ou : Nat → BitVec 64) (bi : Int) (dm : Int) (pl : Bool) (re : Int) (cu : Bool) (r : Int) (k : Int)  (hco : 1 ≤ co ∧ co ≤ 700) (hr : -100 ≤ r ∧ r ≤ 100) (hk : -100 ≤ k ∧ k ≤ 100) : zMet l yX2_wordOf wsX2_wordOf { frames := 1, cells := 0, slots := 0, locals := 23 } D (zT cy) tw (CW cy a kd co mk al dz rd rw wo sa sz ps bt ou bi dm pl re cu) [.ref (a 2), vI r, vI k] 0 0 (S := Unit) (fun _ => some (vJ (wdC wo co r k))) (fun _ => CW cy a kd co mk al dz rd rw wo sa sz ps bt ou bi dm pl re cu) (fun _ => True) := by
  refine z_met (cc := cX2_wordOf) (nL := 4) (ret := some .long) (by decide +kernel) rfl (Nat.le_of_ble_eq_true rfl) (lv := [(0, .ref (a 2)), (1, vI r), (2, vI k)]) rfl ?_
  intro V p_ e_ s_ m_ args_ below_ meth_ c_ A_ C hmn
  have hinX2 : ∀ w ∈ u_ws RX2 TX2 5, w ∈ wsX2_wordOf := by decide +kernel
  have k0 : Cond.fieldLink RX2 22 "FaxFilter$Picture" "words" "[J" ∈ wsX2_wordOf := List.mem_of_getElem? (i := 1) rfl
  have hwn := wn_eq hco.1
  have hix := ixC_or co r k
  refine z_aload_n C dX2_wordOf_0 0 rfl ?_
  refine z_iload_n C dX2_wordOf_1 1 rfl ?_
  refine z_iload_n C dX2_wordOf_2 2 rfl ?_
  refine z_callV C (As := [vI r, vI k]) (st := []) (c_X2_indexOf l D cy tw a kd co mk al dz rd rw wo sa sz ps bt ou bi dm pl re cu r k  (by omega) (by omega) (by omega)) gX2_wordOf_X2_indexOf kn_X2_indexOf rfl ⟨rfl, rfl, Nat.le_of_ble_eq_true rfl, Nat.le_of_ble_eq_true rfl⟩ 2 rfl (ci := 4) rfl rfl (Nat.le_of_ble_eq_true rfl) ⟨Nat.le_of_ble_eq_true rfl, Nat.le_of_ble_eq_true rfl⟩ dX2_wordOf_3 (fun u1 hu1 => ?_)
  clear hu1; clear u1
  show V 0 0 (CW cy a kd co mk al dz rd rw wo sa sz ps bt ou bi dm pl re cu) [(0, .ref (a 2)), (1, vI r), (2, vI k)] [vI (ixC co r k)] 6
  refine z_istore_n C (lv' := [(3, vI (ixC co r k)), (0, .ref (a 2)), (1, vI r), (2, vI k)]) dX2_wordOf_6 rfl (by decide) rfl ?_
  refine z_iload_n C dX2_wordOf_7 0 rfl ?_
  refine z_if_lt C (by omega) (tgt := 29) dX2_wordOf_8 (by decide) (fun hc_2 => ?_) (fun hc_2 => ?_)
  · refine z_lconst C dX2_wordOf_29 ?_
    refine z_lret (x := (0#64)) C dX2_wordOf_30 () ?_ ?_ ?_ (by decide) (by decide)
    · rw [wdC]; first | rw [if_pos (by omega)] | rw [if_neg (by omega)]
    · exact trivial
    · exact rfl
  · refine z_iload_n C dX2_wordOf_11 0 rfl ?_
    refine z_aload_n C dX2_wordOf_12 1 rfl ?_
    refine z_get C hinX2 (ci := 4) rfl 2 rfl 3 (by decide) k0 rfl (v := .ref (a 9)) rfl dX2_wordOf_13 ?_
    refine z_alen C 9 2 rfl rfl (N := wn co) rfl dX2_wordOf_16 ?_
    refine z_icmp_ge C (by omega) (by omega) (tgt := 29) dX2_wordOf_17 (by decide) (fun hc_3 => ?_) (fun hc_3 => ?_)
    · exfalso; omega
    · refine z_aload_n C dX2_wordOf_20 1 rfl ?_
      refine z_get C hinX2 (ci := 4) rfl 2 rfl 3 (by decide) k0 rfl (v := .ref (a 9)) rfl dX2_wordOf_21 ?_
      refine z_iload_n C dX2_wordOf_24 0 rfl ?_
      refine z_lald C 9 2 (g := wo) rfl rfl (by omega) (by omega) (by omega) dX2_wordOf_25 ?_
      refine z_goto C (tgt := 30) dX2_wordOf_26 (by decide) ?_
      refine z_lret (x := (wo (ixC co r k : Int).toNat)) C dX2_wordOf_30 () ?_ ?_ ?_ (by decide) (by decide)
      · rw [wdC]; first | rw [if_pos (by omega)] | rw [if_neg (by omega)]
      · exact trivial
      · exact rfl
theorem kn_X2_isDark : zKn yX2_isDark wsX2_isDark cX2_isDark 3 (some .boolean) 2 := ⟨⟨_, rfl⟩, by decide +kernel, by decide +kernel, by decide +kernel⟩
set_option maxHeartbeats 400000 in
set_option maxRecDepth 100000 in
theorem c_X2_isDark (l : Launch) (D : va_G) (cy : Nat → ClassId) (tw : Nat → Nat) (a : Nat → Nat) (kd : Int) (co : Int) (mk : Bool) (al : Bool) (dz : Bool) (rd : Bool) (rw : Int) (wo : Nat → BitVec 64) (sa : Nat → Int) (sz : Int) (ps : Int) (bt : Nat → Int) (ou : Nat → BitVec 64) (bi : Int) (dm : Int) (pl : Bool) (re : Int) (cu : Bool) (r : Int) (x : Int)  (hco : 1 ≤ co ∧ co ≤ 700) (hr : -100 ≤ r ∧ r ≤ 100) (hx : -1000 ≤ x ∧ x ≤ 1000) : zMet l yX2_isDark wsX2_isDark { frames := 2, cells := 0, slots := 0, locals := 46 } D (zT cy) tw (CW cy a kd co mk al dz rd rw wo sa sz ps bt ou bi dm pl re cu) [.ref (a 2), vI r, vI x] 0 0 (S := Unit) (fun _ => some (vI (b2i (px wo co r x)))) (fun _ => CW cy a kd co mk al dz rd rw wo sa sz ps bt ou bi dm pl re cu) (fun _ => True) := by
  refine z_met (cc := cX2_isDark) (nL := 3) (ret := some .boolean) (by decide +kernel) rfl (Nat.le_of_ble_eq_true rfl) (lv := [(0, .ref (a 2)), (1, vI r), (2, vI x)]) rfl ?_
  intro V p_ e_ s_ m_ args_ below_ meth_ c_ A_ C hmn
  have hinX2 : ∀ w ∈ u_ws RX2 TX2 5, w ∈ wsX2_isDark := by decide +kernel
  have k0 : Cond.fieldLink RX2 15 "FaxFilter$Picture" "columns" "I" ∈ wsX2_isDark := List.mem_of_getElem? (i := 1) rfl
  refine z_iload_n C dX2_isDark_0 2 rfl ?_
  refine z_if_lt C (by omega) (tgt := 34) dX2_isDark_1 (by decide) (fun hc_1 => ?_) (fun hc_1 => ?_)
  · refine z_iconst C (z := 0) dX2_isDark_34 ?_
    refine z_zret (b := false) C dX2_isDark_35 () ?_ ?_ ?_ (by decide) (by decide)
    · rw [px, decide_eq_false (by omega)]; rfl
    · exact trivial
    · exact rfl
  · refine z_iload_n C dX2_isDark_4 2 rfl ?_
    refine z_aload_n C dX2_isDark_5 0 rfl ?_
    refine z_get C hinX2 (ci := 4) rfl 2 rfl 0 (by decide) k0 rfl (v := vI co) rfl dX2_isDark_6 ?_
    refine z_icmp_ge C (by omega) (by omega) (tgt := 34) dX2_isDark_9 (by decide) (fun hc_2 => ?_) (fun hc_2 => ?_)
    · refine z_iconst C (z := 0) dX2_isDark_34 ?_
      refine z_zret (b := false) C dX2_isDark_35 () ?_ ?_ ?_ (by decide) (by decide)
      · rw [px, decide_eq_false (by omega)]; rfl
      · exact trivial
      · exact rfl
    · refine z_aload_n C dX2_isDark_12 0 rfl ?_
      refine z_iload_n C dX2_isDark_13 1 rfl ?_
      refine z_iload_n C dX2_isDark_14 2 rfl ?_
      refine z_bipush C (z := 64) dX2_isDark_15 (by decide) ?_
      refine z_idiv C dX2_isDark_17 (by omega) (by decide) ?_
      refine z_callV C (As := [vI r, vI (x / 64)]) (st := []) (c_X2_wordOf l D cy tw a kd co mk al dz rd rw wo sa sz ps bt ou bi dm pl re cu r (x / 64)  (by omega) (by omega) (by omega)) gX2_isDark_X2_wordOf kn_X2_wordOf rfl ⟨rfl, rfl, Nat.le_of_ble_eq_true rfl, Nat.le_of_ble_eq_true rfl⟩ 2 rfl (ci := 4) rfl rfl (Nat.le_of_ble_eq_true rfl) ⟨Nat.le_of_ble_eq_true rfl, Nat.le_of_ble_eq_true rfl⟩ dX2_isDark_18 (fun u3 hu3 => ?_)
      clear hu3; clear u3
      show V 0 0 (CW cy a kd co mk al dz rd rw wo sa sz ps bt ou bi dm pl re cu) [(0, .ref (a 2)), (1, vI r), (2, vI x)] [vJ (wdC wo co r (x / 64))] 21
      refine z_iload_n C dX2_isDark_21 2 rfl ?_
      refine z_lushr C (y := x) ((x % 64).toNat) (by omega) (rfl) dX2_isDark_22 ?_
      refine z_lconst C dX2_isDark_23 ?_
      refine z_land C dX2_isDark_24 ?_
      refine z_lconst C dX2_isDark_25 ?_
      refine z_lcmp C dX2_isDark_26 ?_
      refine z_if_eq C (by exact lcm_rg _ _) (tgt := 34) dX2_isDark_27 (by decide) (fun cb => ?_) (fun cb => ?_)
      · refine z_iconst C (z := 0) dX2_isDark_34 ?_
        refine z_zret (b := false) C dX2_isDark_35 () ?_ ?_ ?_ (by decide) (by decide)
        · rw [px, decide_eq_true (by omega), (bit_and1 _ _).mp (lcm_0.mp cb)]; rfl
        · exact trivial
        · exact rfl
      · refine z_iconst C (z := 1) dX2_isDark_30 ?_
        refine z_goto C (tgt := 35) dX2_isDark_31 (by decide) ?_
        refine z_zret (b := true) C dX2_isDark_35 () ?_ ?_ ?_ (by decide) (by decide)
        · rw [px, decide_eq_true (by omega), Bool.of_not_eq_false (fun h => cb (lcm_0.mpr ((bit_and1 _ _).mpr h)))]; rfl
        · exact trivial
        · exact rfl
/-- the places of one word that a painting from x up to y means -/
def pmC (x y k : Int) : BitVec 64 := (18446744073709551615#64 <<< ((if x < 64 * k then 64 * k else x) % 64).toNat) &&& (18446744073709551615#64 >>> ((-(if 64 * k + 64 < y then 64 * k + 64 else y)) % 64).toNat)
def pwC (w : BitVec 64) (x y k : Int) (d : Bool) : BitVec 64 := if d then (w &&& (pmC x y k ^^^ 18446744073709551615#64)) ||| pmC x y k else w &&& (pmC x y k ^^^ 18446744073709551615#64)
def ptC (wo : Nat → BitVec 64) (co r x y : Int) (d : Bool) (h : Int) : Nat → BitVec 64 := fun i => if r * ((co + 63) / 64) + x / 64 ≤ (i : Int) ∧ (i : Int) < r * ((co + 63) / 64) + h then pwC (wo i) x y ((i : Int) - r * ((co + 63) / 64)) d else wo i
def pnC (wo : Nat → BitVec 64) (co r x y : Int) (d : Bool) : Nat → BitVec 64 := if 0 ≤ x ∧ x < y ∧ y ≤ co then ptC wo co r x y d ((y - 1) / 64 + 1) else wo
theorem ptC_0 (wo : Nat → BitVec 64) (co r x y : Int) (d : Bool) : wo = ptC wo co r x y d (x / 64) := by
  funext i
  rw [ptC, if_neg (by omega)]
theorem ptC_s {wo : Nat → BitVec 64} {co r x y k : Int} {d : Bool} (hi : 0 ≤ r * ((co + 63) / 64) + k) (hk : x / 64 ≤ k) : va_up (ptC wo co r x y d k) (r * ((co + 63) / 64) + k).toNat (pwC (ptC wo co r x y d k (r * ((co + 63) / 64) + k).toNat) x y k d) = ptC wo co r x y d (k + 1) := by
  funext i
  unfold va_up
  split
  · rename_i e
    subst e
    rw [ptC, if_neg (by omega), ptC, if_pos (by omega)]
    congr 1
    omega
  · rw [ptC, ptC]
    by_cases h : r * ((co + 63) / 64) + x / 64 ≤ (i : Int) ∧ (i : Int) < r * ((co + 63) / 64) + k
    · rw [if_pos h, if_pos (by omega)]
    · rw [if_neg h, if_neg (by omega)]
def cpC (wo : Nat → BitVec 64) (co r h : Int) : Nat → BitVec 64 := fun i => if r * ((co + 63) / 64) ≤ (i : Int) ∧ (i : Int) < r * ((co + 63) / 64) + h then wdC wo co (r - 1) ((i : Int) - r * ((co + 63) / 64)) else wo i
theorem cpC_0 (wo : Nat → BitVec 64) (co r : Int) : wo = cpC wo co r 0 := by
  funext i
  rw [cpC, if_neg (by omega)]
theorem cpC_up {wo : Nat → BitVec 64} {co r k h : Int} (hh : h ≤ (co + 63) / 64) : wdC (cpC wo co r h) co (r - 1) k = wdC wo co (r - 1) k := by
  have hix := ixC_or co (r - 1) k
  rw [wdC, wdC]
  by_cases h0 : ixC co (r - 1) k < 0
  · rw [if_pos h0, if_pos h0]
  · rw [if_neg h0, if_neg h0, cpC, if_neg ?_]
    have e : (r - 1) * ((co + 63) / 64) = r * ((co + 63) / 64) - ((co + 63) / 64) := by rw [Int.sub_mul, Int.one_mul]
    omega
theorem cpC_s {wo : Nat → BitVec 64} {co r k : Int} (hi : 0 ≤ r * ((co + 63) / 64) + k) (hk : 0 ≤ k) : va_up (cpC wo co r k) (r * ((co + 63) / 64) + k).toNat (wdC wo co (r - 1) k) = cpC wo co r (k + 1) := by
  funext i
  unfold va_up
  split
  · rename_i e
    subst e
    rw [cpC, if_pos (by omega)]
    congr 1
    omega
  · rw [cpC, cpC]
    by_cases h : r * ((co + 63) / 64) ≤ (i : Int) ∧ (i : Int) < r * ((co + 63) / 64) + k
    · rw [if_pos h, if_pos (by omega)]
    · rw [if_neg h, if_neg (by omega)]
theorem kn_X2_paint : zKn yX2_paint wsX2_paint cX2_paint 13 (none) 4 := ⟨⟨_, rfl⟩, by decide +kernel, by decide +kernel, by decide +kernel⟩
set_option maxHeartbeats 400000 in
set_option maxRecDepth 100000 in
theorem c_X2_paint (l : Launch) (D : va_G) (cy : Nat → ClassId) (tw : Nat → Nat) (a : Nat → Nat) (kd : Int) (co : Int) (mk : Bool) (al : Bool) (dz : Bool) (rd : Bool) (rw : Int) (wo : Nat → BitVec 64) (sa : Nat → Int) (sz : Int) (ps : Int) (bt : Nat → Int) (ou : Nat → BitVec 64) (bi : Int) (dm : Int) (pl : Bool) (re : Int) (cu : Bool) (r : Int) (x : Int) (y : Int) (d : Bool)  (hco : 1 ≤ co ∧ co ≤ 700) (hr : 0 ≤ r ∧ r < 24) (hx : 0 ≤ x ∧ x ≤ 1000) (hy : 0 ≤ y ∧ y ≤ 1000) : zMet l yX2_paint wsX2_paint { frames := 1, cells := 0, slots := 0, locals := 23 } D (zT cy) tw (CW cy a kd co mk al dz rd rw wo sa sz ps bt ou bi dm pl re cu) [.ref (a 2), vI r, vI x, vI y, vI (b2i d)] 0 0 (S := Unit) (fun _ => none) (fun _ => CW cy a kd co mk al dz rd rw (pnC wo co r x y d) sa sz ps bt ou bi dm pl re cu) (fun _ => True) := by
  refine z_met (cc := cX2_paint) (nL := 13) (ret := none) (by decide +kernel) rfl (Nat.le_of_ble_eq_true rfl) (lv := [(0, .ref (a 2)), (1, vI r), (2, vI x), (3, vI y), (4, vI (b2i d))]) rfl ?_
  intro V p_ e_ s_ m_ args_ below_ meth_ c_ A_ C hmn
  have hinX2 : ∀ w ∈ u_ws RX2 TX2 5, w ∈ wsX2_paint := by decide +kernel
  have k0 : Cond.fieldLink RX2 15 "FaxFilter$Picture" "columns" "I" ∈ wsX2_paint := List.mem_of_getElem? (i := 1) rfl
  have k1 : Cond.constantLong RX2 41 (-1) ∈ wsX2_paint := List.mem_of_getElem? (i := 2) rfl
  have k2 : Cond.methodLink RX2 43 Lib.Math.max.name ∈ wsX2_paint := List.mem_of_getElem? (i := 3) rfl
  have k3 : Cond.static Lib.Math.max.name ∈ wsX2_paint := List.mem_of_getElem? (i := 4) rfl
  have k4 : Cond.initialized "java/lang/Math" ∈ wsX2_paint := List.mem_of_getElem? (i := 5) rfl
  have k5 : Cond.code Lib.Math.max.name Lib.Math.max.code 2 (some .int) ∈ wsX2_paint := List.mem_of_getElem? (i := 6) rfl
  have k6 : Cond.methodLink RX2 48 Lib.Math.min.name ∈ wsX2_paint := List.mem_of_getElem? (i := 7) rfl
  have k7 : Cond.static Lib.Math.min.name ∈ wsX2_paint := List.mem_of_getElem? (i := 8) rfl
  have k8 : Cond.code Lib.Math.min.name Lib.Math.min.code 2 (some .int) ∈ wsX2_paint := List.mem_of_getElem? (i := 9) rfl
  have k9 : Cond.fieldLink RX2 22 "FaxFilter$Picture" "words" "[J" ∈ wsX2_paint := List.mem_of_getElem? (i := 10) rfl
  have hwn := wn_eq hco.1
  refine z_iload_n C dX2_paint_0 2 rfl ?_
  refine z_if_lt C (by omega) (tgt := 17) dX2_paint_1 (by decide) (fun hc_1 => ?_) (fun hc_1 => ?_)
  · refine z_vret C dX2_paint_17 () ?_ ?_ ?_ (by decide) (by decide)
    · exact rfl
    · exact trivial
    · rw [pnC, if_neg (by omega)]
  · refine z_iload_n C dX2_paint_4 2 rfl ?_
    refine z_iload_n C dX2_paint_5 3 rfl ?_
    refine z_icmp_ge C (by omega) (by omega) (tgt := 17) dX2_paint_6 (by decide) (fun hc_2 => ?_) (fun hc_2 => ?_)
    · refine z_vret C dX2_paint_17 () ?_ ?_ ?_ (by decide) (by decide)
      · exact rfl
      · exact trivial
      · rw [pnC, if_neg (by omega)]
    · refine z_iload_n C dX2_paint_9 3 rfl ?_
      refine z_aload_n C dX2_paint_10 0 rfl ?_
      refine z_get C hinX2 (ci := 4) rfl 2 rfl 0 (by decide) k0 rfl (v := vI co) rfl dX2_paint_11 ?_
      refine z_icmp_le C (by omega) (by omega) (tgt := 18) dX2_paint_14 (by decide) (fun hc_3 => ?_) (fun hc_3 => ?_)
      · refine z_iload_n C dX2_paint_18 2 rfl ?_
        refine z_bipush C (z := 64) dX2_paint_19 (by decide) ?_
        refine z_idiv C dX2_paint_21 (by omega) (by decide) ?_
        refine z_istore C (lv' := [(5, vI (x / 64)), (0, .ref (a 2)), (1, vI r), (2, vI x), (3, vI y), (4, vI (b2i d))]) dX2_paint_22 (by decide) rfl ?_
        have J24 : ∀ (f : Nat) (g : Nat → BitVec 64) (k : Int), (x / 64 ≤ k ∧ k ≤ (y - 1) / 64 + 1) → (g = ptC wo co r x y d k) → ((y - 1) / 64 + 1 - k).toNat < f → V 0 0 (CW cy a kd co mk al dz rd rw g sa sz ps bt ou bi dm pl re cu) [(0, .ref (a 2)), (1, vI r), (2, vI x), (3, vI y), (4, vI (b2i d)), (5, vI k)] [] 24 := by
          intro f
          induction f with
          | zero => intro g k i0 i1 hf; exact absurd hf (Nat.not_lt_zero _)
          | succ f ih =>
            intro g k i0 i1 hf
            refine z_iload C dX2_paint_24 5 rfl ?_
            refine z_iload_n C dX2_paint_26 3 rfl ?_
            refine z_iconst C (z := 1) dX2_paint_27 ?_
            refine z_isub C dX2_paint_28 ?_
            refine z_bipush C (z := 64) dX2_paint_29 (by decide) ?_
            refine z_idiv C dX2_paint_31 (by omega) (by decide) ?_
            refine z_icmp_gt C (by omega) (by omega) (tgt := 143) dX2_paint_32 (by decide) (fun hc_4 => ?_) (fun hc_4 => ?_)
            · refine z_vret C dX2_paint_143 () ?_ ?_ ?_ (by decide) (by decide)
              · exact rfl
              · exact trivial
              · rw [pnC, if_pos (by omega), i1, show k = (y - 1) / 64 + 1 by omega]
            · refine z_aload_n C dX2_paint_35 0 rfl ?_
              have hix := ixC_in (co := co) (k := k) hr (by omega)
              refine z_iload_n C dX2_paint_36 1 rfl ?_
              refine z_iload C dX2_paint_37 5 rfl ?_
              refine z_callV C (As := [vI r, vI k]) (st := []) (c_X2_indexOf l D cy tw a kd co mk al dz rd rw g sa sz ps bt ou bi dm pl re cu r k  (by omega) (by omega) (by omega)) gX2_paint_X2_indexOf kn_X2_indexOf rfl ⟨rfl, rfl, Nat.le_of_ble_eq_true rfl, Nat.le_of_ble_eq_true rfl⟩ 2 rfl (ci := 4) rfl rfl (Nat.le_of_ble_eq_true rfl) ⟨Nat.le_of_ble_eq_true rfl, Nat.le_of_ble_eq_true rfl⟩ dX2_paint_39 (fun u5 hu5 => ?_)
              clear hu5; clear u5
              show V 0 0 (CW cy a kd co mk al dz rd rw g sa sz ps bt ou bi dm pl re cu) [(0, .ref (a 2)), (1, vI r), (2, vI x), (3, vI y), (4, vI (b2i d)), (5, vI k)] [vI (ixC co r k)] 42
              refine z_istore C (lv' := [(6, vI (ixC co r k)), (0, .ref (a 2)), (1, vI r), (2, vI x), (3, vI y), (4, vI (b2i d)), (5, vI k)]) dX2_paint_42 (by decide) rfl ?_
              refine z_ldc2 C (w := 18446744073709551615#64) k1 dX2_paint_44 ?_
              refine z_iload_n C dX2_paint_47 3 rfl ?_
              refine z_bipush C (z := 64) dX2_paint_48 (by decide) ?_
              refine z_iload C dX2_paint_50 6 rfl ?_
              refine z_imul C dX2_paint_52 ?_
              refine z_mmax C k2 k3 k4 k5 (Nat.le_of_ble_eq_true rfl) (Nat.le_of_ble_eq_true rfl) (Nat.le_of_ble_eq_true rfl) (Nat.le_of_ble_eq_true rfl) (x := x) (y := (64 * k)) (by omega) (by omega) dX2_paint_53 ?_
              refine z_lshl C (y := (if x < 64 * k then 64 * k else x)) (((if x < 64 * k then 64 * k else x) % 64).toNat) (by split <;> omega) (rfl) dX2_paint_56 ?_
              refine z_lstore C (lv' := [(7, vJ ((18446744073709551615#64) <<< (((if x < 64 * k then 64 * k else x) % 64).toNat))), (6, vI (ixC co r k)), (0, .ref (a 2)), (1, vI r), (2, vI x), (3, vI y), (4, vI (b2i d)), (5, vI k)]) dX2_paint_57 (by decide) rfl ?_
              refine z_ldc2 C (w := 18446744073709551615#64) k1 dX2_paint_59 ?_
              refine z_iload_n C dX2_paint_62 5 rfl ?_
              refine z_bipush C (z := 64) dX2_paint_63 (by decide) ?_
              refine z_iload C dX2_paint_65 7 rfl ?_
              refine z_imul C dX2_paint_67 ?_
              refine z_bipush C (z := 64) dX2_paint_68 (by decide) ?_
              refine z_iadd C dX2_paint_70 ?_
              refine z_mmin C k6 k7 k4 k8 (Nat.le_of_ble_eq_true rfl) (Nat.le_of_ble_eq_true rfl) (Nat.le_of_ble_eq_true rfl) (Nat.le_of_ble_eq_true rfl) (x := y) (y := ((64 * k) + 64)) (by omega) (by omega) dX2_paint_71 ?_
              refine z_ineg C dX2_paint_74 ?_
              refine z_lushr C (y := (-(if (64 * k) + 64 < y then (64 * k) + 64 else y))) (((-(if (64 * k) + 64 < y then (64 * k) + 64 else y)) % 64).toNat) (by split <;> omega) (rfl) dX2_paint_75 ?_
              refine z_lstore C (lv' := [(9, vJ ((18446744073709551615#64) >>> (((-(if (64 * k) + 64 < y then (64 * k) + 64 else y)) % 64).toNat))), (7, vJ ((18446744073709551615#64) <<< (((if x < 64 * k then 64 * k else x) % 64).toNat))), (6, vI (ixC co r k)), (0, .ref (a 2)), (1, vI r), (2, vI x), (3, vI y), (4, vI (b2i d)), (5, vI k)]) dX2_paint_76 (by decide) rfl ?_
              refine z_iload C dX2_paint_78 2 rfl ?_
              refine z_if_lt C (by omega) (tgt := 137) dX2_paint_80 (by decide) (fun hc_6 => ?_) (fun hc_6 => ?_)
              · exfalso; omega
              · refine z_iload C dX2_paint_83 2 rfl ?_
                refine z_aload_n C dX2_paint_85 3 rfl ?_
                refine z_get C hinX2 (ci := 4) rfl 2 rfl 3 (by decide) k9 rfl (v := .ref (a 9)) rfl dX2_paint_86 ?_
                refine z_alen C 9 2 rfl rfl (N := wn co) rfl dX2_paint_89 ?_
                refine z_icmp_ge C (by omega) (by omega) (tgt := 137) dX2_paint_90 (by decide) (fun hc_7 => ?_) (fun hc_7 => ?_)
                · exfalso; omega
                · refine z_aload_n C dX2_paint_93 3 rfl ?_
                  refine z_get C hinX2 (ci := 4) rfl 2 rfl 3 (by decide) k9 rfl (v := .ref (a 9)) rfl dX2_paint_94 ?_
                  refine z_iload C dX2_paint_97 2 rfl ?_
                  refine z_lald C 9 2 (g := g) rfl rfl (by omega) (by omega) (by omega) dX2_paint_99 ?_
                  refine z_lload C dX2_paint_100 1 rfl ?_
                  refine z_lload C dX2_paint_102 0 rfl ?_
                  refine z_land C dX2_paint_104 ?_
                  refine z_ldc2 C (w := 18446744073709551615#64) k1 dX2_paint_105 ?_
                  refine z_lxor C dX2_paint_108 ?_
                  refine z_land C dX2_paint_109 ?_
                  refine z_lstore C (lv' := [(11, vJ ((g (ixC co r k : Int).toNat) &&& ((((18446744073709551615#64) <<< (((if x < 64 * k then 64 * k else x) % 64).toNat)) &&& ((18446744073709551615#64) >>> (((-(if (64 * k) + 64 < y then (64 * k) + 64 else y)) % 64).toNat))) ^^^ (18446744073709551615#64)))), (9, vJ ((18446744073709551615#64) >>> (((-(if (64 * k) + 64 < y then (64 * k) + 64 else y)) % 64).toNat))), (7, vJ ((18446744073709551615#64) <<< (((if x < 64 * k then 64 * k else x) % 64).toNat))), (6, vI (ixC co r k)), (0, .ref (a 2)), (1, vI r), (2, vI x), (3, vI y), (4, vI (b2i d)), (5, vI k)]) dX2_paint_110 (by decide) rfl ?_
                  refine z_aload_n C dX2_paint_112 4 rfl ?_
                  refine z_get C hinX2 (ci := 4) rfl 2 rfl 3 (by decide) k9 rfl (v := .ref (a 9)) rfl dX2_paint_113 ?_
                  refine z_iload C dX2_paint_116 3 rfl ?_
                  refine z_iload C dX2_paint_118 8 rfl ?_
                  refine z_ifz C (tgt := 134) dX2_paint_120 (by decide) (fun cd => ?_) (fun cd => ?_)
                  · refine z_lload C dX2_paint_134 0 rfl ?_
                    refine z_last C 9 2 (g := g) rfl rfl (by omega) (by omega) (by omega) dX2_paint_136 (ws' := CW cy a kd co mk al dz rd rw (va_up g (ixC co r k : Int).toNat ((g (ixC co r k : Int).toNat) &&& ((((18446744073709551615#64) <<< (((if x < 64 * k then 64 * k else x) % 64).toNat)) &&& ((18446744073709551615#64) >>> (((-(if (64 * k) + 64 < y then (64 * k) + 64 else y)) % 64).toNat))) ^^^ (18446744073709551615#64)))) sa sz ps bt ou bi dm pl re cu) rfl ?_
                    refine z_iinc C (lv' := [(5, vI (k + 1)), (11, vJ ((g (ixC co r k : Int).toNat) &&& ((((18446744073709551615#64) <<< (((if x < 64 * k then 64 * k else x) % 64).toNat)) &&& ((18446744073709551615#64) >>> (((-(if (64 * k) + 64 < y then (64 * k) + 64 else y)) % 64).toNat))) ^^^ (18446744073709551615#64)))), (9, vJ ((18446744073709551615#64) >>> (((-(if (64 * k) + 64 < y then (64 * k) + 64 else y)) % 64).toNat))), (7, vJ ((18446744073709551615#64) <<< (((if x < 64 * k then 64 * k else x) % 64).toNat))), (6, vI (ixC co r k)), (0, .ref (a 2)), (1, vI r), (2, vI x), (3, vI y), (4, vI (b2i d))]) dX2_paint_137 9 rfl (by decide) rfl ?_
                    refine z_goto C (tgt := 24) dX2_paint_140 (by decide) ?_
                    refine z_lsub C [5, 6, 7, 8, 9, 0] rfl ?_
                    exact ih (va_up g (ixC co r k : Int).toNat ((g (ixC co r k : Int).toNat) &&& ((((18446744073709551615#64) <<< (((if x < 64 * k then 64 * k else x) % 64).toNat)) &&& ((18446744073709551615#64) >>> (((-(if (64 * k) + 64 < y then (64 * k) + 64 else y)) % 64).toNat))) ^^^ (18446744073709551615#64)))) (k + 1) (by omega) (by rw [hix.1, i1]; have := ptC_s (wo := wo) (x := x) (y := y) (d := d) (show 0 ≤ r * ((co + 63) / 64) + k by omega) i0.1; subst cd; rw [pwC] at this; exact this) (by omega)
                  · refine z_lload C dX2_paint_123 0 rfl ?_
                    refine z_lload C dX2_paint_125 2 rfl ?_
                    refine z_lload C dX2_paint_127 1 rfl ?_
                    refine z_land C dX2_paint_129 ?_
                    refine z_lor C dX2_paint_130 ?_
                    refine z_goto C (tgt := 136) dX2_paint_131 (by decide) ?_
                    refine z_last C 9 2 (g := g) rfl rfl (by omega) (by omega) (by omega) dX2_paint_136 (ws' := CW cy a kd co mk al dz rd rw (va_up g (ixC co r k : Int).toNat (((g (ixC co r k : Int).toNat) &&& ((((18446744073709551615#64) <<< (((if x < 64 * k then 64 * k else x) % 64).toNat)) &&& ((18446744073709551615#64) >>> (((-(if (64 * k) + 64 < y then (64 * k) + 64 else y)) % 64).toNat))) ^^^ (18446744073709551615#64))) ||| (((18446744073709551615#64) <<< (((if x < 64 * k then 64 * k else x) % 64).toNat)) &&& ((18446744073709551615#64) >>> (((-(if (64 * k) + 64 < y then (64 * k) + 64 else y)) % 64).toNat))))) sa sz ps bt ou bi dm pl re cu) rfl ?_
                    refine z_iinc C (lv' := [(5, vI (k + 1)), (11, vJ ((g (ixC co r k : Int).toNat) &&& ((((18446744073709551615#64) <<< (((if x < 64 * k then 64 * k else x) % 64).toNat)) &&& ((18446744073709551615#64) >>> (((-(if (64 * k) + 64 < y then (64 * k) + 64 else y)) % 64).toNat))) ^^^ (18446744073709551615#64)))), (9, vJ ((18446744073709551615#64) >>> (((-(if (64 * k) + 64 < y then (64 * k) + 64 else y)) % 64).toNat))), (7, vJ ((18446744073709551615#64) <<< (((if x < 64 * k then 64 * k else x) % 64).toNat))), (6, vI (ixC co r k)), (0, .ref (a 2)), (1, vI r), (2, vI x), (3, vI y), (4, vI (b2i d))]) dX2_paint_137 9 rfl (by decide) rfl ?_
                    refine z_goto C (tgt := 24) dX2_paint_140 (by decide) ?_
                    refine z_lsub C [5, 6, 7, 8, 9, 0] rfl ?_
                    exact ih (va_up g (ixC co r k : Int).toNat (((g (ixC co r k : Int).toNat) &&& ((((18446744073709551615#64) <<< (((if x < 64 * k then 64 * k else x) % 64).toNat)) &&& ((18446744073709551615#64) >>> (((-(if (64 * k) + 64 < y then (64 * k) + 64 else y)) % 64).toNat))) ^^^ (18446744073709551615#64))) ||| (((18446744073709551615#64) <<< (((if x < 64 * k then 64 * k else x) % 64).toNat)) &&& ((18446744073709551615#64) >>> (((-(if (64 * k) + 64 < y then (64 * k) + 64 else y)) % 64).toNat))))) (k + 1) (by omega) (by rw [hix.1, i1]; have := ptC_s (wo := wo) (x := x) (y := y) (d := d) (show 0 ≤ r * ((co + 63) / 64) + k by omega) i0.1; subst cd; rw [pwC] at this; exact this) (by omega)
        refine z_lsub C [1, 2, 3, 4, 5, 0] rfl ?_
        exact J24 _ wo (x / 64) (by omega) (ptC_0 wo co r x y d) (Nat.lt_succ_self _)
      · refine z_vret C dX2_paint_17 () ?_ ?_ ?_ (by decide) (by decide)
        · exact rfl
        · exact trivial
        · rw [pnC, if_neg (by omega)]
theorem kn_X2_whiten : zKn yX2_whiten wsX2_whiten cX2_whiten 2 (none) 1 := ⟨⟨_, rfl⟩, by decide +kernel, by decide +kernel, by decide +kernel⟩
set_option maxHeartbeats 400000 in
set_option maxRecDepth 100000 in
theorem c_X2_whiten (l : Launch) (D : va_G) (cy : Nat → ClassId) (tw : Nat → Nat) (a : Nat → Nat) (kd : Int) (co : Int) (mk : Bool) (al : Bool) (dz : Bool) (rd : Bool) (rw : Int) (wo : Nat → BitVec 64) (sa : Nat → Int) (sz : Int) (ps : Int) (bt : Nat → Int) (ou : Nat → BitVec 64) (bi : Int) (dm : Int) (pl : Bool) (re : Int) (cu : Bool) (r : Int)  (hco : 1 ≤ co ∧ co ≤ 700) (hr : 0 ≤ r ∧ r < 24) : zMet l yX2_whiten wsX2_whiten { frames := 2, cells := 0, slots := 0, locals := 55 } D (zT cy) tw (CW cy a kd co mk al dz rd rw wo sa sz ps bt ou bi dm pl re cu) [.ref (a 2), vI r] 0 0 (S := Unit) (fun _ => none) (fun _ => CW cy a kd co mk al dz rd rw (pnC wo co r 0 co false) sa sz ps bt ou bi dm pl re cu) (fun _ => True) := by
  refine z_met (cc := cX2_whiten) (nL := 2) (ret := none) (by decide +kernel) rfl (Nat.le_of_ble_eq_true rfl) (lv := [(0, .ref (a 2)), (1, vI r)]) rfl ?_
  intro V p_ e_ s_ m_ args_ below_ meth_ c_ A_ C hmn
  have hinX2 : ∀ w ∈ u_ws RX2 TX2 5, w ∈ wsX2_whiten := by decide +kernel
  have k0 : Cond.fieldLink RX2 15 "FaxFilter$Picture" "columns" "I" ∈ wsX2_whiten := List.mem_of_getElem? (i := 1) rfl
  refine z_aload_n C dX2_whiten_0 0 rfl ?_
  refine z_iload_n C dX2_whiten_1 1 rfl ?_
  refine z_iconst C (z := 0) dX2_whiten_2 ?_
  refine z_aload_n C dX2_whiten_3 0 rfl ?_
  refine z_get C hinX2 (ci := 4) rfl 2 rfl 0 (by decide) k0 rfl (v := vI co) rfl dX2_whiten_4 ?_
  refine z_iconst C (z := 0) dX2_whiten_7 ?_
  refine z_callV C (As := [vI r, vI 0, vI co, vI 0]) (st := []) (c_X2_paint l D cy tw a kd co mk al dz rd rw wo sa sz ps bt ou bi dm pl re cu r 0 co false  (by omega) (by omega) (by omega) (by omega)) gX2_whiten_X2_paint kn_X2_paint rfl ⟨rfl, rfl, Nat.le_of_ble_eq_true rfl, Nat.le_of_ble_eq_true rfl⟩ 2 rfl (ci := 4) rfl rfl (Nat.le_of_ble_eq_true rfl) ⟨Nat.le_of_ble_eq_true rfl, Nat.le_of_ble_eq_true rfl⟩ dX2_whiten_8 (fun u1 hu1 => ?_)
  clear hu1; clear u1
  show V 0 0 (CW cy a kd co mk al dz rd rw (pnC wo co r 0 co false) sa sz ps bt ou bi dm pl re cu) [(0, .ref (a 2)), (1, vI r)] [] 11
  refine z_vret C dX2_whiten_11 () ?_ ?_ ?_ (by decide) (by decide)
  · exact rfl
  · exact trivial
  · exact rfl
theorem kn_X2_copyAbove : zKn yX2_copyAbove wsX2_copyAbove cX2_copyAbove 4 (none) 1 := ⟨⟨_, rfl⟩, by decide +kernel, by decide +kernel, by decide +kernel⟩
set_option maxHeartbeats 400000 in
set_option maxRecDepth 100000 in
theorem c_X2_copyAbove (l : Launch) (D : va_G) (cy : Nat → ClassId) (tw : Nat → Nat) (a : Nat → Nat) (kd : Int) (co : Int) (mk : Bool) (al : Bool) (dz : Bool) (rd : Bool) (rw : Int) (wo : Nat → BitVec 64) (sa : Nat → Int) (sz : Int) (ps : Int) (bt : Nat → Int) (ou : Nat → BitVec 64) (bi : Int) (dm : Int) (pl : Bool) (re : Int) (cu : Bool) (r : Int)  (hco : 1 ≤ co ∧ co ≤ 700) (hr : 0 ≤ r ∧ r < 24) : zMet l yX2_copyAbove wsX2_copyAbove { frames := 2, cells := 0, slots := 0, locals := 46 } D (zT cy) tw (CW cy a kd co mk al dz rd rw wo sa sz ps bt ou bi dm pl re cu) [.ref (a 2), vI r] 0 0 (S := Unit) (fun _ => none) (fun _ => CW cy a kd co mk al dz rd rw (cpC wo co r ((co + 63) / 64)) sa sz ps bt ou bi dm pl re cu) (fun _ => True) := by
  refine z_met (cc := cX2_copyAbove) (nL := 4) (ret := none) (by decide +kernel) rfl (Nat.le_of_ble_eq_true rfl) (lv := [(0, .ref (a 2)), (1, vI r)]) rfl ?_
  intro V p_ e_ s_ m_ args_ below_ meth_ c_ A_ C hmn
  have hinX2 : ∀ w ∈ u_ws RX2 TX2 5, w ∈ wsX2_copyAbove := by decide +kernel
  have k0 : Cond.fieldLink RX2 19 "FaxFilter$Picture" "wide" "I" ∈ wsX2_copyAbove := List.mem_of_getElem? (i := 1) rfl
  have k1 : Cond.fieldLink RX2 22 "FaxFilter$Picture" "words" "[J" ∈ wsX2_copyAbove := List.mem_of_getElem? (i := 2) rfl
  have hwn := wn_eq hco.1
  refine z_iconst C (z := 0) dX2_copyAbove_0 ?_
  refine z_istore_n C (lv' := [(2, vI 0), (0, .ref (a 2)), (1, vI r)]) dX2_copyAbove_1 rfl (by decide) rfl ?_
  have J2 : ∀ (f : Nat) (g : Nat → BitVec 64) (k : Int), (0 ≤ k ∧ k ≤ (co + 63) / 64) → (g = cpC wo co r k) → ((co + 63) / 64 - k).toNat < f → V 0 0 (CW cy a kd co mk al dz rd rw g sa sz ps bt ou bi dm pl re cu) [(0, .ref (a 2)), (1, vI r), (2, vI k)] [] 2 := by
    intro f
    induction f with
    | zero => intro g k i0 i1 hf; exact absurd hf (Nat.not_lt_zero _)
    | succ f ih =>
      intro g k i0 i1 hf
      refine z_iload_n C dX2_copyAbove_2 2 rfl ?_
      refine z_aload_n C dX2_copyAbove_3 0 rfl ?_
      refine z_get C hinX2 (ci := 4) rfl 2 rfl 2 (by decide) k0 rfl (v := vI ((co + 63) / 64)) rfl dX2_copyAbove_4 ?_
      refine z_icmp_ge C (by omega) (by omega) (tgt := 50) dX2_copyAbove_7 (by decide) (fun hc_1 => ?_) (fun hc_1 => ?_)
      · refine z_vret C dX2_copyAbove_50 () ?_ ?_ ?_ (by decide) (by decide)
        · exact rfl
        · exact trivial
        · rw [i1, show k = (co + 63) / 64 by omega]
      · refine z_aload_n C dX2_copyAbove_10 0 rfl ?_
        have hix := ixC_in (co := co) (k := k) hr (by omega)
        refine z_iload_n C dX2_copyAbove_11 1 rfl ?_
        refine z_iload_n C dX2_copyAbove_12 2 rfl ?_
        refine z_callV C (As := [vI r, vI k]) (st := []) (c_X2_indexOf l D cy tw a kd co mk al dz rd rw g sa sz ps bt ou bi dm pl re cu r k  (by omega) (by omega) (by omega)) gX2_copyAbove_X2_indexOf kn_X2_indexOf rfl ⟨rfl, rfl, Nat.le_of_ble_eq_true rfl, Nat.le_of_ble_eq_true rfl⟩ 2 rfl (ci := 4) rfl rfl (Nat.le_of_ble_eq_true rfl) ⟨Nat.le_of_ble_eq_true rfl, Nat.le_of_ble_eq_true rfl⟩ dX2_copyAbove_13 (fun u2 hu2 => ?_)
        clear hu2; clear u2
        show V 0 0 (CW cy a kd co mk al dz rd rw g sa sz ps bt ou bi dm pl re cu) [(0, .ref (a 2)), (1, vI r), (2, vI k)] [vI (ixC co r k)] 16
        refine z_istore_n C (lv' := [(3, vI (ixC co r k)), (0, .ref (a 2)), (1, vI r), (2, vI k)]) dX2_copyAbove_16 rfl (by decide) rfl ?_
        refine z_iload_n C dX2_copyAbove_17 0 rfl ?_
        refine z_if_lt C (by omega) (tgt := 44) dX2_copyAbove_18 (by decide) (fun hc_3 => ?_) (fun hc_3 => ?_)
        · exfalso; omega
        · refine z_iload_n C dX2_copyAbove_21 0 rfl ?_
          refine z_aload_n C dX2_copyAbove_22 1 rfl ?_
          refine z_get C hinX2 (ci := 4) rfl 2 rfl 3 (by decide) k1 rfl (v := .ref (a 9)) rfl dX2_copyAbove_23 ?_
          refine z_alen C 9 2 rfl rfl (N := wn co) rfl dX2_copyAbove_26 ?_
          refine z_icmp_ge C (by omega) (by omega) (tgt := 44) dX2_copyAbove_27 (by decide) (fun hc_4 => ?_) (fun hc_4 => ?_)
          · exfalso; omega
          · refine z_aload_n C dX2_copyAbove_30 1 rfl ?_
            refine z_get C hinX2 (ci := 4) rfl 2 rfl 3 (by decide) k1 rfl (v := .ref (a 9)) rfl dX2_copyAbove_31 ?_
            refine z_iload_n C dX2_copyAbove_34 0 rfl ?_
            refine z_aload_n C dX2_copyAbove_35 1 rfl ?_
            refine z_iload_n C dX2_copyAbove_36 2 rfl ?_
            refine z_iconst C (z := 1) dX2_copyAbove_37 ?_
            refine z_isub C dX2_copyAbove_38 ?_
            refine z_iload_n C dX2_copyAbove_39 3 rfl ?_
            refine z_callV C (As := [vI (r - 1), vI k]) (st := [vI (ixC co r k), .ref (a 9)]) (c_X2_wordOf l D cy tw a kd co mk al dz rd rw g sa sz ps bt ou bi dm pl re cu (r - 1) k  (by omega) (by omega) (by omega)) gX2_copyAbove_X2_wordOf kn_X2_wordOf rfl ⟨rfl, rfl, Nat.le_of_ble_eq_true rfl, Nat.le_of_ble_eq_true rfl⟩ 2 rfl (ci := 4) rfl rfl (Nat.le_of_ble_eq_true rfl) ⟨Nat.le_of_ble_eq_true rfl, Nat.le_of_ble_eq_true rfl⟩ dX2_copyAbove_40 (fun u5 hu5 => ?_)
            clear hu5; clear u5
            show V 0 0 (CW cy a kd co mk al dz rd rw g sa sz ps bt ou bi dm pl re cu) [(3, vI (ixC co r k)), (0, .ref (a 2)), (1, vI r), (2, vI k)] [vJ (wdC g co (r - 1) k), vI (ixC co r k), .ref (a 9)] 43
            refine z_last C 9 2 (g := g) rfl rfl (by omega) (by omega) (by omega) dX2_copyAbove_43 (ws' := CW cy a kd co mk al dz rd rw (va_up g (ixC co r k : Int).toNat (wdC g co (r - 1) k)) sa sz ps bt ou bi dm pl re cu) rfl ?_
            refine z_iinc C (lv' := [(2, vI (k + 1)), (3, vI (ixC co r k)), (0, .ref (a 2)), (1, vI r)]) dX2_copyAbove_44 3 rfl (by decide) rfl ?_
            refine z_goto C (tgt := 2) dX2_copyAbove_47 (by decide) ?_
            refine z_lsub C [2, 3, 0] rfl ?_
            exact ih (va_up g (ixC co r k : Int).toNat (wdC g co (r - 1) k)) (k + 1) (by omega) (by rw [hix.1, i1, cpC_up i0.2]; exact cpC_s (by omega) i0.1) (by omega)
  refine z_lsub C [1, 2, 0] rfl ?_
  exact J2 _ wo 0 (by omega) (cpC_0 wo co r) (Nat.lt_succ_self _)
