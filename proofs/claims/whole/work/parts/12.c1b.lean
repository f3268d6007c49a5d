def inC (bt : Nat → Int) (sz : Int) : Int → Bool := fun i => decide (bitC bt sz i = 1)
theorem bitC_01 (bt : Nat → Int) (sz i : Int) : 0 ≤ bitC bt sz i ∧ bitC bt sz i < 2 := by unfold bitC; omega
theorem inC_t {bt : Nat → Int} {sz i : Int} (h : ¬ bitC bt sz i = 0) : inC bt sz i = true := by
  have := bitC_01 bt sz i
  unfold inC; exact decide_eq_true (by omega)
theorem inC_f {bt : Nat → Int} {sz i : Int} (h : bitC bt sz i = 0) : inC bt sz i = false := by
  unfold inC; exact decide_eq_false (by omega)
theorem kn_X0_zeros : zKn yX0_zeros wsX0_zeros cX0_zeros 3 (some .int) 0 := ⟨⟨_, rfl⟩, by decide +kernel, by decide +kernel, by decide +kernel⟩
set_option maxHeartbeats 400000 in
set_option maxRecDepth 100000 in
theorem c_X0_zeros (l : Launch) (D : va_G) (cy : Nat → ClassId) (tw : Nat → Nat) (a : Nat → Nat) (kd : Int) (co : Int) (mk : Bool) (al : Bool) (dz : Bool) (rd : Bool) (rw : Int) (wo : Nat → BitVec 64) (sa : Nat → Int) (sz : Int) (ps : Int) (bt : Nat → Int) (ou : Nat → BitVec 64) (bi : Int) (dm : Int) (pl : Bool) (re : Int) (cu : Bool)   (h0 : 0 ≤ sz ∧ sz ≤ 400) (h1 : 0 ≤ ps ∧ ps ≤ 8 * sz) : zMet l yX0_zeros wsX0_zeros { frames := 1, cells := 0, slots := 0, locals := 22 } D (zT cy) tw (CW cy a kd co mk al dz rd rw wo sa sz ps bt ou bi dm pl re cu) [.ref (a 5)] 0 0 (S := Unit) (fun _ => some (vI (zer (inC bt sz) (8 * sz) ps))) (fun _ => CW cy a kd co mk al dz rd rw wo sa sz ps bt ou bi dm pl re cu) (fun _ => True) := by
  refine z_met (cc := cX0_zeros) (nL := 3) (ret := some .int) (by decide +kernel) rfl (Nat.le_of_ble_eq_true rfl) (lv := [(0, .ref (a 5))]) rfl ?_
  intro V p_ e_ s_ m_ args_ below_ meth_ c_ A_ C hmn
  have hinX0 : ∀ w ∈ u_ws RX0 TX0 3, w ∈ wsX0_zeros := by decide +kernel
  have k0 : Cond.fieldLink RX0 19 "FaxFilter$BitsIn" "passed" "I" ∈ wsX0_zeros := List.mem_of_getElem? (i := 1) rfl
  refine z_aload_n C dX0_zeros_0 0 rfl ?_
  refine z_callV C (As := []) (st := []) (c_X0_left l D cy tw a kd co mk al dz rd rw wo sa sz ps bt ou bi dm pl re cu   ) gX0_zeros_X0_left kn_X0_left rfl ⟨rfl, rfl, Nat.le_of_ble_eq_true rfl, Nat.le_of_ble_eq_true rfl⟩ 5 rfl (ci := 2) rfl rfl (Nat.le_of_ble_eq_true rfl) ⟨Nat.le_of_ble_eq_true rfl, Nat.le_of_ble_eq_true rfl⟩ dX0_zeros_1 (fun u1 hu1 => ?_)
  clear hu1; clear u1
  show V 0 0 (CW cy a kd co mk al dz rd rw wo sa sz ps bt ou bi dm pl re cu) [(0, .ref (a 5))] [vI (8 * sz - ps)] 4
  refine z_istore_n C (lv' := [(1, vI (8 * sz - ps)), (0, .ref (a 5))]) dX0_zeros_4 rfl (by decide) rfl ?_
  refine z_iconst C (z := 0) dX0_zeros_5 ?_
  refine z_istore_n C (lv' := [(2, vI 0), (1, vI (8 * sz - ps)), (0, .ref (a 5))]) dX0_zeros_6 rfl (by decide) rfl ?_
  have J7 : ∀ (f : Nat) (n : Int), (0 ≤ n) → (n ≤ 8 * sz - ps) → (zer (inC bt sz) (8 * sz) ps = n + zer (inC bt sz) (8 * sz) (ps + n)) → (8 * sz - ps - n).toNat < f → V 0 0 (CW cy a kd co mk al dz rd rw wo sa sz ps bt ou bi dm pl re cu) [(0, .ref (a 5)), (1, vI (8 * sz - ps)), (2, vI n)] [] 7 := by
    intro f
    induction f with
    | zero => intro n i0 i1 i2 hf; exact absurd hf (Nat.not_lt_zero _)
    | succ f ih =>
      intro n i0 i1 i2 hf
      refine z_iload_n C dX0_zeros_7 2 rfl ?_
      refine z_iload_n C dX0_zeros_8 1 rfl ?_
      refine z_icmp_ge C (by omega) (by omega) (tgt := 33) dX0_zeros_9 (by decide) (fun hc_2 => ?_) (fun hc_2 => ?_)
      · refine z_iload_n C dX0_zeros_33 1 rfl ?_
        refine z_iret (x := (8 * sz - ps)) C dX0_zeros_34 () ?_ ?_ ?_ (by decide) (by decide)
        · rw [i2, zer_ge (by omega), show n = 8 * sz - ps by omega, Int.add_zero]
        · exact trivial
        · exact rfl
      · refine z_aload_n C dX0_zeros_12 0 rfl ?_
        refine z_aload_n C dX0_zeros_13 0 rfl ?_
        refine z_get C hinX0 (ci := 2) rfl 5 rfl 1 (by decide) k0 rfl (v := vI ps) rfl dX0_zeros_14 ?_
        refine z_iload_n C dX0_zeros_17 2 rfl ?_
        refine z_iadd C dX0_zeros_18 ?_
        refine z_callV C (As := [vI (ps + n)]) (st := []) (c_X0_bitAt l D cy tw a kd co mk al dz rd rw wo sa sz ps bt ou bi dm pl re cu (ps + n)  (by omega) (by omega)) gX0_zeros_X0_bitAt kn_X0_bitAt rfl ⟨rfl, rfl, Nat.le_of_ble_eq_true rfl, Nat.le_of_ble_eq_true rfl⟩ 5 rfl (ci := 2) rfl rfl (Nat.le_of_ble_eq_true rfl) ⟨Nat.le_of_ble_eq_true rfl, Nat.le_of_ble_eq_true rfl⟩ dX0_zeros_19 (fun u3 hu3 => ?_)
        clear hu3; clear u3
        show V 0 0 (CW cy a kd co mk al dz rd rw wo sa sz ps bt ou bi dm pl re cu) [(0, .ref (a 5)), (1, vI (8 * sz - ps)), (2, vI n)] [vI (bitC bt sz (ps + n))] 22
        refine z_if_eq C (by have := bitC_01 bt sz (ps + n); omega) (tgt := 27) dX0_zeros_22 (by decide) (fun cb => ?_) (fun cb => ?_)
        · refine z_iinc C (lv' := [(2, vI (n + 1)), (0, .ref (a 5)), (1, vI (8 * sz - ps))]) dX0_zeros_27 2 rfl (by decide) rfl ?_
          refine z_goto C (tgt := 7) dX0_zeros_30 (by decide) ?_
          refine z_lsub C [1, 2, 0] rfl ?_
          exact ih (n + 1) (by omega) (by omega) (by rw [show ps + (n + 1) = ps + n + 1 by omega, i2, zer_st (by omega) (inC_f cb)]; omega) (by omega)
        · refine z_iload_n C dX0_zeros_25 2 rfl ?_
          refine z_iret (x := n) C dX0_zeros_26 () ?_ ?_ ?_ (by decide) (by decide)
          · rw [i2, zer_lt (by omega) (inC_t cb), Int.add_zero]
          · exact trivial
          · exact rfl
  refine z_lsub C [2, 1, 0] rfl ?_
  exact J7 _ 0 (by omega) (by omega) (by simp) (Nat.lt_succ_self _)
theorem kn_X0_isMarkNext : zKn yX0_isMarkNext wsX0_isMarkNext cX0_isMarkNext 2 (some .boolean) 0 := ⟨⟨_, rfl⟩, by decide +kernel, by decide +kernel, by decide +kernel⟩
set_option maxHeartbeats 400000 in
set_option maxRecDepth 100000 in
theorem c_X0_isMarkNext (l : Launch) (D : va_G) (cy : Nat → ClassId) (tw : Nat → Nat) (a : Nat → Nat) (kd : Int) (co : Int) (mk : Bool) (al : Bool) (dz : Bool) (rd : Bool) (rw : Int) (wo : Nat → BitVec 64) (sa : Nat → Int) (sz : Int) (ps : Int) (bt : Nat → Int) (ou : Nat → BitVec 64) (bi : Int) (dm : Int) (pl : Bool) (re : Int) (cu : Bool)   (h0 : 0 ≤ sz ∧ sz ≤ 400) (h1 : 0 ≤ ps ∧ ps ≤ 8 * sz) : zMet l yX0_isMarkNext wsX0_isMarkNext { frames := 2, cells := 0, slots := 0, locals := 44 } D (zT cy) tw (CW cy a kd co mk al dz rd rw wo sa sz ps bt ou bi dm pl re cu) [.ref (a 5)] 0 0 (S := Unit) (fun _ => some (vI (b2i (isMk (inC bt sz) (8 * sz) ps)))) (fun _ => CW cy a kd co mk al dz rd rw wo sa sz ps bt ou bi dm pl re cu) (fun _ => True) := by
  refine z_met (cc := cX0_isMarkNext) (nL := 2) (ret := some .boolean) (by decide +kernel) rfl (Nat.le_of_ble_eq_true rfl) (lv := [(0, .ref (a 5))]) rfl ?_
  intro V p_ e_ s_ m_ args_ below_ meth_ c_ A_ C hmn
  refine z_aload_n C dX0_isMarkNext_0 0 rfl ?_
  refine z_callV C (As := []) (st := []) (c_X0_zeros l D cy tw a kd co mk al dz rd rw wo sa sz ps bt ou bi dm pl re cu   (by omega) (by omega)) gX0_isMarkNext_X0_zeros kn_X0_zeros rfl ⟨rfl, rfl, Nat.le_of_ble_eq_true rfl, Nat.le_of_ble_eq_true rfl⟩ 5 rfl (ci := 2) rfl rfl (Nat.le_of_ble_eq_true rfl) ⟨Nat.le_of_ble_eq_true rfl, Nat.le_of_ble_eq_true rfl⟩ dX0_isMarkNext_1 (fun u1 hu1 => ?_)
  clear hu1; clear u1
  show V 0 0 (CW cy a kd co mk al dz rd rw wo sa sz ps bt ou bi dm pl re cu) [(0, .ref (a 5))] [vI (zer (inC bt sz) (8 * sz) ps)] 4
  refine z_istore_n C (lv' := [(1, vI (zer (inC bt sz) (8 * sz) ps)), (0, .ref (a 5))]) dX0_isMarkNext_4 rfl (by decide) rfl ?_
  have hz := zer_rg (inC bt sz) (8 * sz) ps (by omega)
  refine z_iload_n C dX0_isMarkNext_5 0 rfl ?_
  refine z_bipush C (z := 11) dX0_isMarkNext_6 (by decide) ?_
  refine z_icmp_lt C (by omega) (by decide) (tgt := 23) dX0_isMarkNext_8 (by decide) (fun hc_2 => ?_) (fun hc_2 => ?_)
  · refine z_iconst C (z := 0) dX0_isMarkNext_23 ?_
    refine z_zret (b := false) C dX0_isMarkNext_24 () ?_ ?_ ?_ (by decide) (by decide)
    · (unfold isMk; first | rw [decide_eq_true (by omega)] | rw [decide_eq_false (by omega)])
    · exact trivial
    · exact rfl
  · refine z_iload_n C dX0_isMarkNext_11 0 rfl ?_
    refine z_aload_n C dX0_isMarkNext_12 1 rfl ?_
    refine z_callV C (As := []) (st := [vI (zer (inC bt sz) (8 * sz) ps)]) (c_X0_left l D cy tw a kd co mk al dz rd rw wo sa sz ps bt ou bi dm pl re cu   ) gX0_isMarkNext_X0_left kn_X0_left rfl ⟨rfl, rfl, Nat.le_of_ble_eq_true rfl, Nat.le_of_ble_eq_true rfl⟩ 5 rfl (ci := 2) rfl rfl (Nat.le_of_ble_eq_true rfl) ⟨Nat.le_of_ble_eq_true rfl, Nat.le_of_ble_eq_true rfl⟩ dX0_isMarkNext_13 (fun u3 hu3 => ?_)
    clear hu3; clear u3
    show V 0 0 (CW cy a kd co mk al dz rd rw wo sa sz ps bt ou bi dm pl re cu) [(1, vI (zer (inC bt sz) (8 * sz) ps)), (0, .ref (a 5))] [vI (8 * sz - ps), vI (zer (inC bt sz) (8 * sz) ps)] 16
    refine z_icmp_ge C (by omega) (by omega) (tgt := 23) dX0_isMarkNext_16 (by decide) (fun hc_4 => ?_) (fun hc_4 => ?_)
    · refine z_iconst C (z := 0) dX0_isMarkNext_23 ?_
      refine z_zret (b := false) C dX0_isMarkNext_24 () ?_ ?_ ?_ (by decide) (by decide)
      · (unfold isMk; first | rw [decide_eq_true (by omega)] | rw [decide_eq_false (by omega)])
      · exact trivial
      · exact rfl
    · refine z_iconst C (z := 1) dX0_isMarkNext_19 ?_
      refine z_goto C (tgt := 24) dX0_isMarkNext_20 (by decide) ?_
      refine z_zret (b := true) C dX0_isMarkNext_24 () ?_ ?_ ?_ (by decide) (by decide)
      · (unfold isMk; first | rw [decide_eq_true (by omega)] | rw [decide_eq_false (by omega)])
      · exact trivial
      · exact rfl
theorem kn_X0_passMark : zKn yX0_passMark wsX0_passMark cX0_passMark 5 (some .boolean) 0 := ⟨⟨_, rfl⟩, by decide +kernel, by decide +kernel, by decide +kernel⟩
set_option maxHeartbeats 400000 in
set_option maxRecDepth 100000 in
theorem c_X0_passMark (l : Launch) (D : va_G) (cy : Nat → ClassId) (tw : Nat → Nat) (a : Nat → Nat) (kd : Int) (co : Int) (mk : Bool) (al : Bool) (dz : Bool) (rd : Bool) (rw : Int) (wo : Nat → BitVec 64) (sa : Nat → Int) (sz : Int) (ps : Int) (bt : Nat → Int) (ou : Nat → BitVec 64) (bi : Int) (dm : Int) (pl : Bool) (re : Int) (cu : Bool)   (h0 : 0 ≤ sz ∧ sz ≤ 400) (h1 : 0 ≤ ps ∧ ps ≤ 8 * sz) : zMet l yX0_passMark wsX0_passMark { frames := 1, cells := 0, slots := 0, locals := 22 } D (zT cy) tw (CW cy a kd co mk al dz rd rw wo sa sz ps bt ou bi dm pl re cu) [.ref (a 5)] 0 0 (S := Unit) (fun _ => some (vI (b2i (decide (0 ≤ fmk (inC bt sz) (8 * sz) ps 0))))) (fun _ => CW cy a kd co mk al dz rd rw wo sa sz (if 0 ≤ fmk (inC bt sz) (8 * sz) ps 0 then fmk (inC bt sz) (8 * sz) ps 0 else 8 * sz) bt ou bi dm pl re cu) (fun _ => True) := by
  refine z_met (cc := cX0_passMark) (nL := 5) (ret := some .boolean) (by decide +kernel) rfl (Nat.le_of_ble_eq_true rfl) (lv := [(0, .ref (a 5))]) rfl ?_
  intro V p_ e_ s_ m_ args_ below_ meth_ c_ A_ C hmn
  have hinX0 : ∀ w ∈ u_ws RX0 TX0 3, w ∈ wsX0_passMark := by decide +kernel
  have k0 : Cond.fieldLink RX0 15 "FaxFilter$BitsIn" "size" "I" ∈ wsX0_passMark := List.mem_of_getElem? (i := 1) rfl
  have k1 : Cond.fieldLink RX0 19 "FaxFilter$BitsIn" "passed" "I" ∈ wsX0_passMark := List.mem_of_getElem? (i := 2) rfl
  refine z_iconst C (z := 0) dX0_passMark_0 ?_
  refine z_istore_n C (lv' := [(1, vI 0), (0, .ref (a 5))]) dX0_passMark_1 rfl (by decide) rfl ?_
  refine z_bipush C (z := 8) dX0_passMark_2 (by decide) ?_
  refine z_aload_n C dX0_passMark_4 1 rfl ?_
  refine z_get C hinX0 (ci := 2) rfl 5 rfl 0 (by decide) k0 rfl (v := vI sz) rfl dX0_passMark_5 ?_
  refine z_imul C dX0_passMark_8 ?_
  refine z_istore_n C (lv' := [(2, vI (8 * sz)), (1, vI 0), (0, .ref (a 5))]) dX0_passMark_9 rfl (by decide) rfl ?_
  refine z_aload_n C dX0_passMark_10 2 rfl ?_
  refine z_get C hinX0 (ci := 2) rfl 5 rfl 1 (by decide) k1 rfl (v := vI ps) rfl dX0_passMark_11 ?_
  refine z_istore_n C (lv' := [(3, vI ps), (2, vI (8 * sz)), (1, vI 0), (0, .ref (a 5))]) dX0_passMark_14 rfl (by decide) rfl ?_
  have J15 : ∀ (f : Nat) (z : Int) (i : Int), (0 ≤ z ∧ z ≤ i - ps) → (ps ≤ i ∧ i ≤ 8 * sz) → (fmk (inC bt sz) (8 * sz) ps 0 = fmk (inC bt sz) (8 * sz) i z) → (8 * sz - i).toNat < f → V 0 0 (CW cy a kd co mk al dz rd rw wo sa sz ps bt ou bi dm pl re cu) [(0, .ref (a 5)), (1, vI z), (2, vI (8 * sz)), (3, vI i)] [] 15 := by
    intro f
    induction f with
    | zero => intro z i i0 i1 i2 hf; exact absurd hf (Nat.not_lt_zero _)
    | succ f ih =>
      intro z i i0 i1 i2 hf
      refine z_iload_n C dX0_passMark_15 3 rfl ?_
      refine z_iload_n C dX0_passMark_16 2 rfl ?_
      refine z_icmp_ge C (by omega) (by omega) (tgt := 74) dX0_passMark_17 (by decide) (fun hc_1 => ?_) (fun hc_1 => ?_)
      · refine z_aload_n C dX0_passMark_74 0 rfl ?_
        refine z_iload_n C dX0_passMark_75 2 rfl ?_
        refine z_put C hinX0 tyX0 tyX0_ok nmX0 (ci := 2) rfl 5 rfl 1 (by decide) k1 rfl rfl rfl rfl (Nat.le_of_ble_eq_true rfl) dX0_passMark_76 (ws' := CW cy a kd co mk al dz rd rw wo sa sz (8 * sz) bt ou bi dm pl re cu) rfl ?_
        refine z_iconst C (z := 0) dX0_passMark_79 ?_
        refine z_zret (b := false) C dX0_passMark_80 () ?_ ?_ ?_ (by decide) (by decide)
        · rw [decide_eq_false (by rw [i2, fmk_end (by omega)]; omega)]
        · exact trivial
        · rw [i2, fmk_end (by omega), if_neg (by omega)]
      · refine z_aload_n C dX0_passMark_20 0 rfl ?_
        refine z_iload_n C dX0_passMark_21 3 rfl ?_
        refine z_callV C (As := [vI i]) (st := []) (c_X0_bitAt l D cy tw a kd co mk al dz rd rw wo sa sz ps bt ou bi dm pl re cu i  (by omega) (by omega)) gX0_passMark_X0_bitAt kn_X0_bitAt rfl ⟨rfl, rfl, Nat.le_of_ble_eq_true rfl, Nat.le_of_ble_eq_true rfl⟩ 5 rfl (ci := 2) rfl rfl (Nat.le_of_ble_eq_true rfl) ⟨Nat.le_of_ble_eq_true rfl, Nat.le_of_ble_eq_true rfl⟩ dX0_passMark_22 (fun u2 hu2 => ?_)
        clear hu2; clear u2
        show V 0 0 (CW cy a kd co mk al dz rd rw wo sa sz ps bt ou bi dm pl re cu) [(0, .ref (a 5)), (1, vI z), (2, vI (8 * sz)), (3, vI i)] [vI (bitC bt sz i)] 25
        refine z_if_eq C (by have := bitC_01 bt sz i; omega) (tgt := 32) dX0_passMark_25 (by decide) (fun cb => ?_) (fun cb => ?_)
        · refine z_iconst C (z := 0) dX0_passMark_32 ?_
          refine z_istore C (lv' := [(4, vI 0), (0, .ref (a 5)), (1, vI z), (2, vI (8 * sz)), (3, vI i)]) dX0_passMark_33 (by decide) rfl ?_
          refine z_iload C dX0_passMark_35 0 rfl ?_
          refine z_if_eq C (by decide) (tgt := 55) dX0_passMark_37 (by decide) (fun hc_3 => ?_) (fun hc_3 => ?_)
          rotate_left; · exact absurd hc_3 (by decide)
          refine z_iload C dX0_passMark_55 0 rfl ?_
          refine z_if_eq C (by decide) (tgt := 64) dX0_passMark_57 (by decide) (fun hc_4 => ?_) (fun hc_4 => ?_)
          rotate_left; · exact absurd hc_4 (by decide)
          refine z_iload_n C dX0_passMark_64 2 rfl ?_
          refine z_iconst C (z := 1) dX0_passMark_65 ?_
          refine z_iadd C dX0_passMark_66 ?_
          refine z_istore_n C (lv' := [(1, vI (z + 1)), (4, vI 0), (0, .ref (a 5)), (2, vI (8 * sz)), (3, vI i)]) dX0_passMark_67 rfl (by decide) rfl ?_
          refine z_iinc C (lv' := [(3, vI (i + 1)), (1, vI (z + 1)), (4, vI 0), (0, .ref (a 5)), (2, vI (8 * sz))]) dX0_passMark_68 4 rfl (by decide) rfl ?_
          refine z_goto C (tgt := 15) dX0_passMark_71 (by decide) ?_
          refine z_lsub C [3, 1, 4, 0] rfl ?_
          exact ih (z + 1) (i + 1) (by omega) (by omega) (by rw [i2, fmk_zero (by omega) (inC_f cb)]) (by omega)
        · refine z_iconst C (z := 1) dX0_passMark_28 ?_
          refine z_goto C (tgt := 33) dX0_passMark_29 (by decide) ?_
          refine z_istore C (lv' := [(4, vI 1), (0, .ref (a 5)), (1, vI z), (2, vI (8 * sz)), (3, vI i)]) dX0_passMark_33 (by decide) rfl ?_
          refine z_iload C dX0_passMark_35 0 rfl ?_
          refine z_if_eq C (by decide) (tgt := 55) dX0_passMark_37 (by decide) (fun hc_5 => ?_) (fun hc_5 => ?_)
          · exact absurd hc_5 (by decide)
          refine z_iload_n C dX0_passMark_40 2 rfl ?_
          refine z_bipush C (z := 11) dX0_passMark_41 (by decide) ?_
          refine z_icmp_lt C (by omega) (by decide) (tgt := 55) dX0_passMark_43 (by decide) (fun hc_6 => ?_) (fun hc_6 => ?_)
          · refine z_iload C dX0_passMark_55 0 rfl ?_
            refine z_if_eq C (by decide) (tgt := 64) dX0_passMark_57 (by decide) (fun hc_7 => ?_) (fun hc_7 => ?_)
            · exact absurd hc_7 (by decide)
            refine z_iconst C (z := 0) dX0_passMark_60 ?_
            refine z_goto C (tgt := 67) dX0_passMark_61 (by decide) ?_
            refine z_istore_n C (lv' := [(1, vI 0), (4, vI 1), (0, .ref (a 5)), (2, vI (8 * sz)), (3, vI i)]) dX0_passMark_67 rfl (by decide) rfl ?_
            refine z_iinc C (lv' := [(3, vI (i + 1)), (1, vI 0), (4, vI 1), (0, .ref (a 5)), (2, vI (8 * sz))]) dX0_passMark_68 4 rfl (by decide) rfl ?_
            refine z_goto C (tgt := 15) dX0_passMark_71 (by decide) ?_
            refine z_lsub C [3, 1, 4, 0] rfl ?_
            exact ih 0 (i + 1) (by omega) (by omega) (by rw [i2, fmk_one (by omega) (inC_t cb) (by omega)]) (by omega)
          · refine z_aload_n C dX0_passMark_46 1 rfl ?_
            refine z_iload_n C dX0_passMark_47 4 rfl ?_
            refine z_iconst C (z := 1) dX0_passMark_48 ?_
            refine z_iadd C dX0_passMark_49 ?_
            refine z_put C hinX0 tyX0 tyX0_ok nmX0 (ci := 2) rfl 5 rfl 1 (by decide) k1 rfl rfl rfl rfl (Nat.le_of_ble_eq_true rfl) dX0_passMark_50 (ws' := CW cy a kd co mk al dz rd rw wo sa sz (i + 1) bt ou bi dm pl re cu) rfl ?_
            refine z_iconst C (z := 1) dX0_passMark_53 ?_
            refine z_zret (b := true) C dX0_passMark_54 () ?_ ?_ ?_ (by decide) (by decide)
            · rw [decide_eq_true (by rw [i2, fmk_hit (by omega) (inC_t cb) (by omega)]; omega)]
            · exact trivial
            · rw [i2, fmk_hit (by omega) (inC_t cb) (by omega), if_pos (by omega)]
  refine z_lsub C [3, 2, 1, 0] rfl ?_
  exact J15 _ 0 ps (by omega) (by omega) (rfl) (Nat.lt_succ_self _)
def pkC (bt : Nat → Int) (sz ps n : Int) : Int := (byC bt sz (ps / 8) * 2 ^ 16 + byC bt sz (ps / 8 + 1) * 2 ^ 8 + byC bt sz (ps / 8 + 2)) / 2 ^ (24 - ps % 8 - n).toNat % 2 ^ n.toNat
theorem kn_X0_peek : zKn yX0_peek wsX0_peek cX0_peek 4 (some .int) 1 := ⟨⟨_, rfl⟩, by decide +kernel, by decide +kernel, by decide +kernel⟩
set_option maxHeartbeats 400000 in
set_option maxRecDepth 100000 in
theorem c_X0_peek (l : Launch) (D : va_G) (cy : Nat → ClassId) (tw : Nat → Nat) (a : Nat → Nat) (kd : Int) (co : Int) (mk : Bool) (al : Bool) (dz : Bool) (rd : Bool) (rw : Int) (wo : Nat → BitVec 64) (sa : Nat → Int) (sz : Int) (ps : Int) (bt : Nat → Int) (ou : Nat → BitVec 64) (bi : Int) (dm : Int) (pl : Bool) (re : Int) (cu : Bool) (n : Int)  (h0 : 0 ≤ sz ∧ sz ≤ 400) (h1 : 0 ≤ ps ∧ ps ≤ 8 * sz) (h2 : 1 ≤ n ∧ n ≤ 16) : zMet l yX0_peek wsX0_peek { frames := 1, cells := 0, slots := 0, locals := 21 } D (zT cy) tw (CW cy a kd co mk al dz rd rw wo sa sz ps bt ou bi dm pl re cu) [.ref (a 5), vI n] 0 0 (S := Unit) (fun _ => some (vI (pkC bt sz ps n))) (fun _ => CW cy a kd co mk al dz rd rw wo sa sz ps bt ou bi dm pl re cu) (fun _ => True) := by
  refine z_met (cc := cX0_peek) (nL := 4) (ret := some .int) (by decide +kernel) rfl (Nat.le_of_ble_eq_true rfl) (lv := [(0, .ref (a 5)), (1, vI n)]) rfl ?_
  intro V p_ e_ s_ m_ args_ below_ meth_ c_ A_ C hmn
  have hinX0 : ∀ w ∈ u_ws RX0 TX0 3, w ∈ wsX0_peek := by decide +kernel
  have k0 : Cond.fieldLink RX0 19 "FaxFilter$BitsIn" "passed" "I" ∈ wsX0_peek := List.mem_of_getElem? (i := 1) rfl
  refine z_aload_n C dX0_peek_0 0 rfl ?_
  refine z_get C hinX0 (ci := 2) rfl 5 rfl 1 (by decide) k0 rfl (v := vI ps) rfl dX0_peek_1 ?_
  refine z_bipush C (z := 8) dX0_peek_4 (by decide) ?_
  refine z_idiv C dX0_peek_6 (by omega) (by decide) ?_
  refine z_istore_n C (lv' := [(2, vI (ps / 8)), (0, .ref (a 5)), (1, vI n)]) dX0_peek_7 rfl (by decide) rfl ?_
  have hb0 := byC_rg bt sz (ps / 8); have hb1 := byC_rg bt sz (ps / 8 + 1); have hb2 := byC_rg bt sz (ps / 8 + 2)
  refine z_aload_n C dX0_peek_8 1 rfl ?_
  refine z_iload_n C dX0_peek_9 0 rfl ?_
  refine z_callV C (As := [vI (ps / 8)]) (st := []) (c_X0_byteAt l D cy tw a kd co mk al dz rd rw wo sa sz ps bt ou bi dm pl re cu (ps / 8)  (by omega) (by omega)) gX0_peek_X0_byteAt kn_X0_byteAt rfl ⟨rfl, rfl, Nat.le_of_ble_eq_true rfl, Nat.le_of_ble_eq_true rfl⟩ 5 rfl (ci := 2) rfl rfl (Nat.le_of_ble_eq_true rfl) ⟨Nat.le_of_ble_eq_true rfl, Nat.le_of_ble_eq_true rfl⟩ dX0_peek_10 (fun u1 hu1 => ?_)
  clear hu1; clear u1
  show V 0 0 (CW cy a kd co mk al dz rd rw wo sa sz ps bt ou bi dm pl re cu) [(2, vI (ps / 8)), (0, .ref (a 5)), (1, vI n)] [vI (byC bt sz (ps / 8))] 13
  refine z_bipush C (z := 16) dX0_peek_13 (by decide) ?_
  refine z_ishl C 16 dX0_peek_15 (rfl) (by decide) ?_
  refine z_aload_n C dX0_peek_16 1 rfl ?_
  refine z_iload_n C dX0_peek_17 0 rfl ?_
  refine z_iconst C (z := 1) dX0_peek_18 ?_
  refine z_iadd C dX0_peek_19 ?_
  refine z_callV C (As := [vI ((ps / 8) + 1)]) (st := [vI ((byC bt sz (ps / 8)) * 2 ^ 16)]) (c_X0_byteAt l D cy tw a kd co mk al dz rd rw wo sa sz ps bt ou bi dm pl re cu ((ps / 8) + 1)  (by omega) (by omega)) gX0_peek_X0_byteAt kn_X0_byteAt rfl ⟨rfl, rfl, Nat.le_of_ble_eq_true rfl, Nat.le_of_ble_eq_true rfl⟩ 5 rfl (ci := 2) rfl rfl (Nat.le_of_ble_eq_true rfl) ⟨Nat.le_of_ble_eq_true rfl, Nat.le_of_ble_eq_true rfl⟩ dX0_peek_20 (fun u2 hu2 => ?_)
  clear hu2; clear u2
  show V 0 0 (CW cy a kd co mk al dz rd rw wo sa sz ps bt ou bi dm pl re cu) [(2, vI (ps / 8)), (0, .ref (a 5)), (1, vI n)] [vI (byC bt sz ((ps / 8) + 1)), vI ((byC bt sz (ps / 8)) * 2 ^ 16)] 23
  refine z_bipush C (z := 8) dX0_peek_23 (by decide) ?_
  refine z_ishl C 8 dX0_peek_25 (rfl) (by decide) ?_
  refine z_ior C (byC bt sz (ps / 8)) 16 dX0_peek_26 (by decide) (rfl) (by omega) ?_
  refine z_aload_n C dX0_peek_27 1 rfl ?_
  refine z_iload_n C dX0_peek_28 0 rfl ?_
  refine z_iconst C (z := 2) dX0_peek_29 ?_
  refine z_iadd C dX0_peek_30 ?_
  refine z_callV C (As := [vI ((ps / 8) + 2)]) (st := [vI (((byC bt sz (ps / 8)) * 2 ^ 16) + ((byC bt sz ((ps / 8) + 1)) * 2 ^ 8))]) (c_X0_byteAt l D cy tw a kd co mk al dz rd rw wo sa sz ps bt ou bi dm pl re cu ((ps / 8) + 2)  (by omega) (by omega)) gX0_peek_X0_byteAt kn_X0_byteAt rfl ⟨rfl, rfl, Nat.le_of_ble_eq_true rfl, Nat.le_of_ble_eq_true rfl⟩ 5 rfl (ci := 2) rfl rfl (Nat.le_of_ble_eq_true rfl) ⟨Nat.le_of_ble_eq_true rfl, Nat.le_of_ble_eq_true rfl⟩ dX0_peek_31 (fun u3 hu3 => ?_)
  clear hu3; clear u3
  show V 0 0 (CW cy a kd co mk al dz rd rw wo sa sz ps bt ou bi dm pl re cu) [(2, vI (ps / 8)), (0, .ref (a 5)), (1, vI n)] [vI (byC bt sz ((ps / 8) + 2)), vI (((byC bt sz (ps / 8)) * 2 ^ 16) + ((byC bt sz ((ps / 8) + 1)) * 2 ^ 8))] 34
  refine z_ior C (byC bt sz (ps / 8) * 2 ^ 8 + byC bt sz (ps / 8 + 1)) 8 dX0_peek_34 (by decide) (by omega) (by omega) ?_
  refine z_istore_n C (lv' := [(3, vI ((((byC bt sz (ps / 8)) * 2 ^ 16) + ((byC bt sz ((ps / 8) + 1)) * 2 ^ 8)) + (byC bt sz ((ps / 8) + 2)))), (2, vI (ps / 8)), (0, .ref (a 5)), (1, vI n)]) dX0_peek_35 rfl (by decide) rfl ?_
  refine z_iload_n C dX0_peek_36 0 rfl ?_
  refine z_bipush C (z := 24) dX0_peek_37 (by decide) ?_
  refine z_aload_n C dX0_peek_39 2 rfl ?_
  refine z_get C hinX0 (ci := 2) rfl 5 rfl 1 (by decide) k0 rfl (v := vI ps) rfl dX0_peek_40 ?_
  refine z_bipush C (z := 8) dX0_peek_43 (by decide) ?_
  refine z_irem C dX0_peek_45 (by omega) (by decide) ?_
  refine z_isub C dX0_peek_46 ?_
  refine z_iload_n C dX0_peek_47 3 rfl ?_
  refine z_isub C dX0_peek_48 ?_
  refine z_ishr C (((24 - (ps % 8)) - n).toNat) dX0_peek_49 (by omega) (by omega) (by omega) ?_
  refine z_iconst C (z := 1) dX0_peek_50 ?_
  refine z_iload_n C dX0_peek_51 3 rfl ?_
  refine z_ishl C n.toNat dX0_peek_52 (by omega) (by omega) ?_
  refine z_iconst C (z := 1) dX0_peek_53 ?_
  refine z_isub C dX0_peek_54 ?_
  refine z_iand C n.toNat dX0_peek_55 (by omega) (by rw [Int.one_mul]) ?_
  refine z_iret (x := ((((((byC bt sz (ps / 8)) * 2 ^ 16) + ((byC bt sz ((ps / 8) + 1)) * 2 ^ 8)) + (byC bt sz ((ps / 8) + 2))) / 2 ^ ((24 - (ps % 8)) - n).toNat) % 2 ^ n.toNat)) C dX0_peek_56 () ?_ ?_ ?_ (by decide) (by decide)
  · exact rfl
  · exact trivial
  · exact rfl
theorem ediv_rg {v u : Int} (k : Nat) (h0 : 0 ≤ v) (h1 : v ≤ u) : 0 ≤ v / 2 ^ k ∧ v / 2 ^ k ≤ u := by
  have hp : (1 : Int) ≤ 2 ^ k := by
    rw [show (2 : Int) ^ k = ((2 ^ k : Nat) : Int) by rw [Int.natCast_pow]; rfl]
    have : 1 ≤ 2 ^ k := Nat.one_le_two_pow
    omega
  exact ⟨Int.ediv_nonneg h0 (by omega), Int.le_trans (Int.ediv_le_self _ h0) h1⟩
def obC (ou : Nat → BitVec 64) (co i : Int) : Int := if 0 ≤ i ∧ i / 8 < (ow co : Int) then (ou (i / 8 : Int).toNat >>> ((56 - i % 8 * 8) % 64).toNat).toInt % 2 ^ 8 else 0
theorem kn_X1_restart : zKn yX1_restart wsX1_restart cX1_restart 1 (none) 0 := ⟨⟨_, rfl⟩, by decide +kernel, by decide +kernel, by decide +kernel⟩
set_option maxHeartbeats 400000 in
set_option maxRecDepth 100000 in
theorem c_X1_restart (l : Launch) (D : va_G) (cy : Nat → ClassId) (tw : Nat → Nat) (a : Nat → Nat) (kd : Int) (co : Int) (mk : Bool) (al : Bool) (dz : Bool) (rd : Bool) (rw : Int) (wo : Nat → BitVec 64) (sa : Nat → Int) (sz : Int) (ps : Int) (bt : Nat → Int) (ou : Nat → BitVec 64) (bi : Int) (dm : Int) (pl : Bool) (re : Int) (cu : Bool)    : zMet l yX1_restart wsX1_restart { frames := 0, cells := 0, slots := 0, locals := 0 } D (zT cy) tw (CW cy a kd co mk al dz rd rw wo sa sz ps bt ou bi dm pl re cu) [.ref (a 6)] 0 0 (S := Unit) (fun _ => none) (fun _ => CW cy a kd co mk al dz rd rw wo sa sz ps bt ou 0 dm pl re cu) (fun _ => True) := by
  refine z_met (cc := cX1_restart) (nL := 1) (ret := none) (by decide +kernel) rfl (Nat.le_of_ble_eq_true rfl) (lv := [(0, .ref (a 6))]) rfl ?_
  intro V p_ e_ s_ m_ args_ below_ meth_ c_ A_ C hmn
  have hinX1 : ∀ w ∈ u_ws RX1 TX1 2, w ∈ wsX1_restart := by decide +kernel
  have k0 : Cond.fieldLink RX1 15 "FaxFilter$BitsOut" "bits" "I" ∈ wsX1_restart := List.mem_of_getElem? (i := 1) rfl
  refine z_aload_n C dX1_restart_0 0 rfl ?_
  refine z_iconst C (z := 0) dX1_restart_1 ?_
  refine z_put C hinX1 tyX1 tyX1_ok nmX1 (ci := 3) rfl 6 rfl 1 (by decide) k0 rfl rfl rfl rfl (Nat.le_of_ble_eq_true rfl) dX1_restart_2 (ws' := CW cy a kd co mk al dz rd rw wo sa sz ps bt ou 0 dm pl re cu) rfl ?_
  refine z_vret C dX1_restart_5 () ?_ ?_ ?_ (by decide) (by decide)
  · exact rfl
  · exact trivial
  · exact rfl
theorem kn_X1_size : zKn yX1_size wsX1_size cX1_size 1 (some .int) 0 := ⟨⟨_, rfl⟩, by decide +kernel, by decide +kernel, by decide +kernel⟩
set_option maxHeartbeats 400000 in
set_option maxRecDepth 100000 in
theorem c_X1_size (l : Launch) (D : va_G) (cy : Nat → ClassId) (tw : Nat → Nat) (a : Nat → Nat) (kd : Int) (co : Int) (mk : Bool) (al : Bool) (dz : Bool) (rd : Bool) (rw : Int) (wo : Nat → BitVec 64) (sa : Nat → Int) (sz : Int) (ps : Int) (bt : Nat → Int) (ou : Nat → BitVec 64) (bi : Int) (dm : Int) (pl : Bool) (re : Int) (cu : Bool)   (h0 : 0 ≤ bi ∧ bi ≤ 200000) : zMet l yX1_size wsX1_size { frames := 0, cells := 0, slots := 0, locals := 0 } D (zT cy) tw (CW cy a kd co mk al dz rd rw wo sa sz ps bt ou bi dm pl re cu) [.ref (a 6)] 0 0 (S := Unit) (fun _ => some (vI ((bi + 7) / 8))) (fun _ => CW cy a kd co mk al dz rd rw wo sa sz ps bt ou bi dm pl re cu) (fun _ => True) := by
  refine z_met (cc := cX1_size) (nL := 1) (ret := some .int) (by decide +kernel) rfl (Nat.le_of_ble_eq_true rfl) (lv := [(0, .ref (a 6))]) rfl ?_
  intro V p_ e_ s_ m_ args_ below_ meth_ c_ A_ C hmn
  have hinX1 : ∀ w ∈ u_ws RX1 TX1 2, w ∈ wsX1_size := by decide +kernel
  have k0 : Cond.fieldLink RX1 15 "FaxFilter$BitsOut" "bits" "I" ∈ wsX1_size := List.mem_of_getElem? (i := 1) rfl
  refine z_aload_n C dX1_size_0 0 rfl ?_
  refine z_get C hinX1 (ci := 3) rfl 6 rfl 1 (by decide) k0 rfl (v := vI bi) rfl dX1_size_1 ?_
  refine z_bipush C (z := 7) dX1_size_4 (by decide) ?_
  refine z_iadd C dX1_size_6 ?_
  refine z_bipush C (z := 8) dX1_size_7 (by decide) ?_
  refine z_idiv C dX1_size_9 (by omega) (by decide) ?_
  refine z_iret (x := ((bi + 7) / 8)) C dX1_size_10 () ?_ ?_ ?_ (by decide) (by decide)
  · exact rfl
  · exact trivial
  · exact rfl
theorem kn_X1_byteAt : zKn yX1_byteAt wsX1_byteAt cX1_byteAt 3 (some .int) 1 := ⟨⟨_, rfl⟩, by decide +kernel, by decide +kernel, by decide +kernel⟩
set_option maxHeartbeats 400000 in
set_option maxRecDepth 100000 in
theorem c_X1_byteAt (l : Launch) (D : va_G) (cy : Nat → ClassId) (tw : Nat → Nat) (a : Nat → Nat) (kd : Int) (co : Int) (mk : Bool) (al : Bool) (dz : Bool) (rd : Bool) (rw : Int) (wo : Nat → BitVec 64) (sa : Nat → Int) (sz : Int) (ps : Int) (bt : Nat → Int) (ou : Nat → BitVec 64) (bi : Int) (dm : Int) (pl : Bool) (re : Int) (cu : Bool) (i : Int)  (hco : 1 ≤ co ∧ co ≤ 700) (h1 : 0 ≤ i ∧ i ≤ 200000) : zMet l yX1_byteAt wsX1_byteAt { frames := 0, cells := 0, slots := 0, locals := 0 } D (zT cy) tw (CW cy a kd co mk al dz rd rw wo sa sz ps bt ou bi dm pl re cu) [.ref (a 6), vI i] 0 0 (S := Unit) (fun _ => some (vI (obC ou co i))) (fun _ => CW cy a kd co mk al dz rd rw wo sa sz ps bt ou bi dm pl re cu) (fun _ => True) := by
  refine z_met (cc := cX1_byteAt) (nL := 3) (ret := some .int) (by decide +kernel) rfl (Nat.le_of_ble_eq_true rfl) (lv := [(0, .ref (a 6)), (1, vI i)]) rfl ?_
  intro V p_ e_ s_ m_ args_ below_ meth_ c_ A_ C hmn
  have hinX1 : ∀ w ∈ u_ws RX1 TX1 2, w ∈ wsX1_byteAt := by decide +kernel
  have k0 : Cond.fieldLink RX1 9 "FaxFilter$BitsOut" "words" "[J" ∈ wsX1_byteAt := List.mem_of_getElem? (i := 1) rfl
  have hon := on_eq hco.1
  have how := ow_eq hco.1
  refine z_iload_n C dX1_byteAt_0 1 rfl ?_
  refine z_bipush C (z := 8) dX1_byteAt_1 (by decide) ?_
  refine z_idiv C dX1_byteAt_3 (by omega) (by decide) ?_
  refine z_istore_n C (lv' := [(2, vI (i / 8)), (0, .ref (a 6)), (1, vI i)]) dX1_byteAt_4 rfl (by decide) rfl ?_
  refine z_iload_n C dX1_byteAt_5 2 rfl ?_
  refine z_if_lt C (by omega) (tgt := 43) dX1_byteAt_6 (by decide) (fun hc_1 => ?_) (fun hc_1 => ?_)
  · exfalso; omega
  · refine z_iload_n C dX1_byteAt_9 0 rfl ?_
    refine z_aload_n C dX1_byteAt_10 1 rfl ?_
    refine z_get C hinX1 (ci := 3) rfl 6 rfl 0 (by decide) k0 rfl (v := .ref (a 20)) rfl dX1_byteAt_11 ?_
    refine z_alen C 20 2 rfl rfl (N := ow co) rfl dX1_byteAt_14 ?_
    refine z_icmp_ge C (by omega) (by omega) (tgt := 43) dX1_byteAt_15 (by decide) (fun hc_2 => ?_) (fun hc_2 => ?_)
    · refine z_iconst C (z := 0) dX1_byteAt_43 ?_
      refine z_iret (x := 0) C dX1_byteAt_44 () ?_ ?_ ?_ (by decide) (by decide)
      · (simp only [obC]; first | rw [if_neg (by omega)] | rw [if_pos (by omega)])
      · exact trivial
      · exact rfl
    · refine z_aload_n C dX1_byteAt_18 1 rfl ?_
      refine z_get C hinX1 (ci := 3) rfl 6 rfl 0 (by decide) k0 rfl (v := .ref (a 20)) rfl dX1_byteAt_19 ?_
      refine z_iload_n C dX1_byteAt_22 0 rfl ?_
      refine z_lald C 20 2 (g := ou) rfl rfl (by omega) (by omega) (by omega) dX1_byteAt_23 ?_
      refine z_bipush C (z := 56) dX1_byteAt_24 (by decide) ?_
      refine z_iload_n C dX1_byteAt_26 2 rfl ?_
      refine z_bipush C (z := 8) dX1_byteAt_27 (by decide) ?_
      refine z_irem C dX1_byteAt_29 (by omega) (by decide) ?_
      refine z_bipush C (z := 8) dX1_byteAt_30 (by decide) ?_
      refine z_imul C dX1_byteAt_32 ?_
      refine z_isub C dX1_byteAt_33 ?_
      refine z_lushr C (y := (56 - ((i % 8) * 8))) (((56 - ((i % 8) * 8)) % 64).toNat) (by omega) (rfl) dX1_byteAt_34 ?_
      refine z_l2i C dX1_byteAt_35 ?_
      refine z_sipush C (z := 255) dX1_byteAt_36 (by decide) ?_
      refine z_iand C 8 dX1_byteAt_39 (by decide) (by decide) ?_
      refine z_goto C (tgt := 44) dX1_byteAt_40 (by decide) ?_
      refine z_iret (x := ((((ou (i / 8 : Int).toNat) >>> (((56 - ((i % 8) * 8)) % 64).toNat) : BitVec 64).toInt) % 2 ^ 8)) C dX1_byteAt_44 () ?_ ?_ ?_ (by decide) (by decide)
      · (simp only [obC]; first | rw [if_neg (by omega)] | rw [if_pos (by omega)])
      · exact trivial
      · exact rfl
def sendA (o : Nat → BitVec 64) (b v n : Int) : Nat → BitVec 64 :=
  if n ≤ 64 - b % 64 then va_up o (b / 64).toNat ((if b % 64 = 0 then 0#64 else o (b / 64).toNat) ||| BitVec.ofInt 64 v <<< ((64 - b % 64 - n) % 64).toNat)
  else va_up (va_up o (b / 64).toNat ((if b % 64 = 0 then 0#64 else o (b / 64).toNat) ||| BitVec.ofInt 64 (v / 2 ^ (n - (64 - b % 64)).toNat))) (b / 64 + 1).toNat (BitVec.ofInt 64 v <<< ((64 - (n - (64 - b % 64))) % 64).toNat)
theorem kn_X1_send : zKn yX1_send wsX1_send cX1_send 8 (none) 2 := ⟨⟨_, rfl⟩, by decide +kernel, by decide +kernel, by decide +kernel⟩
set_option maxHeartbeats 400000 in
set_option maxRecDepth 100000 in
theorem c_X1_send (l : Launch) (D : va_G) (cy : Nat → ClassId) (tw : Nat → Nat) (a : Nat → Nat) (kd : Int) (co : Int) (mk : Bool) (al : Bool) (dz : Bool) (rd : Bool) (rw : Int) (wo : Nat → BitVec 64) (sa : Nat → Int) (sz : Int) (ps : Int) (bt : Nat → Int) (ou : Nat → BitVec 64) (bi : Int) (dm : Int) (pl : Bool) (re : Int) (cu : Bool) (v : Int) (n : Int)  (hco : 1 ≤ co ∧ co ≤ 700) (h1 : 0 ≤ v ∧ v ≤ 65535) (h2 : 0 ≤ n ∧ n ≤ 16) (h3 : 0 ≤ bi ∧ bi + n ≤ 8 * (on co : Int)) : zMet l yX1_send wsX1_send { frames := 0, cells := 0, slots := 0, locals := 0 } D (zT cy) tw (CW cy a kd co mk al dz rd rw wo sa sz ps bt ou bi dm pl re cu) [.ref (a 6), vI v, vI n] 0 0 (S := Unit) (fun _ => none) (fun _ => CW cy a kd co mk al dz rd rw wo sa sz ps bt (sendA ou bi v n) (bi + n) dm pl re cu) (fun _ => True) := by
  refine z_met (cc := cX1_send) (nL := 8) (ret := none) (by decide +kernel) rfl (Nat.le_of_ble_eq_true rfl) (lv := [(0, .ref (a 6)), (1, vI v), (2, vI n)]) rfl ?_
  intro V p_ e_ s_ m_ args_ below_ meth_ c_ A_ C hmn
  have hinX1 : ∀ w ∈ u_ws RX1 TX1 2, w ∈ wsX1_send := by decide +kernel
  have k0 : Cond.fieldLink RX1 15 "FaxFilter$BitsOut" "bits" "I" ∈ wsX1_send := List.mem_of_getElem? (i := 1) rfl
  have k1 : Cond.fieldLink RX1 9 "FaxFilter$BitsOut" "words" "[J" ∈ wsX1_send := List.mem_of_getElem? (i := 2) rfl
  have hon := on_eq hco.1
  have how := ow_eq hco.1
  refine z_aload_n C dX1_send_0 0 rfl ?_
  refine z_get C hinX1 (ci := 3) rfl 6 rfl 1 (by decide) k0 rfl (v := vI bi) rfl dX1_send_1 ?_
  refine z_bipush C (z := 64) dX1_send_4 (by decide) ?_
  refine z_idiv C dX1_send_6 (by omega) (by decide) ?_
  refine z_istore_n C (lv' := [(3, vI (bi / 64)), (0, .ref (a 6)), (1, vI v), (2, vI n)]) dX1_send_7 rfl (by decide) rfl ?_
  refine z_bipush C (z := 64) dX1_send_8 (by decide) ?_
  refine z_aload_n C dX1_send_10 1 rfl ?_
  refine z_get C hinX1 (ci := 3) rfl 6 rfl 1 (by decide) k0 rfl (v := vI bi) rfl dX1_send_11 ?_
  refine z_bipush C (z := 64) dX1_send_14 (by decide) ?_
  refine z_irem C dX1_send_16 (by omega) (by decide) ?_
  refine z_isub C dX1_send_17 ?_
  refine z_istore C (lv' := [(4, vI (64 - (bi % 64))), (3, vI (bi / 64)), (0, .ref (a 6)), (1, vI v), (2, vI n)]) dX1_send_18 (by decide) rfl ?_
  refine z_iload_n C dX1_send_20 1 rfl ?_
  refine z_if_lt C (by omega) (tgt := 35) dX1_send_21 (by decide) (fun hc_1 => ?_) (fun hc_1 => ?_)
  · exfalso; omega
  · refine z_iload_n C dX1_send_24 1 rfl ?_
    refine z_iconst C (z := 1) dX1_send_25 ?_
    refine z_iadd C dX1_send_26 ?_
    refine z_aload_n C dX1_send_27 2 rfl ?_
    refine z_get C hinX1 (ci := 3) rfl 6 rfl 0 (by decide) k1 rfl (v := .ref (a 20)) rfl dX1_send_28 ?_
    refine z_alen C 20 2 rfl rfl (N := ow co) rfl dX1_send_31 ?_
    refine z_icmp_lt C (by omega) (by omega) (tgt := 36) dX1_send_32 (by decide) (fun hc_2 => ?_) (fun hc_2 => ?_)
    · refine z_iload C dX1_send_36 0 rfl ?_
      refine z_bipush C (z := 64) dX1_send_38 (by decide) ?_
      refine z_icmp_ne C (by omega) (by decide) (tgt := 47) dX1_send_40 (by decide) (fun hc_3 => ?_) (fun hc_3 => ?_)
      · refine z_aload_n C dX1_send_47 2 rfl ?_
        refine z_get C hinX1 (ci := 3) rfl 6 rfl 0 (by decide) k1 rfl (v := .ref (a 20)) rfl dX1_send_48 ?_
        refine z_iload_n C dX1_send_51 1 rfl ?_
        refine z_lald C 20 2 (g := ou) rfl rfl (by omega) (by omega) (by omega) dX1_send_52 ?_
        refine z_lstore C (lv' := [(5, vJ (ou (bi / 64 : Int).toNat)), (4, vI (64 - (bi % 64))), (3, vI (bi / 64)), (0, .ref (a 6)), (1, vI v), (2, vI n)]) dX1_send_53 (by decide) rfl ?_
        refine z_iload_n C dX1_send_55 5 rfl ?_
        refine z_iload C dX1_send_56 1 rfl ?_
        refine z_icmp_gt C (by omega) (by omega) (tgt := 80) dX1_send_58 (by decide) (fun hc_4 => ?_) (fun hc_4 => ?_)
        · refine z_iload_n C dX1_send_80 5 rfl ?_
          refine z_iload C dX1_send_81 1 rfl ?_
          refine z_isub C dX1_send_83 ?_
          refine z_istore C (lv' := [(7, vI (n - (64 - (bi % 64)))), (5, vJ (ou (bi / 64 : Int).toNat)), (4, vI (64 - (bi % 64))), (3, vI (bi / 64)), (0, .ref (a 6)), (1, vI v), (2, vI n)]) dX1_send_84 (by decide) rfl ?_
          refine z_aload_n C dX1_send_86 4 rfl ?_
          refine z_get C hinX1 (ci := 3) rfl 6 rfl 0 (by decide) k1 rfl (v := .ref (a 20)) rfl dX1_send_87 ?_
          refine z_iload_n C dX1_send_90 3 rfl ?_
          refine z_lload C dX1_send_91 1 rfl ?_
          have hvd := ediv_rg (n - (64 - bi % 64)).toNat h1.1 h1.2
          refine z_iload_n C dX1_send_93 5 rfl ?_
          refine z_iload C dX1_send_94 0 rfl ?_
          refine z_iushr C ((n - (64 - (bi % 64))).toNat) dX1_send_96 (by omega) (by omega) (by omega) ?_
          refine z_i2l C (by omega) dX1_send_97 ?_
          refine z_lor C dX1_send_98 ?_
          refine z_last C 20 2 (g := ou) rfl rfl (by omega) (by omega) (by omega) dX1_send_99 (ws' := CW cy a kd co mk al dz rd rw wo sa sz ps bt (va_up ou (bi / 64 : Int).toNat ((ou (bi / 64 : Int).toNat) ||| (BitVec.ofInt 64 (v / 2 ^ ((n - (64 - (bi % 64))).toNat))))) bi dm pl re cu) rfl ?_
          refine z_aload_n C dX1_send_100 4 rfl ?_
          refine z_get C hinX1 (ci := 3) rfl 6 rfl 0 (by decide) k1 rfl (v := .ref (a 20)) rfl dX1_send_101 ?_
          refine z_iload_n C dX1_send_104 3 rfl ?_
          refine z_iconst C (z := 1) dX1_send_105 ?_
          refine z_iadd C dX1_send_106 ?_
          refine z_iload_n C dX1_send_107 5 rfl ?_
          refine z_i2l C (by omega) dX1_send_108 ?_
          refine z_bipush C (z := 64) dX1_send_109 (by decide) ?_
          refine z_iload C dX1_send_111 0 rfl ?_
          refine z_isub C dX1_send_113 ?_
          refine z_lshl C (y := (64 - (n - (64 - (bi % 64))))) (((64 - (n - (64 - (bi % 64)))) % 64).toNat) (by omega) (rfl) dX1_send_114 ?_
          refine z_last C 20 2 (g := (va_up ou (bi / 64 : Int).toNat ((ou (bi / 64 : Int).toNat) ||| (BitVec.ofInt 64 (v / 2 ^ ((n - (64 - (bi % 64))).toNat)))))) rfl rfl (by omega) (by omega) (by omega) dX1_send_115 (ws' := CW cy a kd co mk al dz rd rw wo sa sz ps bt (va_up (va_up ou (bi / 64 : Int).toNat ((ou (bi / 64 : Int).toNat) ||| (BitVec.ofInt 64 (v / 2 ^ ((n - (64 - (bi % 64))).toNat))))) ((bi / 64) + 1 : Int).toNat ((BitVec.ofInt 64 v) <<< (((64 - (n - (64 - (bi % 64)))) % 64).toNat))) bi dm pl re cu) rfl ?_
          refine z_aload_n C dX1_send_116 4 rfl ?_
          refine z_dup C dX1_send_117 rfl ?_
          refine z_get C hinX1 (ci := 3) rfl 6 rfl 1 (by decide) k0 rfl (v := vI bi) rfl dX1_send_118 ?_
          refine z_iload_n C dX1_send_121 6 rfl ?_
          refine z_iadd C dX1_send_122 ?_
          refine z_put C hinX1 tyX1 tyX1_ok nmX1 (ci := 3) rfl 6 rfl 1 (by decide) k0 rfl rfl rfl rfl (Nat.le_of_ble_eq_true rfl) dX1_send_123 (ws' := CW cy a kd co mk al dz rd rw wo sa sz ps bt (va_up (va_up ou (bi / 64 : Int).toNat ((ou (bi / 64 : Int).toNat) ||| (BitVec.ofInt 64 (v / 2 ^ ((n - (64 - (bi % 64))).toNat))))) ((bi / 64) + 1 : Int).toNat ((BitVec.ofInt 64 v) <<< (((64 - (n - (64 - (bi % 64)))) % 64).toNat))) (bi + n) dm pl re cu) rfl ?_
          refine z_vret C dX1_send_126 () ?_ ?_ ?_ (by decide) (by decide)
          · exact rfl
          · exact trivial
          · first | (exfalso; omega) | rw [sendA, if_pos (by omega), if_pos (by omega)] | rw [sendA, if_pos (by omega), if_neg (by omega)] | rw [sendA, if_neg (by omega), if_pos (by omega)] | rw [sendA, if_neg (by omega), if_neg (by omega)]
        · refine z_aload_n C dX1_send_61 3 rfl ?_
          refine z_get C hinX1 (ci := 3) rfl 6 rfl 0 (by decide) k1 rfl (v := .ref (a 20)) rfl dX1_send_62 ?_
          refine z_iload_n C dX1_send_65 2 rfl ?_
          refine z_lload C dX1_send_66 0 rfl ?_
          refine z_iload_n C dX1_send_68 4 rfl ?_
          refine z_i2l C (by omega) dX1_send_69 ?_
          refine z_iload C dX1_send_70 1 rfl ?_
          refine z_iload_n C dX1_send_72 5 rfl ?_
          refine z_isub C dX1_send_73 ?_
          refine z_lshl C (y := ((64 - (bi % 64)) - n)) ((((64 - (bi % 64)) - n) % 64).toNat) (by omega) (rfl) dX1_send_74 ?_
          refine z_lor C dX1_send_75 ?_
          refine z_last C 20 2 (g := ou) rfl rfl (by omega) (by omega) (by omega) dX1_send_76 (ws' := CW cy a kd co mk al dz rd rw wo sa sz ps bt (va_up ou (bi / 64 : Int).toNat ((ou (bi / 64 : Int).toNat) ||| ((BitVec.ofInt 64 v) <<< ((((64 - (bi % 64)) - n) % 64).toNat)))) bi dm pl re cu) rfl ?_
          refine z_goto C (tgt := 116) dX1_send_77 (by decide) ?_
          refine z_aload_n C dX1_send_116 3 rfl ?_
          refine z_dup C dX1_send_117 rfl ?_
          refine z_get C hinX1 (ci := 3) rfl 6 rfl 1 (by decide) k0 rfl (v := vI bi) rfl dX1_send_118 ?_
          refine z_iload_n C dX1_send_121 5 rfl ?_
          refine z_iadd C dX1_send_122 ?_
          refine z_put C hinX1 tyX1 tyX1_ok nmX1 (ci := 3) rfl 6 rfl 1 (by decide) k0 rfl rfl rfl rfl (Nat.le_of_ble_eq_true rfl) dX1_send_123 (ws' := CW cy a kd co mk al dz rd rw wo sa sz ps bt (va_up ou (bi / 64 : Int).toNat ((ou (bi / 64 : Int).toNat) ||| ((BitVec.ofInt 64 v) <<< ((((64 - (bi % 64)) - n) % 64).toNat)))) (bi + n) dm pl re cu) rfl ?_
          refine z_vret C dX1_send_126 () ?_ ?_ ?_ (by decide) (by decide)
          · exact rfl
          · exact trivial
          · first | (exfalso; omega) | rw [sendA, if_pos (by omega), if_pos (by omega)] | rw [sendA, if_pos (by omega), if_neg (by omega)] | rw [sendA, if_neg (by omega), if_pos (by omega)] | rw [sendA, if_neg (by omega), if_neg (by omega)]
      · refine z_lconst C dX1_send_43 ?_
        refine z_goto C (tgt := 53) dX1_send_44 (by decide) ?_
        refine z_lstore C (lv' := [(5, vJ (0#64)), (4, vI (64 - (bi % 64))), (3, vI (bi / 64)), (0, .ref (a 6)), (1, vI v), (2, vI n)]) dX1_send_53 (by decide) rfl ?_
        refine z_iload_n C dX1_send_55 5 rfl ?_
        refine z_iload C dX1_send_56 1 rfl ?_
        refine z_icmp_gt C (by omega) (by omega) (tgt := 80) dX1_send_58 (by decide) (fun hc_5 => ?_) (fun hc_5 => ?_)
        · refine z_iload_n C dX1_send_80 5 rfl ?_
          refine z_iload C dX1_send_81 1 rfl ?_
          refine z_isub C dX1_send_83 ?_
          refine z_istore C (lv' := [(7, vI (n - (64 - (bi % 64)))), (5, vJ (0#64)), (4, vI (64 - (bi % 64))), (3, vI (bi / 64)), (0, .ref (a 6)), (1, vI v), (2, vI n)]) dX1_send_84 (by decide) rfl ?_
          refine z_aload_n C dX1_send_86 4 rfl ?_
          refine z_get C hinX1 (ci := 3) rfl 6 rfl 0 (by decide) k1 rfl (v := .ref (a 20)) rfl dX1_send_87 ?_
          refine z_iload_n C dX1_send_90 3 rfl ?_
          refine z_lload C dX1_send_91 1 rfl ?_
          have hvd := ediv_rg (n - (64 - bi % 64)).toNat h1.1 h1.2
          refine z_iload_n C dX1_send_93 5 rfl ?_
          refine z_iload C dX1_send_94 0 rfl ?_
          refine z_iushr C ((n - (64 - (bi % 64))).toNat) dX1_send_96 (by omega) (by omega) (by omega) ?_
          refine z_i2l C (by omega) dX1_send_97 ?_
          refine z_lor C dX1_send_98 ?_
          refine z_last C 20 2 (g := ou) rfl rfl (by omega) (by omega) (by omega) dX1_send_99 (ws' := CW cy a kd co mk al dz rd rw wo sa sz ps bt (va_up ou (bi / 64 : Int).toNat ((0#64) ||| (BitVec.ofInt 64 (v / 2 ^ ((n - (64 - (bi % 64))).toNat))))) bi dm pl re cu) rfl ?_
          refine z_aload_n C dX1_send_100 4 rfl ?_
          refine z_get C hinX1 (ci := 3) rfl 6 rfl 0 (by decide) k1 rfl (v := .ref (a 20)) rfl dX1_send_101 ?_
          refine z_iload_n C dX1_send_104 3 rfl ?_
          refine z_iconst C (z := 1) dX1_send_105 ?_
          refine z_iadd C dX1_send_106 ?_
          refine z_iload_n C dX1_send_107 5 rfl ?_
          refine z_i2l C (by omega) dX1_send_108 ?_
          refine z_bipush C (z := 64) dX1_send_109 (by decide) ?_
          refine z_iload C dX1_send_111 0 rfl ?_
          refine z_isub C dX1_send_113 ?_
          refine z_lshl C (y := (64 - (n - (64 - (bi % 64))))) (((64 - (n - (64 - (bi % 64)))) % 64).toNat) (by omega) (rfl) dX1_send_114 ?_
          refine z_last C 20 2 (g := (va_up ou (bi / 64 : Int).toNat ((0#64) ||| (BitVec.ofInt 64 (v / 2 ^ ((n - (64 - (bi % 64))).toNat)))))) rfl rfl (by omega) (by omega) (by omega) dX1_send_115 (ws' := CW cy a kd co mk al dz rd rw wo sa sz ps bt (va_up (va_up ou (bi / 64 : Int).toNat ((0#64) ||| (BitVec.ofInt 64 (v / 2 ^ ((n - (64 - (bi % 64))).toNat))))) ((bi / 64) + 1 : Int).toNat ((BitVec.ofInt 64 v) <<< (((64 - (n - (64 - (bi % 64)))) % 64).toNat))) bi dm pl re cu) rfl ?_
          refine z_aload_n C dX1_send_116 4 rfl ?_
          refine z_dup C dX1_send_117 rfl ?_
          refine z_get C hinX1 (ci := 3) rfl 6 rfl 1 (by decide) k0 rfl (v := vI bi) rfl dX1_send_118 ?_
          refine z_iload_n C dX1_send_121 6 rfl ?_
          refine z_iadd C dX1_send_122 ?_
          refine z_put C hinX1 tyX1 tyX1_ok nmX1 (ci := 3) rfl 6 rfl 1 (by decide) k0 rfl rfl rfl rfl (Nat.le_of_ble_eq_true rfl) dX1_send_123 (ws' := CW cy a kd co mk al dz rd rw wo sa sz ps bt (va_up (va_up ou (bi / 64 : Int).toNat ((0#64) ||| (BitVec.ofInt 64 (v / 2 ^ ((n - (64 - (bi % 64))).toNat))))) ((bi / 64) + 1 : Int).toNat ((BitVec.ofInt 64 v) <<< (((64 - (n - (64 - (bi % 64)))) % 64).toNat))) (bi + n) dm pl re cu) rfl ?_
          refine z_vret C dX1_send_126 () ?_ ?_ ?_ (by decide) (by decide)
          · exact rfl
          · exact trivial
          · first | (exfalso; omega) | rw [sendA, if_pos (by omega), if_pos (by omega)] | rw [sendA, if_pos (by omega), if_neg (by omega)] | rw [sendA, if_neg (by omega), if_pos (by omega)] | rw [sendA, if_neg (by omega), if_neg (by omega)]
        · refine z_aload_n C dX1_send_61 3 rfl ?_
          refine z_get C hinX1 (ci := 3) rfl 6 rfl 0 (by decide) k1 rfl (v := .ref (a 20)) rfl dX1_send_62 ?_
          refine z_iload_n C dX1_send_65 2 rfl ?_
          refine z_lload C dX1_send_66 0 rfl ?_
          refine z_iload_n C dX1_send_68 4 rfl ?_
          refine z_i2l C (by omega) dX1_send_69 ?_
          refine z_iload C dX1_send_70 1 rfl ?_
          refine z_iload_n C dX1_send_72 5 rfl ?_
          refine z_isub C dX1_send_73 ?_
          refine z_lshl C (y := ((64 - (bi % 64)) - n)) ((((64 - (bi % 64)) - n) % 64).toNat) (by omega) (rfl) dX1_send_74 ?_
          refine z_lor C dX1_send_75 ?_
          refine z_last C 20 2 (g := ou) rfl rfl (by omega) (by omega) (by omega) dX1_send_76 (ws' := CW cy a kd co mk al dz rd rw wo sa sz ps bt (va_up ou (bi / 64 : Int).toNat ((0#64) ||| ((BitVec.ofInt 64 v) <<< ((((64 - (bi % 64)) - n) % 64).toNat)))) bi dm pl re cu) rfl ?_
          refine z_goto C (tgt := 116) dX1_send_77 (by decide) ?_
          refine z_aload_n C dX1_send_116 3 rfl ?_
          refine z_dup C dX1_send_117 rfl ?_
          refine z_get C hinX1 (ci := 3) rfl 6 rfl 1 (by decide) k0 rfl (v := vI bi) rfl dX1_send_118 ?_
          refine z_iload_n C dX1_send_121 5 rfl ?_
          refine z_iadd C dX1_send_122 ?_
          refine z_put C hinX1 tyX1 tyX1_ok nmX1 (ci := 3) rfl 6 rfl 1 (by decide) k0 rfl rfl rfl rfl (Nat.le_of_ble_eq_true rfl) dX1_send_123 (ws' := CW cy a kd co mk al dz rd rw wo sa sz ps bt (va_up ou (bi / 64 : Int).toNat ((0#64) ||| ((BitVec.ofInt 64 v) <<< ((((64 - (bi % 64)) - n) % 64).toNat)))) (bi + n) dm pl re cu) rfl ?_
          refine z_vret C dX1_send_126 () ?_ ?_ ?_ (by decide) (by decide)
          · exact rfl
          · exact trivial
          · first | (exfalso; omega) | rw [sendA, if_pos (by omega), if_pos (by omega)] | rw [sendA, if_pos (by omega), if_neg (by omega)] | rw [sendA, if_neg (by omega), if_pos (by omega)] | rw [sendA, if_neg (by omega), if_neg (by omega)]
    · exfalso; omega
theorem kn_X1_alignFor : zKn yX1_alignFor wsX1_alignFor cX1_alignFor 2 (none) 1 := ⟨⟨_, rfl⟩, by decide +kernel, by decide +kernel, by decide +kernel⟩
set_option maxHeartbeats 400000 in
set_option maxRecDepth 100000 in
theorem c_X1_alignFor (l : Launch) (D : va_G) (cy : Nat → ClassId) (tw : Nat → Nat) (a : Nat → Nat) (kd : Int) (co : Int) (mk : Bool) (al : Bool) (dz : Bool) (rd : Bool) (rw : Int) (wo : Nat → BitVec 64) (sa : Nat → Int) (sz : Int) (ps : Int) (bt : Nat → Int) (ou : Nat → BitVec 64) (bi : Int) (dm : Int) (pl : Bool) (re : Int) (cu : Bool) (m : Int)  (hco : 1 ≤ co ∧ co ≤ 700) (h1 : 0 ≤ m ∧ m ≤ 100) (h3 : 0 ≤ bi ∧ bi + 7 ≤ 8 * (on co : Int)) : zMet l yX1_alignFor wsX1_alignFor { frames := 1, cells := 0, slots := 0, locals := 27 } D (zT cy) tw (CW cy a kd co mk al dz rd rw wo sa sz ps bt ou bi dm pl re cu) [.ref (a 6), vI m] 0 0 (S := Unit) (fun _ => none) (fun _ => CW cy a kd co mk al dz rd rw wo sa sz ps bt (sendA ou bi 0 (-(bi + m) % 2 ^ 3)) (bi + (-(bi + m) % 2 ^ 3)) dm pl re cu) (fun _ => True) := by
  refine z_met (cc := cX1_alignFor) (nL := 2) (ret := none) (by decide +kernel) rfl (Nat.le_of_ble_eq_true rfl) (lv := [(0, .ref (a 6)), (1, vI m)]) rfl ?_
  intro V p_ e_ s_ m_ args_ below_ meth_ c_ A_ C hmn
  have hinX1 : ∀ w ∈ u_ws RX1 TX1 2, w ∈ wsX1_alignFor := by decide +kernel
  have k0 : Cond.fieldLink RX1 15 "FaxFilter$BitsOut" "bits" "I" ∈ wsX1_alignFor := List.mem_of_getElem? (i := 1) rfl
  have hon := on_eq hco.1
  have how := ow_eq hco.1
  refine z_aload_n C dX1_alignFor_0 0 rfl ?_
  refine z_iconst C (z := 0) dX1_alignFor_1 ?_
  refine z_aload_n C dX1_alignFor_2 0 rfl ?_
  refine z_get C hinX1 (ci := 3) rfl 6 rfl 1 (by decide) k0 rfl (v := vI bi) rfl dX1_alignFor_3 ?_
  refine z_iload_n C dX1_alignFor_6 1 rfl ?_
  refine z_iadd C dX1_alignFor_7 ?_
  refine z_ineg C dX1_alignFor_8 ?_
  refine z_bipush C (z := 7) dX1_alignFor_9 (by decide) ?_
  refine z_iand C 3 dX1_alignFor_11 (by decide) (by decide) ?_
  refine z_callV C (As := [vI 0, vI ((-(bi + m)) % 2 ^ 3)]) (st := []) (c_X1_send l D cy tw a kd co mk al dz rd rw wo sa sz ps bt ou bi dm pl re cu 0 ((-(bi + m)) % 2 ^ 3)  (by omega) (by omega) (by omega) (by omega)) gX1_alignFor_X1_send kn_X1_send rfl ⟨rfl, rfl, Nat.le_of_ble_eq_true rfl, Nat.le_of_ble_eq_true rfl⟩ 6 rfl (ci := 3) rfl rfl (Nat.le_of_ble_eq_true rfl) ⟨Nat.le_of_ble_eq_true rfl, Nat.le_of_ble_eq_true rfl⟩ dX1_alignFor_12 (fun u1 hu1 => ?_)
  clear hu1; clear u1
  show V 0 0 (CW cy a kd co mk al dz rd rw wo sa sz ps bt (sendA ou bi 0 ((-(bi + m)) % 2 ^ 3)) (bi + ((-(bi + m)) % 2 ^ 3)) dm pl re cu) [(0, .ref (a 6)), (1, vI m)] [] 15
  refine z_vret C dX1_alignFor_15 () ?_ ?_ ?_ (by decide) (by decide)
  · exact rfl
  · exact trivial
  · exact rfl
def sltC (r : Int) : Int := if 0 ≤ r ∧ r < 64 then r else if 64 ≤ r ∧ r ≤ 640 ∧ r % 64 = 0 then 63 + r / 64 else -2
def runN (s : Int) : Int := if s < 64 then s else (s - 64 + 1) * 64
def lenC (d : Bool) (s : Int) : Int := if 0 ≤ s ∧ s < 74 then tB d s.toNat else 0
def codC (d : Bool) (s : Int) : Int := if 0 ≤ s ∧ s < 74 then tC d s.toNat else 0
def sbg (d : Bool) (t r : Int) : Int := if r < 74 then (if tF d r.toNat ≤ t then tO d r.toNat else sbg d t (r + 1)) else -2
termination_by (74 - r).toNat
decreasing_by omega
theorem sbg_hit {d : Bool} {t r : Int} (h : r < 74) (h2 : tF d r.toNat ≤ t) : sbg d t r = tO d r.toNat := by rw [sbg, if_pos h, if_pos h2]
theorem sbg_next {d : Bool} {t r : Int} (h : r < 74) (h2 : ¬ tF d r.toNat ≤ t) : sbg d t r = sbg d t (r + 1) := by rw [sbg, if_pos h, if_neg h2]
theorem sbg_end {d : Bool} {t r : Int} (h : 74 ≤ r) : sbg d t r = -2 := by rw [sbg, if_neg (by omega)]
theorem tab_rg : ∀ (d : Bool) (j : Nat), j < 74 → (0 ≤ tF d j ∧ tF d j < 4096) ∧ (0 ≤ tO d j ∧ tO d j < 74) ∧ (2 ≤ tB d j ∧ tB d j ≤ 12) ∧ (0 ≤ tC d j ∧ tC d j < 4096) := by decide +kernel
theorem kn_X6_slotOfMake : zKn yX6_slotOfMake wsX6_slotOfMake cX6_slotOfMake 1 (some .int) 1 := ⟨⟨_, rfl⟩, by decide +kernel, by decide +kernel, by decide +kernel⟩
set_option maxHeartbeats 400000 in
set_option maxRecDepth 100000 in
theorem c_X6_slotOfMake (l : Launch) (D : va_G) (cy : Nat → ClassId) (tw : Nat → Nat) (a : Nat → Nat) (kd : Int) (co : Int) (mk : Bool) (al : Bool) (dz : Bool) (rd : Bool) (rw : Int) (wo : Nat → BitVec 64) (sa : Nat → Int) (sz : Int) (ps : Int) (bt : Nat → Int) (ou : Nat → BitVec 64) (bi : Int) (dm : Int) (pl : Bool) (re : Int) (cu : Bool) (r : Int)  (h1 : 0 ≤ r ∧ r ≤ 100000) : zMet l yX6_slotOfMake wsX6_slotOfMake { frames := 0, cells := 0, slots := 0, locals := 0 } D (zT cy) tw (CW cy a kd co mk al dz rd rw wo sa sz ps bt ou bi dm pl re cu) [vI r] 0 0 (S := Unit) (fun _ => some (vI (63 + r / 64))) (fun _ => CW cy a kd co mk al dz rd rw wo sa sz ps bt ou bi dm pl re cu) (fun _ => True) := by
  refine z_met (cc := cX6_slotOfMake) (nL := 1) (ret := some .int) (by decide +kernel) rfl (Nat.le_of_ble_eq_true rfl) (lv := [(0, vI r)]) rfl ?_
  intro V p_ e_ s_ m_ args_ below_ meth_ c_ A_ C hmn
  refine z_bipush C (z := 63) dX6_slotOfMake_0 (by decide) ?_
  refine z_iload_n C dX6_slotOfMake_2 0 rfl ?_
  refine z_bipush C (z := 64) dX6_slotOfMake_3 (by decide) ?_
  refine z_idiv C dX6_slotOfMake_5 (by omega) (by decide) ?_
  refine z_iadd C dX6_slotOfMake_6 ?_
  refine z_iret (x := (63 + (r / 64))) C dX6_slotOfMake_7 () ?_ ?_ ?_ (by decide) (by decide)
  · exact rfl
  · exact trivial
  · exact rfl
theorem kn_X6_slotOf : zKn yX6_slotOf wsX6_slotOf cX6_slotOf 1 (some .int) 1 := ⟨⟨_, rfl⟩, by decide +kernel, by decide +kernel, by decide +kernel⟩
set_option maxHeartbeats 400000 in
set_option maxRecDepth 100000 in
theorem c_X6_slotOf (l : Launch) (D : va_G) (cy : Nat → ClassId) (tw : Nat → Nat) (a : Nat → Nat) (kd : Int) (co : Int) (mk : Bool) (al : Bool) (dz : Bool) (rd : Bool) (rw : Int) (wo : Nat → BitVec 64) (sa : Nat → Int) (sz : Int) (ps : Int) (bt : Nat → Int) (ou : Nat → BitVec 64) (bi : Int) (dm : Int) (pl : Bool) (re : Int) (cu : Bool) (r : Int)  (h1 : -2147483648 ≤ r ∧ r < 2147483648) : zMet l yX6_slotOf wsX6_slotOf { frames := 1, cells := 0, slots := 0, locals := 20 } D (zT cy) tw (CW cy a kd co mk al dz rd rw wo sa sz ps bt ou bi dm pl re cu) [vI r] 0 0 (S := Unit) (fun _ => some (vI (sltC r))) (fun _ => CW cy a kd co mk al dz rd rw wo sa sz ps bt ou bi dm pl re cu) (fun _ => True) := by
  refine z_met (cc := cX6_slotOf) (nL := 1) (ret := some .int) (by decide +kernel) rfl (Nat.le_of_ble_eq_true rfl) (lv := [(0, vI r)]) rfl ?_
  intro V p_ e_ s_ m_ args_ below_ meth_ c_ A_ C hmn
  refine z_iload_n C dX6_slotOf_0 0 rfl ?_
  refine z_if_lt C (by omega) (tgt := 11) dX6_slotOf_1 (by decide) (fun hc_1 => ?_) (fun hc_1 => ?_)
  · refine z_bipush C (z := (-2)) dX6_slotOf_11 (by decide) ?_
    refine z_iret (x := (-2)) C dX6_slotOf_13 () ?_ ?_ ?_ (by decide) (by decide)
    · (unfold sltC; first | rw [if_pos (by omega)] | rw [if_neg (by omega), if_pos (by omega)] | rw [if_neg (by omega), if_neg (by omega)])
    · exact trivial
    · exact rfl
  · refine z_iload_n C dX6_slotOf_4 0 rfl ?_
    refine z_sipush C (z := 640) dX6_slotOf_5 (by decide) ?_
    refine z_icmp_le C (by omega) (by decide) (tgt := 14) dX6_slotOf_8 (by decide) (fun hc_2 => ?_) (fun hc_2 => ?_)
    · refine z_iload_n C dX6_slotOf_14 0 rfl ?_
      refine z_bipush C (z := 64) dX6_slotOf_15 (by decide) ?_
      refine z_icmp_ge C (by omega) (by decide) (tgt := 22) dX6_slotOf_17 (by decide) (fun hc_3 => ?_) (fun hc_3 => ?_)
      · refine z_iload_n C dX6_slotOf_22 0 rfl ?_
        refine z_bipush C (z := 64) dX6_slotOf_23 (by decide) ?_
        refine z_irem C dX6_slotOf_25 (by omega) (by decide) ?_
        refine z_if_ne C (by omega) (tgt := 36) dX6_slotOf_26 (by decide) (fun hc_4 => ?_) (fun hc_4 => ?_)
        · refine z_bipush C (z := (-2)) dX6_slotOf_36 (by decide) ?_
          refine z_iret (x := (-2)) C dX6_slotOf_38 () ?_ ?_ ?_ (by decide) (by decide)
          · (unfold sltC; first | rw [if_pos (by omega)] | rw [if_neg (by omega), if_pos (by omega)] | rw [if_neg (by omega), if_neg (by omega)])
          · exact trivial
          · exact rfl
        · refine z_iload_n C dX6_slotOf_29 0 rfl ?_
          refine z_callS C (As := [vI r]) (st := []) (c_X6_slotOfMake l D cy tw a kd co mk al dz rd rw wo sa sz ps bt ou bi dm pl re cu r  (by omega)) gX6_slotOf_X6_slotOfMake kn_X6_slotOfMake ⟨rfl, rfl, Nat.le_of_ble_eq_true rfl, Nat.le_of_ble_eq_true rfl⟩ rfl (Nat.le_of_ble_eq_true rfl) ⟨Nat.le_of_ble_eq_true rfl, Nat.le_of_ble_eq_true rfl⟩ dX6_slotOf_30 (fun u5 hu5 => ?_)
          clear hu5; clear u5
          show V 0 0 (CW cy a kd co mk al dz rd rw wo sa sz ps bt ou bi dm pl re cu) [(0, vI r)] [vI (63 + r / 64)] 33
          refine z_goto C (tgt := 38) dX6_slotOf_33 (by decide) ?_
          refine z_iret (x := (63 + r / 64)) C dX6_slotOf_38 () ?_ ?_ ?_ (by decide) (by decide)
          · (unfold sltC; first | rw [if_pos (by omega)] | rw [if_neg (by omega), if_pos (by omega)] | rw [if_neg (by omega), if_neg (by omega)])
          · exact trivial
          · exact rfl
      · refine z_iload_n C dX6_slotOf_20 0 rfl ?_
        refine z_iret (x := r) C dX6_slotOf_21 () ?_ ?_ ?_ (by decide) (by decide)
        · (unfold sltC; first | rw [if_pos (by omega)] | rw [if_neg (by omega), if_pos (by omega)] | rw [if_neg (by omega), if_neg (by omega)])
        · exact trivial
        · exact rfl
    · refine z_bipush C (z := (-2)) dX6_slotOf_11 (by decide) ?_
      refine z_iret (x := (-2)) C dX6_slotOf_13 () ?_ ?_ ?_ (by decide) (by decide)
      · (unfold sltC; first | rw [if_pos (by omega)] | rw [if_neg (by omega), if_pos (by omega)] | rw [if_neg (by omega), if_neg (by omega)])
      · exact trivial
      · exact rfl
theorem kn_X6_runOf : zKn yX6_runOf wsX6_runOf cX6_runOf 1 (some .int) 1 := ⟨⟨_, rfl⟩, by decide +kernel, by decide +kernel, by decide +kernel⟩
set_option maxHeartbeats 400000 in
set_option maxRecDepth 100000 in
theorem c_X6_runOf (l : Launch) (D : va_G) (cy : Nat → ClassId) (tw : Nat → Nat) (a : Nat → Nat) (kd : Int) (co : Int) (mk : Bool) (al : Bool) (dz : Bool) (rd : Bool) (rw : Int) (wo : Nat → BitVec 64) (sa : Nat → Int) (sz : Int) (ps : Int) (bt : Nat → Int) (ou : Nat → BitVec 64) (bi : Int) (dm : Int) (pl : Bool) (re : Int) (cu : Bool) (r : Int)  (h1 : 0 ≤ r ∧ r ≤ 1000) : zMet l yX6_runOf wsX6_runOf { frames := 0, cells := 0, slots := 0, locals := 0 } D (zT cy) tw (CW cy a kd co mk al dz rd rw wo sa sz ps bt ou bi dm pl re cu) [vI r] 0 0 (S := Unit) (fun _ => some (vI (runN r))) (fun _ => CW cy a kd co mk al dz rd rw wo sa sz ps bt ou bi dm pl re cu) (fun _ => True) := by
  refine z_met (cc := cX6_runOf) (nL := 1) (ret := some .int) (by decide +kernel) rfl (Nat.le_of_ble_eq_true rfl) (lv := [(0, vI r)]) rfl ?_
  intro V p_ e_ s_ m_ args_ below_ meth_ c_ A_ C hmn
  refine z_iload_n C dX6_runOf_0 0 rfl ?_
  refine z_bipush C (z := 64) dX6_runOf_1 (by decide) ?_
  refine z_icmp_ge C (by omega) (by decide) (tgt := 10) dX6_runOf_3 (by decide) (fun hc_1 => ?_) (fun hc_1 => ?_)
  · refine z_iload_n C dX6_runOf_10 0 rfl ?_
    refine z_bipush C (z := 64) dX6_runOf_11 (by decide) ?_
    refine z_isub C dX6_runOf_13 ?_
    refine z_iconst C (z := 1) dX6_runOf_14 ?_
    refine z_iadd C dX6_runOf_15 ?_
    refine z_bipush C (z := 64) dX6_runOf_16 (by decide) ?_
    refine z_imul C dX6_runOf_18 ?_
    refine z_iret (x := (((r - 64) + 1) * 64)) C dX6_runOf_19 () ?_ ?_ ?_ (by decide) (by decide)
    · (unfold runN; first | rw [if_pos (by omega)] | rw [if_neg (by omega)])
    · exact trivial
    · exact rfl
  · refine z_iload_n C dX6_runOf_6 0 rfl ?_
    refine z_goto C (tgt := 19) dX6_runOf_7 (by decide) ?_
    refine z_iret (x := r) C dX6_runOf_19 () ?_ ?_ ?_ (by decide) (by decide)
    · (unfold runN; first | rw [if_pos (by omega)] | rw [if_neg (by omega)])
    · exact trivial
    · exact rfl
theorem kn_X6_bitsOf : zKn yX6_bitsOf wsX6_bitsOf cX6_bitsOf 2 (some .int) 1 := ⟨⟨_, rfl⟩, by decide +kernel, by decide +kernel, by decide +kernel⟩
set_option maxHeartbeats 400000 in
set_option maxRecDepth 100000 in
theorem c_X6_bitsOfW (l : Launch) (D : va_G) (cy : Nat → ClassId) (tw : Nat → Nat) (a : Nat → Nat) (kd : Int) (co : Int) (mk : Bool) (al : Bool) (dz : Bool) (rd : Bool) (rw : Int) (wo : Nat → BitVec 64) (sa : Nat → Int) (sz : Int) (ps : Int) (bt : Nat → Int) (ou : Nat → BitVec 64) (bi : Int) (dm : Int) (pl : Bool) (re : Int) (cu : Bool) (r : Int)  (h1 : -10 ≤ r ∧ r ≤ 1000) : zMet l yX6_bitsOf wsX6_bitsOf { frames := 0, cells := 0, slots := 0, locals := 0 } D (zT cy) tw (CW cy a kd co mk al dz rd rw wo sa sz ps bt ou bi dm pl re cu) [.ref (a 3), vI r] 0 0 (S := Unit) (fun _ => some (vI (lenC false r))) (fun _ => CW cy a kd co mk al dz rd rw wo sa sz ps bt ou bi dm pl re cu) (fun _ => True) := by
  refine z_met (cc := cX6_bitsOf) (nL := 2) (ret := some .int) (by decide +kernel) rfl (Nat.le_of_ble_eq_true rfl) (lv := [(0, .ref (a 3)), (1, vI r)]) rfl ?_
  intro V p_ e_ s_ m_ args_ below_ meth_ c_ A_ C hmn
  have hinX6 : ∀ w ∈ u_ws RX6 TX6 4, w ∈ wsX6_bitsOf := by decide +kernel
  have k0 : Cond.fieldLink RX6 11 "FaxFilter$Table" "bits" "[I" ∈ wsX6_bitsOf := List.mem_of_getElem? (i := 1) rfl
  refine z_iload_n C dX6_bitsOf_0 1 rfl ?_
  refine z_if_lt C (by omega) (tgt := 19) dX6_bitsOf_1 (by decide) (fun hc_1 => ?_) (fun hc_1 => ?_)
  · refine z_iconst C (z := 0) dX6_bitsOf_19 ?_
    refine z_iret (x := 0) C dX6_bitsOf_20 () ?_ ?_ ?_ (by decide) (by decide)
    · (unfold lenC; first | rw [if_pos (by omega)] | rw [if_neg (by omega)])
    · exact trivial
    · exact rfl
  · refine z_iload_n C dX6_bitsOf_4 1 rfl ?_
    refine z_bipush C (z := 74) dX6_bitsOf_5 (by decide) ?_
    refine z_icmp_ge C (by omega) (by decide) (tgt := 19) dX6_bitsOf_7 (by decide) (fun hc_2 => ?_) (fun hc_2 => ?_)
    · refine z_iconst C (z := 0) dX6_bitsOf_19 ?_
      refine z_iret (x := 0) C dX6_bitsOf_20 () ?_ ?_ ?_ (by decide) (by decide)
      · (unfold lenC; first | rw [if_pos (by omega)] | rw [if_neg (by omega)])
      · exact trivial
      · exact rfl
    · refine z_aload_n C dX6_bitsOf_10 0 rfl ?_
      refine z_get C hinX6 (ci := 8) rfl 3 rfl 0 (by decide) k0 rfl (v := .ref (a 11)) rfl dX6_bitsOf_11 ?_
      refine z_iload_n C dX6_bitsOf_14 1 rfl ?_
      refine z_iald C 11 1 (g := (tB false)) rfl rfl (by omega) (by omega) (by decide) dX6_bitsOf_15 ?_
      refine z_goto C (tgt := 20) dX6_bitsOf_16 (by decide) ?_
      refine z_iret (x := (tB false (r : Int).toNat)) C dX6_bitsOf_20 () ?_ ?_ ?_ (by decide) (by decide)
      · (unfold lenC; first | rw [if_pos (by omega)] | rw [if_neg (by omega)])
      · exact trivial
      · exact rfl
theorem kn_X6_codeOf : zKn yX6_codeOf wsX6_codeOf cX6_codeOf 2 (some .int) 1 := ⟨⟨_, rfl⟩, by decide +kernel, by decide +kernel, by decide +kernel⟩
set_option maxHeartbeats 400000 in
set_option maxRecDepth 100000 in
theorem c_X6_codeOfW (l : Launch) (D : va_G) (cy : Nat → ClassId) (tw : Nat → Nat) (a : Nat → Nat) (kd : Int) (co : Int) (mk : Bool) (al : Bool) (dz : Bool) (rd : Bool) (rw : Int) (wo : Nat → BitVec 64) (sa : Nat → Int) (sz : Int) (ps : Int) (bt : Nat → Int) (ou : Nat → BitVec 64) (bi : Int) (dm : Int) (pl : Bool) (re : Int) (cu : Bool) (r : Int)  (h1 : -10 ≤ r ∧ r ≤ 1000) : zMet l yX6_codeOf wsX6_codeOf { frames := 0, cells := 0, slots := 0, locals := 0 } D (zT cy) tw (CW cy a kd co mk al dz rd rw wo sa sz ps bt ou bi dm pl re cu) [.ref (a 3), vI r] 0 0 (S := Unit) (fun _ => some (vI (codC false r))) (fun _ => CW cy a kd co mk al dz rd rw wo sa sz ps bt ou bi dm pl re cu) (fun _ => True) := by
  refine z_met (cc := cX6_codeOf) (nL := 2) (ret := some .int) (by decide +kernel) rfl (Nat.le_of_ble_eq_true rfl) (lv := [(0, .ref (a 3)), (1, vI r)]) rfl ?_
  intro V p_ e_ s_ m_ args_ below_ meth_ c_ A_ C hmn
  have hinX6 : ∀ w ∈ u_ws RX6 TX6 4, w ∈ wsX6_codeOf := by decide +kernel
  have k0 : Cond.fieldLink RX6 15 "FaxFilter$Table" "codes" "[I" ∈ wsX6_codeOf := List.mem_of_getElem? (i := 1) rfl
  refine z_iload_n C dX6_codeOf_0 1 rfl ?_
  refine z_if_lt C (by omega) (tgt := 19) dX6_codeOf_1 (by decide) (fun hc_1 => ?_) (fun hc_1 => ?_)
  · refine z_iconst C (z := 0) dX6_codeOf_19 ?_
    refine z_iret (x := 0) C dX6_codeOf_20 () ?_ ?_ ?_ (by decide) (by decide)
    · (unfold codC; first | rw [if_pos (by omega)] | rw [if_neg (by omega)])
    · exact trivial
    · exact rfl
  · refine z_iload_n C dX6_codeOf_4 1 rfl ?_
    refine z_bipush C (z := 74) dX6_codeOf_5 (by decide) ?_
    refine z_icmp_ge C (by omega) (by decide) (tgt := 19) dX6_codeOf_7 (by decide) (fun hc_2 => ?_) (fun hc_2 => ?_)
    · refine z_iconst C (z := 0) dX6_codeOf_19 ?_
      refine z_iret (x := 0) C dX6_codeOf_20 () ?_ ?_ ?_ (by decide) (by decide)
      · (unfold codC; first | rw [if_pos (by omega)] | rw [if_neg (by omega)])
      · exact trivial
      · exact rfl
    · refine z_aload_n C dX6_codeOf_10 0 rfl ?_
      refine z_get C hinX6 (ci := 8) rfl 3 rfl 1 (by decide) k0 rfl (v := .ref (a 12)) rfl dX6_codeOf_11 ?_
      refine z_iload_n C dX6_codeOf_14 1 rfl ?_
      refine z_iald C 12 1 (g := (tC false)) rfl rfl (by omega) (by omega) (by decide) dX6_codeOf_15 ?_
      refine z_goto C (tgt := 20) dX6_codeOf_16 (by decide) ?_
      refine z_iret (x := (tC false (r : Int).toNat)) C dX6_codeOf_20 () ?_ ?_ ?_ (by decide) (by decide)
      · (unfold codC; first | rw [if_pos (by omega)] | rw [if_neg (by omega)])
      · exact trivial
      · exact rfl
theorem kn_X6_slotBeginning : zKn yX6_slotBeginning wsX6_slotBeginning cX6_slotBeginning 3 (some .int) 1 := ⟨⟨_, rfl⟩, by decide +kernel, by decide +kernel, by decide +kernel⟩
set_option maxHeartbeats 400000 in
set_option maxRecDepth 100000 in
theorem c_X6_slotBeginningW (l : Launch) (D : va_G) (cy : Nat → ClassId) (tw : Nat → Nat) (a : Nat → Nat) (kd : Int) (co : Int) (mk : Bool) (al : Bool) (dz : Bool) (rd : Bool) (rw : Int) (wo : Nat → BitVec 64) (sa : Nat → Int) (sz : Int) (ps : Int) (bt : Nat → Int) (ou : Nat → BitVec 64) (bi : Int) (dm : Int) (pl : Bool) (re : Int) (cu : Bool) (t : Int)  (h1 : 0 ≤ t ∧ t < 4096) : zMet l yX6_slotBeginning wsX6_slotBeginning { frames := 0, cells := 0, slots := 0, locals := 0 } D (zT cy) tw (CW cy a kd co mk al dz rd rw wo sa sz ps bt ou bi dm pl re cu) [.ref (a 3), vI t] 0 0 (S := Unit) (fun _ => some (vI (sbg false t 0))) (fun _ => CW cy a kd co mk al dz rd rw wo sa sz ps bt ou bi dm pl re cu) (fun _ => True) := by
  refine z_met (cc := cX6_slotBeginning) (nL := 3) (ret := some .int) (by decide +kernel) rfl (Nat.le_of_ble_eq_true rfl) (lv := [(0, .ref (a 3)), (1, vI t)]) rfl ?_
  intro V p_ e_ s_ m_ args_ below_ meth_ c_ A_ C hmn
  have hinX6 : ∀ w ∈ u_ws RX6 TX6 4, w ∈ wsX6_slotBeginning := by decide +kernel
  have k0 : Cond.fieldLink RX6 21 "FaxFilter$Table" "floors" "[I" ∈ wsX6_slotBeginning := List.mem_of_getElem? (i := 1) rfl
  have k1 : Cond.fieldLink RX6 18 "FaxFilter$Table" "ordered" "[I" ∈ wsX6_slotBeginning := List.mem_of_getElem? (i := 2) rfl
  refine z_iconst C (z := 0) dX6_slotBeginning_0 ?_
  refine z_istore_n C (lv' := [(2, vI 0), (0, .ref (a 3)), (1, vI t)]) dX6_slotBeginning_1 rfl (by decide) rfl ?_
  have J2 : ∀ (f : Nat) (r : Int), (0 ≤ r ∧ r ≤ 74) → (sbg false t 0 = sbg false t r) → (74 - r).toNat < f → V 0 0 (CW cy a kd co mk al dz rd rw wo sa sz ps bt ou bi dm pl re cu) [(0, .ref (a 3)), (1, vI t), (2, vI r)] [] 2 := by
    intro f
    induction f with
    | zero => intro r i0 i1 hf; exact absurd hf (Nat.not_lt_zero _)
    | succ f ih =>
      intro r i0 i1 hf
      refine z_iload_n C dX6_slotBeginning_2 2 rfl ?_
      refine z_bipush C (z := 74) dX6_slotBeginning_3 (by decide) ?_
      refine z_icmp_ge C (by omega) (by decide) (tgt := 31) dX6_slotBeginning_5 (by decide) (fun hc_1 => ?_) (fun hc_1 => ?_)
      · refine z_bipush C (z := (-2)) dX6_slotBeginning_31 (by decide) ?_
        refine z_iret (x := (-2)) C dX6_slotBeginning_33 () ?_ ?_ ?_ (by decide) (by decide)
        · rw [i1, sbg_end (by omega)]
        · exact trivial
        · exact rfl
      · refine z_aload_n C dX6_slotBeginning_8 0 rfl ?_
        have ht := tab_rg false r.toNat (by omega)
        refine z_get C hinX6 (ci := 8) rfl 3 rfl 3 (by decide) k0 rfl (v := .ref (a 14)) rfl dX6_slotBeginning_9 ?_
        refine z_iload_n C dX6_slotBeginning_12 2 rfl ?_
        refine z_iald C 14 1 (g := (tF false)) rfl rfl (by omega) (by omega) (by decide) dX6_slotBeginning_13 ?_
        refine z_iload_n C dX6_slotBeginning_14 1 rfl ?_
        refine z_icmp_gt C (by omega) (by omega) (tgt := 25) dX6_slotBeginning_15 (by decide) (fun hc_2 => ?_) (fun hc_2 => ?_)
        · refine z_iinc C (lv' := [(2, vI (r + 1)), (0, .ref (a 3)), (1, vI t)]) dX6_slotBeginning_25 2 rfl (by decide) rfl ?_
          refine z_goto C (tgt := 2) dX6_slotBeginning_28 (by decide) ?_
          refine z_lsub C [1, 2, 0] rfl ?_
          exact ih (r + 1) (by omega) (by rw [i1, sbg_next (by omega) (by omega)]) (by omega)
        · refine z_aload_n C dX6_slotBeginning_18 0 rfl ?_
          refine z_get C hinX6 (ci := 8) rfl 3 rfl 2 (by decide) k1 rfl (v := .ref (a 13)) rfl dX6_slotBeginning_19 ?_
          refine z_iload_n C dX6_slotBeginning_22 2 rfl ?_
          refine z_iald C 13 1 (g := (tO false)) rfl rfl (by omega) (by omega) (by decide) dX6_slotBeginning_23 ?_
          refine z_iret (x := (tO false (r : Int).toNat)) C dX6_slotBeginning_24 () ?_ ?_ ?_ (by decide) (by decide)
          · rw [i1, sbg_hit (by omega) (by omega)]
          · exact trivial
          · exact rfl
  refine z_lsub C [1, 2, 0] rfl ?_
  exact J2 _ 0 (by omega) (rfl) (Nat.lt_succ_self _)
set_option maxHeartbeats 400000 in
set_option maxRecDepth 100000 in
theorem c_X6_bitsOfD (l : Launch) (D : va_G) (cy : Nat → ClassId) (tw : Nat → Nat) (a : Nat → Nat) (kd : Int) (co : Int) (mk : Bool) (al : Bool) (dz : Bool) (rd : Bool) (rw : Int) (wo : Nat → BitVec 64) (sa : Nat → Int) (sz : Int) (ps : Int) (bt : Nat → Int) (ou : Nat → BitVec 64) (bi : Int) (dm : Int) (pl : Bool) (re : Int) (cu : Bool) (r : Int)  (h1 : -10 ≤ r ∧ r ≤ 1000) : zMet l yX6_bitsOf wsX6_bitsOf { frames := 0, cells := 0, slots := 0, locals := 0 } D (zT cy) tw (CW cy a kd co mk al dz rd rw wo sa sz ps bt ou bi dm pl re cu) [.ref (a 4), vI r] 0 0 (S := Unit) (fun _ => some (vI (lenC true r))) (fun _ => CW cy a kd co mk al dz rd rw wo sa sz ps bt ou bi dm pl re cu) (fun _ => True) := by
  refine z_met (cc := cX6_bitsOf) (nL := 2) (ret := some .int) (by decide +kernel) rfl (Nat.le_of_ble_eq_true rfl) (lv := [(0, .ref (a 4)), (1, vI r)]) rfl ?_
  intro V p_ e_ s_ m_ args_ below_ meth_ c_ A_ C hmn
  have hinX6 : ∀ w ∈ u_ws RX6 TX6 4, w ∈ wsX6_bitsOf := by decide +kernel
  have k0 : Cond.fieldLink RX6 11 "FaxFilter$Table" "bits" "[I" ∈ wsX6_bitsOf := List.mem_of_getElem? (i := 1) rfl
  refine z_iload_n C dX6_bitsOf_0 1 rfl ?_
  refine z_if_lt C (by omega) (tgt := 19) dX6_bitsOf_1 (by decide) (fun hc_1 => ?_) (fun hc_1 => ?_)
  · refine z_iconst C (z := 0) dX6_bitsOf_19 ?_
    refine z_iret (x := 0) C dX6_bitsOf_20 () ?_ ?_ ?_ (by decide) (by decide)
    · (unfold lenC; first | rw [if_pos (by omega)] | rw [if_neg (by omega)])
    · exact trivial
    · exact rfl
  · refine z_iload_n C dX6_bitsOf_4 1 rfl ?_
    refine z_bipush C (z := 74) dX6_bitsOf_5 (by decide) ?_
    refine z_icmp_ge C (by omega) (by decide) (tgt := 19) dX6_bitsOf_7 (by decide) (fun hc_2 => ?_) (fun hc_2 => ?_)
    · refine z_iconst C (z := 0) dX6_bitsOf_19 ?_
      refine z_iret (x := 0) C dX6_bitsOf_20 () ?_ ?_ ?_ (by decide) (by decide)
      · (unfold lenC; first | rw [if_pos (by omega)] | rw [if_neg (by omega)])
      · exact trivial
      · exact rfl
    · refine z_aload_n C dX6_bitsOf_10 0 rfl ?_
      refine z_get C hinX6 (ci := 8) rfl 4 rfl 0 (by decide) k0 rfl (v := .ref (a 15)) rfl dX6_bitsOf_11 ?_
      refine z_iload_n C dX6_bitsOf_14 1 rfl ?_
      refine z_iald C 15 1 (g := (tB true)) rfl rfl (by omega) (by omega) (by decide) dX6_bitsOf_15 ?_
      refine z_goto C (tgt := 20) dX6_bitsOf_16 (by decide) ?_
      refine z_iret (x := (tB true (r : Int).toNat)) C dX6_bitsOf_20 () ?_ ?_ ?_ (by decide) (by decide)
      · (unfold lenC; first | rw [if_pos (by omega)] | rw [if_neg (by omega)])
      · exact trivial
      · exact rfl
set_option maxHeartbeats 400000 in
set_option maxRecDepth 100000 in
theorem c_X6_codeOfD (l : Launch) (D : va_G) (cy : Nat → ClassId) (tw : Nat → Nat) (a : Nat → Nat) (kd : Int) (co : Int) (mk : Bool) (al : Bool) (dz : Bool) (rd : Bool) (rw : Int) (wo : Nat → BitVec 64) (sa : Nat → Int) (sz : Int) (ps : Int) (bt : Nat → Int) (ou : Nat → BitVec 64) (bi : Int) (dm : Int) (pl : Bool) (re : Int) (cu : Bool) (r : Int)  (h1 : -10 ≤ r ∧ r ≤ 1000) : zMet l yX6_codeOf wsX6_codeOf { frames := 0, cells := 0, slots := 0, locals := 0 } D (zT cy) tw (CW cy a kd co mk al dz rd rw wo sa sz ps bt ou bi dm pl re cu) [.ref (a 4), vI r] 0 0 (S := Unit) (fun _ => some (vI (codC true r))) (fun _ => CW cy a kd co mk al dz rd rw wo sa sz ps bt ou bi dm pl re cu) (fun _ => True) := by
  refine z_met (cc := cX6_codeOf) (nL := 2) (ret := some .int) (by decide +kernel) rfl (Nat.le_of_ble_eq_true rfl) (lv := [(0, .ref (a 4)), (1, vI r)]) rfl ?_
  intro V p_ e_ s_ m_ args_ below_ meth_ c_ A_ C hmn
  have hinX6 : ∀ w ∈ u_ws RX6 TX6 4, w ∈ wsX6_codeOf := by decide +kernel
  have k0 : Cond.fieldLink RX6 15 "FaxFilter$Table" "codes" "[I" ∈ wsX6_codeOf := List.mem_of_getElem? (i := 1) rfl
  refine z_iload_n C dX6_codeOf_0 1 rfl ?_
  refine z_if_lt C (by omega) (tgt := 19) dX6_codeOf_1 (by decide) (fun hc_1 => ?_) (fun hc_1 => ?_)
  · refine z_iconst C (z := 0) dX6_codeOf_19 ?_
    refine z_iret (x := 0) C dX6_codeOf_20 () ?_ ?_ ?_ (by decide) (by decide)
    · (unfold codC; first | rw [if_pos (by omega)] | rw [if_neg (by omega)])
    · exact trivial
    · exact rfl
  · refine z_iload_n C dX6_codeOf_4 1 rfl ?_
    refine z_bipush C (z := 74) dX6_codeOf_5 (by decide) ?_
    refine z_icmp_ge C (by omega) (by decide) (tgt := 19) dX6_codeOf_7 (by decide) (fun hc_2 => ?_) (fun hc_2 => ?_)
    · refine z_iconst C (z := 0) dX6_codeOf_19 ?_
      refine z_iret (x := 0) C dX6_codeOf_20 () ?_ ?_ ?_ (by decide) (by decide)
      · (unfold codC; first | rw [if_pos (by omega)] | rw [if_neg (by omega)])
      · exact trivial
      · exact rfl
    · refine z_aload_n C dX6_codeOf_10 0 rfl ?_
      refine z_get C hinX6 (ci := 8) rfl 4 rfl 1 (by decide) k0 rfl (v := .ref (a 16)) rfl dX6_codeOf_11 ?_
      refine z_iload_n C dX6_codeOf_14 1 rfl ?_
      refine z_iald C 16 1 (g := (tC true)) rfl rfl (by omega) (by omega) (by decide) dX6_codeOf_15 ?_
      refine z_goto C (tgt := 20) dX6_codeOf_16 (by decide) ?_
      refine z_iret (x := (tC true (r : Int).toNat)) C dX6_codeOf_20 () ?_ ?_ ?_ (by decide) (by decide)
      · (unfold codC; first | rw [if_pos (by omega)] | rw [if_neg (by omega)])
      · exact trivial
      · exact rfl
set_option maxHeartbeats 400000 in
set_option maxRecDepth 100000 in
theorem c_X6_slotBeginningD (l : Launch) (D : va_G) (cy : Nat → ClassId) (tw : Nat → Nat) (a : Nat → Nat) (kd : Int) (co : Int) (mk : Bool) (al : Bool) (dz : Bool) (rd : Bool) (rw : Int) (wo : Nat → BitVec 64) (sa : Nat → Int) (sz : Int) (ps : Int) (bt : Nat → Int) (ou : Nat → BitVec 64) (bi : Int) (dm : Int) (pl : Bool) (re : Int) (cu : Bool) (t : Int)  (h1 : 0 ≤ t ∧ t < 4096) : zMet l yX6_slotBeginning wsX6_slotBeginning { frames := 0, cells := 0, slots := 0, locals := 0 } D (zT cy) tw (CW cy a kd co mk al dz rd rw wo sa sz ps bt ou bi dm pl re cu) [.ref (a 4), vI t] 0 0 (S := Unit) (fun _ => some (vI (sbg true t 0))) (fun _ => CW cy a kd co mk al dz rd rw wo sa sz ps bt ou bi dm pl re cu) (fun _ => True) := by
  refine z_met (cc := cX6_slotBeginning) (nL := 3) (ret := some .int) (by decide +kernel) rfl (Nat.le_of_ble_eq_true rfl) (lv := [(0, .ref (a 4)), (1, vI t)]) rfl ?_
  intro V p_ e_ s_ m_ args_ below_ meth_ c_ A_ C hmn
  have hinX6 : ∀ w ∈ u_ws RX6 TX6 4, w ∈ wsX6_slotBeginning := by decide +kernel
  have k0 : Cond.fieldLink RX6 21 "FaxFilter$Table" "floors" "[I" ∈ wsX6_slotBeginning := List.mem_of_getElem? (i := 1) rfl
  have k1 : Cond.fieldLink RX6 18 "FaxFilter$Table" "ordered" "[I" ∈ wsX6_slotBeginning := List.mem_of_getElem? (i := 2) rfl
  refine z_iconst C (z := 0) dX6_slotBeginning_0 ?_
  refine z_istore_n C (lv' := [(2, vI 0), (0, .ref (a 4)), (1, vI t)]) dX6_slotBeginning_1 rfl (by decide) rfl ?_
  have J2 : ∀ (f : Nat) (r : Int), (0 ≤ r ∧ r ≤ 74) → (sbg true t 0 = sbg true t r) → (74 - r).toNat < f → V 0 0 (CW cy a kd co mk al dz rd rw wo sa sz ps bt ou bi dm pl re cu) [(0, .ref (a 4)), (1, vI t), (2, vI r)] [] 2 := by
    intro f
    induction f with
    | zero => intro r i0 i1 hf; exact absurd hf (Nat.not_lt_zero _)
    | succ f ih =>
      intro r i0 i1 hf
      refine z_iload_n C dX6_slotBeginning_2 2 rfl ?_
      refine z_bipush C (z := 74) dX6_slotBeginning_3 (by decide) ?_
      refine z_icmp_ge C (by omega) (by decide) (tgt := 31) dX6_slotBeginning_5 (by decide) (fun hc_1 => ?_) (fun hc_1 => ?_)
      · refine z_bipush C (z := (-2)) dX6_slotBeginning_31 (by decide) ?_
        refine z_iret (x := (-2)) C dX6_slotBeginning_33 () ?_ ?_ ?_ (by decide) (by decide)
        · rw [i1, sbg_end (by omega)]
        · exact trivial
        · exact rfl
      · refine z_aload_n C dX6_slotBeginning_8 0 rfl ?_
        have ht := tab_rg true r.toNat (by omega)
        refine z_get C hinX6 (ci := 8) rfl 4 rfl 3 (by decide) k0 rfl (v := .ref (a 18)) rfl dX6_slotBeginning_9 ?_
        refine z_iload_n C dX6_slotBeginning_12 2 rfl ?_
        refine z_iald C 18 1 (g := (tF true)) rfl rfl (by omega) (by omega) (by decide) dX6_slotBeginning_13 ?_
        refine z_iload_n C dX6_slotBeginning_14 1 rfl ?_
        refine z_icmp_gt C (by omega) (by omega) (tgt := 25) dX6_slotBeginning_15 (by decide) (fun hc_2 => ?_) (fun hc_2 => ?_)
        · refine z_iinc C (lv' := [(2, vI (r + 1)), (0, .ref (a 4)), (1, vI t)]) dX6_slotBeginning_25 2 rfl (by decide) rfl ?_
          refine z_goto C (tgt := 2) dX6_slotBeginning_28 (by decide) ?_
          refine z_lsub C [1, 2, 0] rfl ?_
          exact ih (r + 1) (by omega) (by rw [i1, sbg_next (by omega) (by omega)]) (by omega)
        · refine z_aload_n C dX6_slotBeginning_18 0 rfl ?_
          refine z_get C hinX6 (ci := 8) rfl 4 rfl 2 (by decide) k1 rfl (v := .ref (a 17)) rfl dX6_slotBeginning_19 ?_
          refine z_iload_n C dX6_slotBeginning_22 2 rfl ?_
          refine z_iald C 17 1 (g := (tO true)) rfl rfl (by omega) (by omega) (by decide) dX6_slotBeginning_23 ?_
          refine z_iret (x := (tO true (r : Int).toNat)) C dX6_slotBeginning_24 () ?_ ?_ ?_ (by decide) (by decide)
          · rw [i1, sbg_hit (by omega) (by omega)]
          · exact trivial
          · exact rfl
  refine z_lsub C [1, 2, 0] rfl ?_
  exact J2 _ 0 (by omega) (rfl) (Nat.lt_succ_self _)
