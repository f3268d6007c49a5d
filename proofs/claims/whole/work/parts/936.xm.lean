set_option maxHeartbeats 400000 in
set_option maxRecDepth 100000 in
theorem c_X8_readX (l : Launch) (D : va_G) (cy : Nat → ClassId) (tw : Nat → Nat) (b : Nat → Nat) (kd : Int) (co : Int) (th : Int) (rw : Int) (cl : Int) (wr : Int) (po : Int) (dm : Int) (sx : Int) (aa : Int) (dk : Bool) (fi : Bool) (bb : Int) (cz : Int) (hm : Bool) (se : Nat → Bool) (da : Nat → Bool) (sa : Nat → Int) (bt : Nat → Int) (oz : Nat → Bool) (z : Int)  (hyz : -2147483648 ≤ z ∧ z ≤ 2147483647) (hno : z < 0 ∨ 24 < z) : zMet l yX8_read wsX8_read { frames := 6, cells := 0, slots := 0, locals := 137 } D (zT cy) tw (MW cy b kd co th rw cl wr po dm sx aa dk fi bb cz hm se da sa bt oz) [.ref (b 0), vI z] 0 0 (S := Unit) (fun _ => some (vI 0)) (fun _ => MW cy b kd co 1 rw cl wr po dm sx aa dk fi bb cz hm se da sa bt oz) (fun _ => True) := by
  refine z_met (cc := cX8_read) (nL := 4) (ret := some .int) (by decide +kernel) rfl (Nat.le_of_ble_eq_true rfl) (lv := [(0, .ref (b 0)), (1, vI z)]) rfl ?_
  intro V p_ e_ s_ m_ args_ below_ meth_ c_ A_ C hmn
  have hinX8 : ∀ w ∈ u_ws RX8 TX8 22, w ∈ wsX8_read := by decide +kernel
  have k0 : Cond.fieldLink RX8 44 "FaxFilterModel" "thrown" "I" ∈ wsX8_read := List.mem_of_getElem? (i := 1) rfl
  refine z_aload_n C dX8_read_0 0 rfl ?_
  refine z_iload_n C dX8_read_1 1 rfl ?_
  refine z_if_lt C (by omega) (tgt := 11) dX8_read_2 (by decide) (fun hc_1 => ?_) (fun hc_1 => ?_)
  · refine z_iconst C (z := 1) dX8_read_11 ?_
    refine z_goto C (tgt := 16) dX8_read_12 (by decide) ?_
    refine z_put C hinX8 tyX8 tyX8_ok nmX8 (ci := 10) rfl 0 rfl 0 (by decide) k0 rfl rfl rfl rfl (Nat.le_of_ble_eq_true rfl) dX8_read_16 (ws' := MW cy b kd co 1 rw cl wr po dm sx aa dk fi bb cz hm se da sa bt oz) rfl ?_
    refine z_aload_n C dX8_read_19 0 rfl ?_
    refine z_get C hinX8 (ci := 10) rfl 0 rfl 0 (by decide) k0 rfl (v := vI 1) rfl dX8_read_20 ?_
    refine z_if_le C (by decide) (tgt := 28) dX8_read_23 (by decide) (fun hc_2 => ?_) (fun hc_2 => ?_)
    · exact absurd hc_2 (by decide)
    refine z_iconst C (z := 0) dX8_read_26 ?_
    refine z_iret (x := 0) C dX8_read_27 () ?_ ?_ ?_ (by decide) (by decide)
    · exact rfl
    · exact trivial
    · exact rfl
  · refine z_iload_n C dX8_read_5 1 rfl ?_
    refine z_bipush C (z := 24) dX8_read_6 (by decide) ?_
    refine z_icmp_le C (by omega) (by decide) (tgt := 15) dX8_read_8 (by decide) (fun hc_3 => ?_) (fun hc_3 => ?_)
    · exfalso; omega
    · refine z_iconst C (z := 1) dX8_read_11 ?_
      refine z_goto C (tgt := 16) dX8_read_12 (by decide) ?_
      refine z_put C hinX8 tyX8 tyX8_ok nmX8 (ci := 10) rfl 0 rfl 0 (by decide) k0 rfl rfl rfl rfl (Nat.le_of_ble_eq_true rfl) dX8_read_16 (ws' := MW cy b kd co 1 rw cl wr po dm sx aa dk fi bb cz hm se da sa bt oz) rfl ?_
      refine z_aload_n C dX8_read_19 0 rfl ?_
      refine z_get C hinX8 (ci := 10) rfl 0 rfl 0 (by decide) k0 rfl (v := vI 1) rfl dX8_read_20 ?_
      refine z_if_le C (by decide) (tgt := 28) dX8_read_23 (by decide) (fun hc_4 => ?_) (fun hc_4 => ?_)
      · exact absurd hc_4 (by decide)
      refine z_iconst C (z := 0) dX8_read_26 ?_
      refine z_iret (x := 0) C dX8_read_27 () ?_ ?_ ?_ (by decide) (by decide)
      · exact rfl
      · exact trivial
      · exact rfl
set_option maxHeartbeats 400000 in
set_option maxRecDepth 100000 in
theorem c_X8_codeF (l : Launch) (D : va_G) (cy : Nat → ClassId) (tw : Nat → Nat) (b : Nat → Nat) (kd : Int) (co : Int) (th : Int) (rw : Int) (cl : Int) (wr : Int) (po : Int) (dm : Int) (sx : Int) (aa : Int) (dk : Bool) (fi : Bool) (bb : Int) (cz : Int) (hm : Bool) (se : Nat → Bool) (da : Nat → Bool) (sa : Nat → Int) (bt : Nat → Int) (oz : Nat → Bool) (d : Bool) (z : Int)  (hyz : -2147483648 ≤ z ∧ z ≤ 2147483647) : zMet l yX8_code wsX8_code { frames := 1, cells := 0, slots := 0, locals := 20 } D (zT cy) tw (MW cy b kd co th rw cl wr po dm sx aa dk fi bb cz hm se da sa bt oz) [.ref (b 0), vI (b2i d), vI z] 0 0 (S := Unit) (fun _ => some (vI (if isR z = true then mC (704 * b2i d + z).toNat + 65536 * mB (704 * b2i d + z).toNat else 0))) (fun _ => MW cy b kd co (if isR z = true then 0 else 1) rw cl wr po dm sx aa dk fi bb cz hm se da sa bt oz) (fun _ => True) := by
  refine z_met (cc := cX8_code) (nL := 4) (ret := some .int) (by decide +kernel) rfl (Nat.le_of_ble_eq_true rfl) (lv := [(0, .ref (b 0)), (1, vI (b2i d)), (2, vI z)]) rfl ?_
  intro V p_ e_ s_ m_ args_ below_ meth_ c_ A_ C hmn
  have hinX8 : ∀ w ∈ u_ws RX8 TX8 22, w ∈ wsX8_code := by decide +kernel
  have k0 : Cond.fieldLink RX8 44 "FaxFilterModel" "thrown" "I" ∈ wsX8_code := List.mem_of_getElem? (i := 1) rfl
  have k1 : Cond.fieldLink RX8 7 "FaxFilterModel" "code" "[I" ∈ wsX8_code := List.mem_of_getElem? (i := 2) rfl
  have k2 : Cond.constant RX8 59 (65536) ∈ wsX8_code := List.mem_of_getElem? (i := 3) rfl
  have k3 : Cond.fieldLink RX8 13 "FaxFilterModel" "bits" "[I" ∈ wsX8_code := List.mem_of_getElem? (i := 4) rfl
  refine z_aload_n C dX8_code_0 0 rfl ?_
  refine z_iload_n C dX8_code_1 2 rfl ?_
  refine z_callS C (As := [vI z]) (st := [.ref (b 0)]) (c_X8_isRunG l D cy tw b (MW cy b kd co th rw cl wr po dm sx aa dk fi bb cz hm se da sa bt oz) z  (by omega)) gX8_code_X8_isRun kn_X8_isRun ⟨rfl, rfl, Nat.le_of_ble_eq_true rfl, Nat.le_of_ble_eq_true rfl⟩ rfl (Nat.le_of_ble_eq_true rfl) ⟨Nat.le_of_ble_eq_true rfl, Nat.le_of_ble_eq_true rfl⟩ dX8_code_2 (fun u1 hu1 => ?_)
  clear hu1; clear u1
  show V 0 0 (MW cy b kd co th rw cl wr po dm sx aa dk fi bb cz hm se da sa bt oz) [(0, .ref (b 0)), (1, vI (b2i d)), (2, vI z)] [vI (b2i (isR z)), .ref (b 0)] 5
  refine z_ifz C (tgt := 12) dX8_code_5 (by decide) (fun ci => ?_) (fun ci => ?_)
  · refine z_iconst C (z := 1) dX8_code_12 ?_
    refine z_put C hinX8 tyX8 tyX8_ok nmX8 (ci := 10) rfl 0 rfl 0 (by decide) k0 rfl rfl rfl rfl (Nat.le_of_ble_eq_true rfl) dX8_code_13 (ws' := MW cy b kd co 1 rw cl wr po dm sx aa dk fi bb cz hm se da sa bt oz) rfl ?_
    refine z_sipush C (z := 704) dX8_code_16 (by decide) ?_
    refine z_iload_n C dX8_code_19 1 rfl ?_
    refine z_ifz C (tgt := 27) dX8_code_20 (by decide) (fun cd => ?_) (fun cd => ?_)
    · refine z_iconst C (z := 0) dX8_code_27 ?_
      refine z_imul C dX8_code_28 ?_
      refine z_iload_n C dX8_code_29 2 rfl ?_
      refine z_iadd C dX8_code_30 ?_
      refine z_istore_n C (lv' := [(3, vI ((704 * 0) + z)), (0, .ref (b 0)), (1, vI (b2i d)), (2, vI z)]) dX8_code_31 rfl (by decide) rfl ?_
      refine z_aload_n C dX8_code_32 1 rfl ?_
      refine z_get C hinX8 (ci := 10) rfl 0 rfl 0 (by decide) k0 rfl (v := vI 1) rfl dX8_code_33 ?_
      refine z_if_le C (by decide) (tgt := 43) dX8_code_36 (by decide) (fun hc_2 => ?_) (fun hc_2 => ?_)
      · exact absurd hc_2 (by decide)
      refine z_iconst C (z := 0) dX8_code_39 ?_
      refine z_goto C (tgt := 59) dX8_code_40 (by decide) ?_
      refine z_iret (x := 0) C dX8_code_59 () ?_ ?_ ?_ (by decide) (by decide)
      · rw [ci, if_neg (by decide)]
      · exact trivial
      · rw [ci, if_neg (by decide)]
    · refine z_iconst C (z := 1) dX8_code_23 ?_
      refine z_goto C (tgt := 28) dX8_code_24 (by decide) ?_
      refine z_imul C dX8_code_28 ?_
      refine z_iload_n C dX8_code_29 2 rfl ?_
      refine z_iadd C dX8_code_30 ?_
      refine z_istore_n C (lv' := [(3, vI ((704 * 1) + z)), (0, .ref (b 0)), (1, vI (b2i d)), (2, vI z)]) dX8_code_31 rfl (by decide) rfl ?_
      refine z_aload_n C dX8_code_32 1 rfl ?_
      refine z_get C hinX8 (ci := 10) rfl 0 rfl 0 (by decide) k0 rfl (v := vI 1) rfl dX8_code_33 ?_
      refine z_if_le C (by decide) (tgt := 43) dX8_code_36 (by decide) (fun hc_3 => ?_) (fun hc_3 => ?_)
      · exact absurd hc_3 (by decide)
      refine z_iconst C (z := 0) dX8_code_39 ?_
      refine z_goto C (tgt := 59) dX8_code_40 (by decide) ?_
      refine z_iret (x := 0) C dX8_code_59 () ?_ ?_ ?_ (by decide) (by decide)
      · rw [ci, if_neg (by decide)]
      · exact trivial
      · rw [ci, if_neg (by decide)]
  · have hi := isR_rg ci
    refine z_iconst C (z := 0) dX8_code_8 ?_
    refine z_goto C (tgt := 13) dX8_code_9 (by decide) ?_
    refine z_put C hinX8 tyX8 tyX8_ok nmX8 (ci := 10) rfl 0 rfl 0 (by decide) k0 rfl rfl rfl rfl (Nat.le_of_ble_eq_true rfl) dX8_code_13 (ws' := MW cy b kd co 0 rw cl wr po dm sx aa dk fi bb cz hm se da sa bt oz) rfl ?_
    refine z_sipush C (z := 704) dX8_code_16 (by decide) ?_
    refine z_iload_n C dX8_code_19 1 rfl ?_
    refine z_ifz C (tgt := 27) dX8_code_20 (by decide) (fun cd => ?_) (fun cd => ?_)
    · refine z_iconst C (z := 0) dX8_code_27 ?_
      refine z_imul C dX8_code_28 ?_
      refine z_iload_n C dX8_code_29 2 rfl ?_
      refine z_iadd C dX8_code_30 ?_
      refine z_istore_n C (lv' := [(3, vI ((704 * 0) + z)), (0, .ref (b 0)), (1, vI (b2i d)), (2, vI z)]) dX8_code_31 rfl (by decide) rfl ?_
      refine z_aload_n C dX8_code_32 1 rfl ?_
      refine z_get C hinX8 (ci := 10) rfl 0 rfl 0 (by decide) k0 rfl (v := vI 0) rfl dX8_code_33 ?_
      refine z_if_le C (by decide) (tgt := 43) dX8_code_36 (by decide) (fun hc_4 => ?_) (fun hc_4 => ?_)
      rotate_left; · exact absurd hc_4 (by decide)
      refine z_aload_n C dX8_code_43 1 rfl ?_
      refine z_get C hinX8 (ci := 10) rfl 0 rfl 3 (by decide) k1 rfl (v := .ref (b 1)) rfl dX8_code_44 ?_
      refine z_iload_n C dX8_code_47 0 rfl ?_
      refine z_iald C 1 1 (g := mC) rfl rfl (by omega) (by omega) (by decide) dX8_code_48 ?_
      refine z_ldc C (z := 65536) k2 dX8_code_49 ?_
      refine z_aload_n C dX8_code_51 1 rfl ?_
      refine z_get C hinX8 (ci := 10) rfl 0 rfl 4 (by decide) k3 rfl (v := .ref (b 2)) rfl dX8_code_52 ?_
      refine z_iload_n C dX8_code_55 0 rfl ?_
      refine z_iald C 2 1 (g := mB) rfl rfl (by omega) (by omega) (by decide) dX8_code_56 ?_
      refine z_imul C dX8_code_57 ?_
      refine z_iadd C dX8_code_58 ?_
      refine z_iret (x := ((mC ((704 * 0) + z : Int).toNat) + (65536 * (mB ((704 * 0) + z : Int).toNat)))) C dX8_code_59 () ?_ ?_ ?_ (by decide) (by decide)
      · rw [ci, if_pos rfl]; subst cd; first | rfl | (simp [b2i])
      · exact trivial
      · rw [ci, if_pos rfl]
    · refine z_iconst C (z := 1) dX8_code_23 ?_
      refine z_goto C (tgt := 28) dX8_code_24 (by decide) ?_
      refine z_imul C dX8_code_28 ?_
      refine z_iload_n C dX8_code_29 2 rfl ?_
      refine z_iadd C dX8_code_30 ?_
      refine z_istore_n C (lv' := [(3, vI ((704 * 1) + z)), (0, .ref (b 0)), (1, vI (b2i d)), (2, vI z)]) dX8_code_31 rfl (by decide) rfl ?_
      refine z_aload_n C dX8_code_32 1 rfl ?_
      refine z_get C hinX8 (ci := 10) rfl 0 rfl 0 (by decide) k0 rfl (v := vI 0) rfl dX8_code_33 ?_
      refine z_if_le C (by decide) (tgt := 43) dX8_code_36 (by decide) (fun hc_5 => ?_) (fun hc_5 => ?_)
      rotate_left; · exact absurd hc_5 (by decide)
      refine z_aload_n C dX8_code_43 1 rfl ?_
      refine z_get C hinX8 (ci := 10) rfl 0 rfl 3 (by decide) k1 rfl (v := .ref (b 1)) rfl dX8_code_44 ?_
      refine z_iload_n C dX8_code_47 0 rfl ?_
      refine z_iald C 1 1 (g := mC) rfl rfl (by omega) (by omega) (by decide) dX8_code_48 ?_
      refine z_ldc C (z := 65536) k2 dX8_code_49 ?_
      refine z_aload_n C dX8_code_51 1 rfl ?_
      refine z_get C hinX8 (ci := 10) rfl 0 rfl 4 (by decide) k3 rfl (v := .ref (b 2)) rfl dX8_code_52 ?_
      refine z_iload_n C dX8_code_55 0 rfl ?_
      refine z_iald C 2 1 (g := mB) rfl rfl (by omega) (by omega) (by decide) dX8_code_56 ?_
      refine z_imul C dX8_code_57 ?_
      refine z_iadd C dX8_code_58 ?_
      refine z_iret (x := ((mC ((704 * 1) + z : Int).toNat) + (65536 * (mB ((704 * 1) + z : Int).toNat)))) C dX8_code_59 () ?_ ?_ ?_ (by decide) (by decide)
      · rw [ci, if_pos rfl]; subst cd; first | rfl | (simp [b2i])
      · exact trivial
      · rw [ci, if_pos rfl]
