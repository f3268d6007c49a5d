set_option maxHeartbeats 400000 in
set_option maxRecDepth 100000 in
theorem c_X8_readX (l : Launch) (D : va_G) (cy : Nat → ClassId) (tw : Nat → Nat) (b : Nat → Nat) (kd : Int) (co : Int) (th : Int) (rw : Int) (cl : Int) (wr : Int) (po : Int) (dm : Int) (sx : Int) (aa : Int) (dk : Bool) (fi : Bool) (bb : Int) (cz : Int) (hm : Bool) (se : Nat → Bool) (da : Nat → Bool) (sa : Nat → Int) (bt : Nat → Int) (oz : Nat → Bool) (z : Int)  (hyz : -2147483648 ≤ z ∧ z ≤ 2147483647) (hno : z < 0 ∨ 24 < z) : zMet l yX8_read wsX8_read { frames := 6, cells := 0, slots := 0, locals := 137 } D (zT cy) tw (MW cy b kd co th rw cl wr po dm sx aa dk fi bb cz hm se da sa bt oz) [.ref (b 0), vI z] 0 0 (S := Unit) (fun _ => some (vI 0)) (fun _ => MW cy b kd co 1 rw cl wr po dm sx aa dk fi bb cz hm se da sa bt oz) (fun _ => True) := by
  refine z_met (cc := cX8_read) (nL := 4) (ret := some .int) (by decide +kernel) rfl (Nat.le_of_ble_eq_true rfl) (lv := [(0, .ref (b 0)), (1, vI z)]) rfl ?_
  intro V p_ e_ s_ m_ args_ below_ meth_ c_ A_ C hmn
  have hinX8 : ∀ w ∈ u_ws RX8 TX8 22, w ∈ wsX8_read := by decide +kernel
  have k0 : Cond.fieldLink RX8 44 "FaxFilterModel" "thrown" "I" ∈ wsX8_read := List.mem_of_getElem? (i := 1) rfl
  refine z_aload_n C dX8_read_0 0 rfl ?_
  refine z_iload_n C dX8_read_1 1 rfl ?_
  refine z_if_lt C (by omega) (tgt := 11) dX8_read_2 (by decide) (fun hc_1 => ?_) (fun hc_1 => ?_)
  · refine z_iconst C (z := 1) dX8_read_11 ?_
    refine z_goto C (tgt := 16) dX8_read_12 (by decide) ?_
    refine z_put C hinX8 tyX8 tyX8_ok nmX8 (ci := 10) rfl 0 rfl 0 (by decide) k0 rfl rfl rfl rfl (Nat.le_of_ble_eq_true rfl) dX8_read_16 (ws' := MW cy b kd co 1 rw cl wr po dm sx aa dk fi bb cz hm se da sa bt oz) rfl ?_
    refine z_aload_n C dX8_read_19 0 rfl ?_
    refine z_get C hinX8 (ci := 10) rfl 0 rfl 0 (by decide) k0 rfl (v := vI 1) rfl dX8_read_20 ?_
    refine z_if_le C (by decide) (tgt := 28) dX8_read_23 (by decide) (fun hc_2 => ?_) (fun hc_2 => ?_)
    · exact absurd hc_2 (by decide)
    refine z_iconst C (z := 0) dX8_read_26 ?_
    refine z_iret (x := 0) C dX8_read_27 () ?_ ?_ ?_ (by decide) (by decide)
    · exact rfl
    · exact trivial
    · exact rfl
  · refine z_iload_n C dX8_read_5 1 rfl ?_
    refine z_bipush C (z := 24) dX8_read_6 (by decide) ?_
    refine z_icmp_le C (by omega) (by decide) (tgt := 15) dX8_read_8 (by decide) (fun hc_3 => ?_) (fun hc_3 => ?_)
    · exfalso; omega
    · refine z_iconst C (z := 1) dX8_read_11 ?_
      refine z_goto C (tgt := 16) dX8_read_12 (by decide) ?_
      refine z_put C hinX8 tyX8 tyX8_ok nmX8 (ci := 10) rfl 0 rfl 0 (by decide) k0 rfl rfl rfl rfl (Nat.le_of_ble_eq_true rfl) dX8_read_16 (ws' := MW cy b kd co 1 rw cl wr po dm sx aa dk fi bb cz hm se da sa bt oz) rfl ?_
      refine z_aload_n C dX8_read_19 0 rfl ?_
      refine z_get C hinX8 (ci := 10) rfl 0 rfl 0 (by decide) k0 rfl (v := vI 1) rfl dX8_read_20 ?_
      refine z_if_le C (by decide) (tgt := 28) dX8_read_23 (by decide) (fun hc_4 => ?_) (fun hc_4 => ?_)
      · exact absurd hc_4 (by decide)
      refine z_iconst C (z := 0) dX8_read_26 ?_
      refine z_iret (x := 0) C dX8_read_27 () ?_ ?_ ?_ (by decide) (by decide)
      · exact rfl
      · exact trivial
      · exact rfl
set_option maxHeartbeats 400000 in
set_option maxRecDepth 100000 in
theorem c_X8_codeF (l : Launch) (D : va_G) (cy : Nat → ClassId) (tw : Nat → Nat) (b : Nat → Nat) (kd : Int) (co : Int) (th : Int) (rw : Int) (cl : Int) (wr : Int) (po : Int) (dm : Int) (sx : Int) (aa : Int) (dk : Bool) (fi : Bool) (bb : Int) (cz : Int) (hm : Bool) (se : Nat → Bool) (da : Nat → Bool) (sa : Nat → Int) (bt : Nat → Int) (oz : Nat → Bool) (d : Bool) (z : Int)  (hyz : -2147483648 ≤ z ∧ z ≤ 2147483647) : zMet l yX8_code wsX8_code { frames := 1, cells := 0, slots := 0, locals := 20 } D (zT cy) tw (MW cy b kd co th rw cl wr po dm sx aa dk fi bb cz hm se da sa bt oz) [.ref (b 0), vI (b2i d), vI z] 0 0 (S := Unit) (fun _ => some (vI (if isR z = true then mC (704 * b2i d + z).toNat + 65536 * mB (704 * b2i d + z).toNat else 0))) (fun _ => MW cy b kd co (if isR z = true then 0 else 1) rw cl wr po dm sx aa dk fi bb cz hm se da sa bt oz) (fun _ => True) := by
  refine z_met (cc := cX8_code) (nL := 4) (ret := some .int) (by decide +kernel) rfl (Nat.le_of_ble_eq_true rfl) (lv := [(0, .ref (b 0)), (1, vI (b2i d)), (2, vI z)]) rfl ?_
  intro V p_ e_ s_ m_ args_ below_ meth_ c_ A_ C hmn
  have hinX8 : ∀ w ∈ u_ws RX8 TX8 22, w ∈ wsX8_code := by decide +kernel
  have k0 : Cond.fieldLink RX8 44 "FaxFilterModel" "thrown" "I" ∈ wsX8_code := List.mem_of_getElem? (i := 1) rfl
  have k1 : Cond.fieldLink RX8 7 "FaxFilterModel" "code" "[I" ∈ wsX8_code := List.mem_of_getElem? (i := 2) rfl
  have k2 : Cond.constant RX8 59 (65536) ∈ wsX8_code := List.mem_of_getElem? (i := 3) rfl
  have k3 : Cond.fieldLink RX8 13 "FaxFilterModel" "bits" "[I" ∈ wsX8_code := List.mem_of_getElem? (i := 4) rfl
  refine z_aload_n C dX8_code_0 0 rfl ?_
  refine z_iload_n C dX8_code_1 2 rfl ?_
  refine z_callS C (As := [vI z]) (st := [.ref (b 0)]) (c_X8_isRunG l D cy tw b (MW cy b kd co th rw cl wr po dm sx aa dk fi bb cz hm se da sa bt oz) z  (by omega)) gX8_code_X8_isRun kn_X8_isRun ⟨rfl, rfl, Nat.le_of_ble_eq_true rfl, Nat.le_of_ble_eq_true rfl⟩ rfl (Nat.le_of_ble_eq_true rfl) ⟨Nat.le_of_ble_eq_true rfl, Nat.le_of_ble_eq_true rfl⟩ dX8_code_2 (fun u1 hu1 => ?_)
  clear hu1; clear u1
  show V 0 0 (MW cy b kd co th rw cl wr po dm sx aa dk fi bb cz hm se da sa bt oz) [(0, .ref (b 0)), (1, vI (b2i d)), (2, vI z)] [vI (b2i (isR z)), .ref (b 0)] 5
  refine z_ifz C (tgt := 12) dX8_code_5 (by decide) (fun ci => ?_) (fun ci => ?_)
  · refine z_iconst C (z := 1) dX8_code_12 ?_
    refine z_put C hinX8 tyX8 tyX8_ok nmX8 (ci := 10) rfl 0 rfl 0 (by decide) k0 rfl rfl rfl rfl (Nat.le_of_ble_eq_true rfl) dX8_code_13 (ws' := MW cy b kd co 1 rw cl wr po dm sx aa dk fi bb cz hm se da sa bt oz) rfl ?_
    refine z_sipush C (z := 704) dX8_code_16 (by decide) ?_
    refine z_iload_n C dX8_code_19 1 rfl ?_
    refine z_ifz C (tgt := 27) dX8_code_20 (by decide) (fun cd => ?_) (fun cd => ?_)
    · refine z_iconst C (z := 0) dX8_code_27 ?_
      refine z_imul C dX8_code_28 ?_
      refine z_iload_n C dX8_code_29 2 rfl ?_
      refine z_iadd C dX8_code_30 ?_
      refine z_istore_n C (lv' := [(3, vI ((704 * 0) + z)), (0, .ref (b 0)), (1, vI (b2i d)), (2, vI z)]) dX8_code_31 rfl (by decide) rfl ?_
      refine z_aload_n C dX8_code_32 1 rfl ?_
      refine z_get C hinX8 (ci := 10) rfl 0 rfl 0 (by decide) k0 rfl (v := vI 1) rfl dX8_code_33 ?_
      refine z_if_le C (by decide) (tgt := 43) dX8_code_36 (by decide) (fun hc_2 => ?_) (fun hc_2 => ?_)
      · exact absurd hc_2 (by decide)
      refine z_iconst C (z := 0) dX8_code_39 ?_
      refine z_goto C (tgt := 59) dX8_code_40 (by decide) ?_
      refine z_iret (x := 0) C dX8_code_59 () ?_ ?_ ?_ (by decide) (by decide)
      · rw [ci, if_neg (by decide)]
      · exact trivial
      · rw [ci, if_neg (by decide)]
    · refine z_iconst C (z := 1) dX8_code_23 ?_
      refine z_goto C (tgt := 28) dX8_code_24 (by decide) ?_
      refine z_imul C dX8_code_28 ?_
      refine z_iload_n C dX8_code_29 2 rfl ?_
      refine z_iadd C dX8_code_30 ?_
      refine z_istore_n C (lv' := [(3, vI ((704 * 1) + z)), (0, .ref (b 0)), (1, vI (b2i d)), (2, vI z)]) dX8_code_31 rfl (by decide) rfl ?_
      refine z_aload_n C dX8_code_32 1 rfl ?_
      refine z_get C hinX8 (ci := 10) rfl 0 rfl 0 (by decide) k0 rfl (v := vI 1) rfl dX8_code_33 ?_
      refine z_if_le C (by decide) (tgt := 43) dX8_code_36 (by decide) (fun hc_3 => ?_) (fun hc_3 => ?_)
      · exact absurd hc_3 (by decide)
      refine z_iconst C (z := 0) dX8_code_39 ?_
      refine z_goto C (tgt := 59) dX8_code_40 (by decide) ?_
      refine z_iret (x := 0) C dX8_code_59 () ?_ ?_ ?_ (by decide) (by decide)
      · rw [ci, if_neg (by decide)]
      · exact trivial
      · rw [ci, if_neg (by decide)]
  · have hi := isR_rg ci
    refine z_iconst C (z := 0) dX8_code_8 ?_
    refine z_goto C (tgt := 13) dX8_code_9 (by decide) ?_
    refine z_put C hinX8 tyX8 tyX8_ok nmX8 (ci := 10) rfl 0 rfl 0 (by decide) k0 rfl rfl rfl rfl (Nat.le_of_ble_eq_true rfl) dX8_code_13 (ws' := MW cy b kd co 0 rw cl wr po dm sx aa dk fi bb cz hm se da sa bt oz) rfl ?_
    refine z_sipush C (z := 704) dX8_code_16 (by decide) ?_
    refine z_iload_n C dX8_code_19 1 rfl ?_
    refine z_ifz C (tgt := 27) dX8_code_20 (by decide) (fun cd => ?_) (fun cd => ?_)
    · refine z_iconst C (z := 0) dX8_code_27 ?_
      refine z_imul C dX8_code_28 ?_
      refine z_iload_n C dX8_code_29 2 rfl ?_
      refine z_iadd C dX8_code_30 ?_
      refine z_istore_n C (lv' := [(3, vI ((704 * 0) + z)), (0, .ref (b 0)), (1, vI (b2i d)), (2, vI z)]) dX8_code_31 rfl (by decide) rfl ?_
      refine z_aload_n C dX8_code_32 1 rfl ?_
      refine z_get C hinX8 (ci := 10) rfl 0 rfl 0 (by decide) k0 rfl (v := vI 0) rfl dX8_code_33 ?_
      refine z_if_le C (by decide) (tgt := 43) dX8_code_36 (by decide) (fun hc_4 => ?_) (fun hc_4 => ?_)
      rotate_left; · exact absurd hc_4 (by decide)
      refine z_aload_n C dX8_code_43 1 rfl ?_
      refine z_get C hinX8 (ci := 10) rfl 0 rfl 3 (by decide) k1 rfl (v := .ref (b 1)) rfl dX8_code_44 ?_
      refine z_iload_n C dX8_code_47 0 rfl ?_
      refine z_iald C 1 1 (g := mC) rfl rfl (by omega) (by omega) (by decide) dX8_code_48 ?_
      refine z_ldc C (z := 65536) k2 dX8_code_49 ?_
      refine z_aload_n C dX8_code_51 1 rfl ?_
      refine z_get C hinX8 (ci := 10) rfl 0 rfl 4 (by decide) k3 rfl (v := .ref (b 2)) rfl dX8_code_52 ?_
      refine z_iload_n C dX8_code_55 0 rfl ?_
      refine z_iald C 2 1 (g := mB) rfl rfl (by omega) (by omega) (by decide) dX8_code_56 ?_
      refine z_imul C dX8_code_57 ?_
      refine z_iadd C dX8_code_58 ?_
      refine z_iret (x := ((mC ((704 * 0) + z : Int).toNat) + (65536 * (mB ((704 * 0) + z : Int).toNat)))) C dX8_code_59 () ?_ ?_ ?_ (by decide) (by decide)
      · rw [ci, if_pos rfl]; subst cd; first | rfl | (simp [b2i])
      · exact trivial
      · rw [ci, if_pos rfl]
    · refine z_iconst C (z := 1) dX8_code_23 ?_
      refine z_goto C (tgt := 28) dX8_code_24 (by decide) ?_
      refine z_imul C dX8_code_28 ?_
      refine z_iload_n C dX8_code_29 2 rfl ?_
      refine z_iadd C dX8_code_30 ?_
      refine z_istore_n C (lv' := [(3, vI ((704 * 1) + z)), (0, .ref (b 0)), (1, vI (b2i d)), (2, vI z)]) dX8_code_31 rfl (by decide) rfl ?_
      refine z_aload_n C dX8_code_32 1 rfl ?_
      refine z_get C hinX8 (ci := 10) rfl 0 rfl 0 (by decide) k0 rfl (v := vI 0) rfl dX8_code_33 ?_
      refine z_if_le C (by decide) (tgt := 43) dX8_code_36 (by decide) (fun hc_5 => ?_) (fun hc_5 => ?_)
      rotate_left; · exact absurd hc_5 (by decide)
      refine z_aload_n C dX8_code_43 1 rfl ?_
      refine z_get C hinX8 (ci := 10) rfl 0 rfl 3 (by decide) k1 rfl (v := .ref (b 1)) rfl dX8_code_44 ?_
      refine z_iload_n C dX8_code_47 0 rfl ?_
      refine z_iald C 1 1 (g := mC) rfl rfl (by omega) (by omega) (by decide) dX8_code_48 ?_
      refine z_ldc C (z := 65536) k2 dX8_code_49 ?_
      refine z_aload_n C dX8_code_51 1 rfl ?_
      refine z_get C hinX8 (ci := 10) rfl 0 rfl 4 (by decide) k3 rfl (v := .ref (b 2)) rfl dX8_code_52 ?_
      refine z_iload_n C dX8_code_55 0 rfl ?_
      refine z_iald C 2 1 (g := mB) rfl rfl (by omega) (by omega) (by decide) dX8_code_56 ?_
      refine z_imul C dX8_code_57 ?_
      refine z_iadd C dX8_code_58 ?_
      refine z_iret (x := ((mC ((704 * 1) + z : Int).toNat) + (65536 * (mB ((704 * 1) + z : Int).toNat)))) C dX8_code_59 () ?_ ?_ ?_ (by decide) (by decide)
      · rw [ci, if_pos rfl]; subst cd; first | rfl | (simp [b2i])
      · exact trivial
      · rw [ci, if_pos rfl]
set_option maxHeartbeats 400000 in
set_option maxRecDepth 100000 in
theorem c_X7_takeW (l : Launch) (D : va_G) (cy : Nat → ClassId) (tw : Nat → Nat) (a : Nat → Nat) (kd : Int) (co : Int) (mk : Bool) (al : Bool) (dz : Bool) (rd : Bool) (rw : Int) (wo : Nat → BitVec 64) (sa : Nat → Int) (sz : Int) (ps : Int) (bt : Nat → Int) (ou : Nat → BitVec 64) (bi : Int) (dm : Int) (pl : Bool) (re : Int) (cu : Bool)   (hco : 1 ≤ co ∧ co ≤ 700) (hbi : 0 ≤ bi ∧ bi ≤ 200000) : zMet l yX7_take wsX7_take { frames := 1, cells := 0, slots := 0, locals := 22 } D (zT cy) tw (CW cy a kd co mk al dz rd rw wo sa sz ps bt ou bi dm pl re cu) [.ref (a 0)] 0 0 (S := Unit) (fun _ => some (vI (mn 400 ((bi + 7) / 8)))) (fun _ => CW cy a kd co mk al dz rd rw wo sa (mn 400 ((bi + 7) / 8)) ps (apF bt 0 (fun i => obC ou co (i : Nat)) (mn 400 ((bi + 7) / 8)).toNat) ou bi dm pl re cu) (fun _ => True) := by
  refine z_met (cc := cX7_take) (nL := 3) (ret := some .int) (by decide +kernel) rfl (Nat.le_of_ble_eq_true rfl) (lv := [(0, .ref (a 0))]) rfl ?_
  intro V p_ e_ s_ m_ args_ below_ meth_ c_ A_ C hmn
  have hinX7 : ∀ w ∈ u_ws RX7 TX7 8, w ∈ wsX7_take := by decide +kernel
  have k0 : Cond.fieldLink RX7 67 "FaxFilter" "written" "LFaxFilter$BitsOut;" ∈ wsX7_take := List.mem_of_getElem? (i := 1) rfl
  have k1 : Cond.methodLink RX7 11 Lib.Math.min.name ∈ wsX7_take := List.mem_of_getElem? (i := 2) rfl
  have k2 : Cond.static Lib.Math.min.name ∈ wsX7_take := List.mem_of_getElem? (i := 3) rfl
  have k3 : Cond.initialized "java/lang/Math" ∈ wsX7_take := List.mem_of_getElem? (i := 4) rfl
  have k4 : Cond.code Lib.Math.min.name Lib.Math.min.code 2 (some .int) ∈ wsX7_take := List.mem_of_getElem? (i := 5) rfl
  have k5 : Cond.fieldLink RX7 56 "FaxFilter" "collected" "LFaxFilter$BitsIn;" ∈ wsX7_take := List.mem_of_getElem? (i := 6) rfl
  have hm := mn_rg (a := 400) (b := (bi + 7) / 8) (x := 0) (by omega) (by omega)
  have hm4 : mn 400 ((bi + 7) / 8) ≤ 400 := by unfold mn; split <;> omega
  have hmc : mn 400 ((bi + 7) / 8) = (if (bi + 7) / 8 < 400 then (bi + 7) / 8 else 400) := rfl
  refine z_sipush C (z := 400) dX7_take_0 (by decide) ?_
  refine z_aload_n C dX7_take_3 0 rfl ?_
  refine z_get C hinX7 (ci := 9) rfl 0 rfl 5 (by decide) k0 rfl (v := .ref (a 6)) rfl dX7_take_4 ?_
  refine z_callV C (As := []) (st := [vI 400]) (c_X1_size l D cy tw a kd co mk al dz rd rw wo sa sz ps bt ou bi dm pl re cu   (by omega)) gX7_take_X1_size kn_X1_size rfl ⟨rfl, rfl, Nat.le_of_ble_eq_true rfl, Nat.le_of_ble_eq_true rfl⟩ 6 rfl (ci := 3) rfl rfl (Nat.le_of_ble_eq_true rfl) ⟨Nat.le_of_ble_eq_true rfl, Nat.le_of_ble_eq_true rfl⟩ dX7_take_7 (fun u1 hu1 => ?_)
  clear hu1; clear u1
  show V 0 0 (CW cy a kd co mk al dz rd rw wo sa sz ps bt ou bi dm pl re cu) [(0, .ref (a 0))] [vI ((bi + 7) / 8), vI 400] 10
  refine z_mmin C k1 k2 k3 k4 (Nat.le_of_ble_eq_true rfl) (Nat.le_of_ble_eq_true rfl) (Nat.le_of_ble_eq_true rfl) (Nat.le_of_ble_eq_true rfl) (x := 400) (y := ((bi + 7) / 8)) (by decide) (by omega) dX7_take_10 ?_
  refine z_istore_n C (lv' := [(1, vI (if (bi + 7) / 8 < 400 then (bi + 7) / 8 else 400)), (0, .ref (a 0))]) dX7_take_13 rfl (by decide) rfl ?_
  refine z_aload_n C dX7_take_14 1 rfl ?_
  refine z_get C hinX7 (ci := 9) rfl 0 rfl 4 (by decide) k5 rfl (v := .ref (a 5)) rfl dX7_take_15 ?_
  refine z_callV C (As := []) (st := []) (c_X0_empty l D cy tw a kd co mk al dz rd rw wo sa sz ps bt ou bi dm pl re cu   ) gX7_take_X0_empty kn_X0_empty rfl ⟨rfl, rfl, Nat.le_of_ble_eq_true rfl, Nat.le_of_ble_eq_true rfl⟩ 5 rfl (ci := 2) rfl rfl (Nat.le_of_ble_eq_true rfl) ⟨Nat.le_of_ble_eq_true rfl, Nat.le_of_ble_eq_true rfl⟩ dX7_take_18 (fun u2 hu2 => ?_)
  clear hu2; clear u2
  show V 0 0 (CW cy a kd co mk al dz rd rw wo sa 0 ps bt ou bi dm pl re cu) [(1, vI (if (bi + 7) / 8 < 400 then (bi + 7) / 8 else 400)), (0, .ref (a 0))] [] 21
  refine z_iconst C (z := 0) dX7_take_21 ?_
  refine z_istore_n C (lv' := [(2, vI 0), (1, vI (if (bi + 7) / 8 < 400 then (bi + 7) / 8 else 400)), (0, .ref (a 0))]) dX7_take_22 rfl (by decide) rfl ?_
  have J23 : ∀ (f : Nat) (i : Int) (b2 : Nat → Int), (0 ≤ i ∧ i ≤ mn 400 ((bi + 7) / 8)) → (b2 = apF bt 0 (fun i => obC ou co (i : Nat)) i.toNat) → (mn 400 ((bi + 7) / 8) - i).toNat < f → V 0 0 (CW cy a kd co mk al dz rd rw wo sa i ps b2 ou bi dm pl re cu) [(0, .ref (a 0)), (1, vI (if (bi + 7) / 8 < 400 then (bi + 7) / 8 else 400)), (2, vI i)] [] 23 := by
    intro f
    induction f with
    | zero => intro i b2 i0 i1 hf; exact absurd hf (Nat.not_lt_zero _)
    | succ f ih =>
      intro i b2 i0 i1 hf
      refine z_iload_n C dX7_take_23 2 rfl ?_
      refine z_iload_n C dX7_take_24 1 rfl ?_
      refine z_icmp_ge C (by omega) (by omega) (tgt := 49) dX7_take_25 (by decide) (fun hc_3 => ?_) (fun hc_3 => ?_)
      · refine z_iload_n C dX7_take_49 1 rfl ?_
        refine z_iret (x := (if (bi + 7) / 8 < 400 then (bi + 7) / 8 else 400)) C dX7_take_50 () ?_ ?_ ?_ (by decide) (by decide)
        · exact rfl
        · exact trivial
        · rw [i1, show i = mn 400 ((bi + 7) / 8) by omega]
      · refine z_aload_n C dX7_take_28 0 rfl ?_
        refine z_get C hinX7 (ci := 9) rfl 0 rfl 4 (by decide) k5 rfl (v := .ref (a 5)) rfl dX7_take_29 ?_
        refine z_aload_n C dX7_take_32 0 rfl ?_
        refine z_get C hinX7 (ci := 9) rfl 0 rfl 5 (by decide) k0 rfl (v := .ref (a 6)) rfl dX7_take_33 ?_
        refine z_iload_n C dX7_take_36 2 rfl ?_
        refine z_callV C (As := [vI i]) (st := [.ref (a 5)]) (c_X1_byteAt l D cy tw a kd co mk al dz rd rw wo sa i ps b2 ou bi dm pl re cu i  (by omega) (by omega)) gX7_take_X1_byteAt kn_X1_byteAt rfl ⟨rfl, rfl, Nat.le_of_ble_eq_true rfl, Nat.le_of_ble_eq_true rfl⟩ 6 rfl (ci := 3) rfl rfl (Nat.le_of_ble_eq_true rfl) ⟨Nat.le_of_ble_eq_true rfl, Nat.le_of_ble_eq_true rfl⟩ dX7_take_37 (fun u4 hu4 => ?_)
        clear hu4; clear u4
        show V 0 0 (CW cy a kd co mk al dz rd rw wo sa i ps b2 ou bi dm pl re cu) [(0, .ref (a 0)), (1, vI (if (bi + 7) / 8 < 400 then (bi + 7) / 8 else 400)), (2, vI i)] [vI (obC ou co i), .ref (a 5)] 40
        refine z_callV C (As := [vI (obC ou co i)]) (st := []) (c_X0_append l D cy tw a kd co mk al dz rd rw wo sa i ps b2 ou bi dm pl re cu (obC ou co i)  (by omega)) gX7_take_X0_append kn_X0_append rfl ⟨rfl, rfl, Nat.le_of_ble_eq_true rfl, Nat.le_of_ble_eq_true rfl⟩ 5 rfl (ci := 2) rfl rfl (Nat.le_of_ble_eq_true rfl) ⟨Nat.le_of_ble_eq_true rfl, Nat.le_of_ble_eq_true rfl⟩ dX7_take_40 (fun u5 hu5 => ?_)
        clear hu5; clear u5
        show V 0 0 (CW cy a kd co mk al dz rd rw wo sa (i + 1) ps (va_up b2 (i : Int).toNat (sb (obC ou co i))) ou bi dm pl re cu) [(0, .ref (a 0)), (1, vI (if (bi + 7) / 8 < 400 then (bi + 7) / 8 else 400)), (2, vI i)] [] 43
        refine z_iinc C (lv' := [(2, vI (i + 1)), (0, .ref (a 0)), (1, vI (if (bi + 7) / 8 < 400 then (bi + 7) / 8 else 400))]) dX7_take_43 2 rfl (by decide) rfl ?_
        refine z_goto C (tgt := 23) dX7_take_46 (by decide) ?_
        refine z_lsub C [1, 2, 0] rfl ?_
        exact ih (i + 1) (va_up b2 (i : Int).toNat (sb (obC ou co i))) (by omega) (by rw [show (i + 1).toNat = i.toNat + 1 by omega, apF, ← i1, show (0 + ((i.toNat : Nat) : Int)).toNat = (i : Int).toNat by omega, show ((i.toNat : Nat) : Int) = i by omega]) (by omega)
  refine z_lsub C [2, 1, 0] rfl ?_
  exact J23 _ 0 bt (by omega) (rfl) (Nat.lt_succ_self _)
