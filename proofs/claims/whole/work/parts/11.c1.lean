def hasMk (kd : Int) (mk : Bool) : Bool := decide (kd = 1) || (decide (kd = 0) && mk)
theorem kn_X5_hasMarks : zKn yX5_hasMarks wsX5_hasMarks cX5_hasMarks 1 (some .boolean) 0 := ⟨⟨_, rfl⟩, by decide +kernel, by decide +kernel, by decide +kernel⟩
set_option maxHeartbeats 400000 in
set_option maxRecDepth 100000 in
theorem c_X5_hasMarks (l : Launch) (D : va_G) (cy : Nat → ClassId) (tw : Nat → Nat) (a : Nat → Nat) (kd : Int) (co : Int) (mk : Bool) (al : Bool) (dz : Bool) (rd : Bool) (rw : Int) (wo : Nat → BitVec 64) (sa : Nat → Int) (sz : Int) (ps : Int) (bt : Nat → Int) (ou : Nat → BitVec 64) (bi : Int) (dm : Int) (pl : Bool) (re : Int) (cu : Bool)   (hk : 0 ≤ kd ∧ kd ≤ 2) : zMet l yX5_hasMarks wsX5_hasMarks { frames := 0, cells := 0, slots := 0, locals := 0 } D (zT cy) tw (CW cy a kd co mk al dz rd rw wo sa sz ps bt ou bi dm pl re cu) [.ref (a 1)] 0 0 (S := Unit) (fun _ => some (vI (b2i (hasMk kd mk)))) (fun _ => CW cy a kd co mk al dz rd rw wo sa sz ps bt ou bi dm pl re cu) (fun _ => True) := by
  refine z_met (cc := cX5_hasMarks) (nL := 1) (ret := some .boolean) (by decide +kernel) rfl (Nat.le_of_ble_eq_true rfl) (lv := [(0, .ref (a 1))]) rfl ?_
  intro V p_ e_ s_ m_ args_ below_ meth_ c_ A_ C hmn
  have hinX5 : ∀ w ∈ u_ws RX5 TX5 5, w ∈ wsX5_hasMarks := by decide +kernel
  have k0 : Cond.fieldLink RX5 9 "FaxFilter$Settings" "kind" "I" ∈ wsX5_hasMarks := List.mem_of_getElem? (i := 1) rfl
  have k1 : Cond.fieldLink RX5 15 "FaxFilter$Settings" "marks" "Z" ∈ wsX5_hasMarks := List.mem_of_getElem? (i := 2) rfl
  refine z_aload_n C dX5_hasMarks_0 0 rfl ?_
  refine z_get C hinX5 (ci := 7) rfl 1 rfl 0 (by decide) k0 rfl (v := vI kd) rfl dX5_hasMarks_1 ?_
  refine z_iconst C (z := 1) dX5_hasMarks_4 ?_
  refine z_icmp_eq C (by omega) (by decide) (tgt := 22) dX5_hasMarks_5 (by decide) (fun hc_1 => ?_) (fun hc_1 => ?_)
  · refine z_iconst C (z := 1) dX5_hasMarks_22 ?_
    refine z_goto C (tgt := 27) dX5_hasMarks_23 (by decide) ?_
    refine z_zret (b := true) C dX5_hasMarks_27 () ?_ ?_ ?_ (by decide) (by decide)
    · simp_all [hasMk, b2i]
    · exact trivial
    · exact rfl
  · refine z_aload_n C dX5_hasMarks_8 0 rfl ?_
    refine z_get C hinX5 (ci := 7) rfl 1 rfl 0 (by decide) k0 rfl (v := vI kd) rfl dX5_hasMarks_9 ?_
    refine z_if_ne C (by omega) (tgt := 26) dX5_hasMarks_12 (by decide) (fun hc_2 => ?_) (fun hc_2 => ?_)
    · refine z_iconst C (z := 0) dX5_hasMarks_26 ?_
      refine z_zret (b := false) C dX5_hasMarks_27 () ?_ ?_ ?_ (by decide) (by decide)
      · simp_all [hasMk, b2i]
      · exact trivial
      · exact rfl
    · refine z_aload_n C dX5_hasMarks_15 0 rfl ?_
      refine z_get C hinX5 (ci := 7) rfl 1 rfl 1 (by decide) k1 rfl (v := vI (b2i mk)) rfl dX5_hasMarks_16 ?_
      refine z_ifz C (tgt := 26) dX5_hasMarks_19 (by decide) (fun hc_3 => ?_) (fun hc_3 => ?_)
      · refine z_iconst C (z := 0) dX5_hasMarks_26 ?_
        refine z_zret (b := false) C dX5_hasMarks_27 () ?_ ?_ ?_ (by decide) (by decide)
        · simp_all [hasMk, b2i]
        · exact trivial
        · exact rfl
      · refine z_iconst C (z := 1) dX5_hasMarks_22 ?_
        refine z_goto C (tgt := 27) dX5_hasMarks_23 (by decide) ?_
        refine z_zret (b := true) C dX5_hasMarks_27 () ?_ ?_ ?_ (by decide) (by decide)
        · simp_all [hasMk, b2i]
        · exact trivial
        · exact rfl
def byC (bt : Nat → Int) (sz i : Int) : Int := if 0 ≤ i ∧ i < sz then bt i.toNat % 256 else 0
def bitC (bt : Nat → Int) (sz i : Int) : Int := byC bt sz (i / 8) / 2 ^ (7 - i % 8).toNat % 2 ^ 1
theorem sb_mod8 (z : Int) : sb z % 2 ^ 8 = z % 256 := sb_mod z
theorem sb_bit (z : Int) {k : Nat} (h : k ≤ 7) : sb z / 2 ^ k % 2 ^ 1 = z % 256 / 2 ^ k % 2 ^ 1 := by
  unfold sb
  rcases (by omega : k = 0 ∨ k = 1 ∨ k = 2 ∨ k = 3 ∨ k = 4 ∨ k = 5 ∨ k = 6 ∨ k = 7) with rfl | rfl | rfl | rfl | rfl | rfl | rfl | rfl <;> omega
theorem byC_rg (bt : Nat → Int) (sz i : Int) : 0 ≤ byC bt sz i ∧ byC bt sz i < 256 := by unfold byC; split <;> omega
theorem kn_X0_empty : zKn yX0_empty wsX0_empty cX0_empty 1 (none) 0 := ⟨⟨_, rfl⟩, by decide +kernel, by decide +kernel, by decide +kernel⟩
set_option maxHeartbeats 400000 in
set_option maxRecDepth 100000 in
theorem c_X0_empty (l : Launch) (D : va_G) (cy : Nat → ClassId) (tw : Nat → Nat) (a : Nat → Nat) (kd : Int) (co : Int) (mk : Bool) (al : Bool) (dz : Bool) (rd : Bool) (rw : Int) (wo : Nat → BitVec 64) (sa : Nat → Int) (sz : Int) (ps : Int) (bt : Nat → Int) (ou : Nat → BitVec 64) (bi : Int) (dm : Int) (pl : Bool) (re : Int) (cu : Bool)    : zMet l yX0_empty wsX0_empty { frames := 0, cells := 0, slots := 0, locals := 0 } D (zT cy) tw (CW cy a kd co mk al dz rd rw wo sa sz ps bt ou bi dm pl re cu) [.ref (a 5)] 0 0 (S := Unit) (fun _ => none) (fun _ => CW cy a kd co mk al dz rd rw wo sa 0 ps bt ou bi dm pl re cu) (fun _ => True) := by
  refine z_met (cc := cX0_empty) (nL := 1) (ret := none) (by decide +kernel) rfl (Nat.le_of_ble_eq_true rfl) (lv := [(0, .ref (a 5))]) rfl ?_
  intro V p_ e_ s_ m_ args_ below_ meth_ c_ A_ C hmn
  have hinX0 : ∀ w ∈ u_ws RX0 TX0 3, w ∈ wsX0_empty := by decide +kernel
  have k0 : Cond.fieldLink RX0 15 "FaxFilter$BitsIn" "size" "I" ∈ wsX0_empty := List.mem_of_getElem? (i := 1) rfl
  refine z_aload_n C dX0_empty_0 0 rfl ?_
  refine z_iconst C (z := 0) dX0_empty_1 ?_
  refine z_put C hinX0 tyX0 tyX0_ok nmX0 (ci := 2) rfl 5 rfl 0 (by decide) k0 rfl rfl rfl rfl (Nat.le_of_ble_eq_true rfl) dX0_empty_2 (ws' := CW cy a kd co mk al dz rd rw wo sa 0 ps bt ou bi dm pl re cu) rfl ?_
  refine z_vret C dX0_empty_5 () ?_ ?_ ?_ (by decide) (by decide)
  · exact rfl
  · exact trivial
  · exact rfl
theorem kn_X0_restart : zKn yX0_restart wsX0_restart cX0_restart 1 (none) 0 := ⟨⟨_, rfl⟩, by decide +kernel, by decide +kernel, by decide +kernel⟩
set_option maxHeartbeats 400000 in
set_option maxRecDepth 100000 in
theorem c_X0_restart (l : Launch) (D : va_G) (cy : Nat → ClassId) (tw : Nat → Nat) (a : Nat → Nat) (kd : Int) (co : Int) (mk : Bool) (al : Bool) (dz : Bool) (rd : Bool) (rw : Int) (wo : Nat → BitVec 64) (sa : Nat → Int) (sz : Int) (ps : Int) (bt : Nat → Int) (ou : Nat → BitVec 64) (bi : Int) (dm : Int) (pl : Bool) (re : Int) (cu : Bool)    : zMet l yX0_restart wsX0_restart { frames := 0, cells := 0, slots := 0, locals := 0 } D (zT cy) tw (CW cy a kd co mk al dz rd rw wo sa sz ps bt ou bi dm pl re cu) [.ref (a 5)] 0 0 (S := Unit) (fun _ => none) (fun _ => CW cy a kd co mk al dz rd rw wo sa sz 0 bt ou bi dm pl re cu) (fun _ => True) := by
  refine z_met (cc := cX0_restart) (nL := 1) (ret := none) (by decide +kernel) rfl (Nat.le_of_ble_eq_true rfl) (lv := [(0, .ref (a 5))]) rfl ?_
  intro V p_ e_ s_ m_ args_ below_ meth_ c_ A_ C hmn
  have hinX0 : ∀ w ∈ u_ws RX0 TX0 3, w ∈ wsX0_restart := by decide +kernel
  have k0 : Cond.fieldLink RX0 19 "FaxFilter$BitsIn" "passed" "I" ∈ wsX0_restart := List.mem_of_getElem? (i := 1) rfl
  refine z_aload_n C dX0_restart_0 0 rfl ?_
  refine z_iconst C (z := 0) dX0_restart_1 ?_
  refine z_put C hinX0 tyX0 tyX0_ok nmX0 (ci := 2) rfl 5 rfl 1 (by decide) k0 rfl rfl rfl rfl (Nat.le_of_ble_eq_true rfl) dX0_restart_2 (ws' := CW cy a kd co mk al dz rd rw wo sa sz 0 bt ou bi dm pl re cu) rfl ?_
  refine z_vret C dX0_restart_5 () ?_ ?_ ?_ (by decide) (by decide)
  · exact rfl
  · exact trivial
  · exact rfl
theorem kn_X0_append : zKn yX0_append wsX0_append cX0_append 2 (none) 1 := ⟨⟨_, rfl⟩, by decide +kernel, by decide +kernel, by decide +kernel⟩
set_option maxHeartbeats 400000 in
set_option maxRecDepth 100000 in
theorem c_X0_append (l : Launch) (D : va_G) (cy : Nat → ClassId) (tw : Nat → Nat) (a : Nat → Nat) (kd : Int) (co : Int) (mk : Bool) (al : Bool) (dz : Bool) (rd : Bool) (rw : Int) (wo : Nat → BitVec 64) (sa : Nat → Int) (sz : Int) (ps : Int) (bt : Nat → Int) (ou : Nat → BitVec 64) (bi : Int) (dm : Int) (pl : Bool) (re : Int) (cu : Bool) (oc : Int)  (h0 : 0 ≤ sz ∧ sz < 400) : zMet l yX0_append wsX0_append { frames := 0, cells := 0, slots := 0, locals := 0 } D (zT cy) tw (CW cy a kd co mk al dz rd rw wo sa sz ps bt ou bi dm pl re cu) [.ref (a 5), vI oc] 0 0 (S := Unit) (fun _ => none) (fun _ => CW cy a kd co mk al dz rd rw wo sa (sz + 1) ps (va_up bt (sz : Int).toNat (sb oc)) ou bi dm pl re cu) (fun _ => True) := by
  refine z_met (cc := cX0_append) (nL := 2) (ret := none) (by decide +kernel) rfl (Nat.le_of_ble_eq_true rfl) (lv := [(0, .ref (a 5)), (1, vI oc)]) rfl ?_
  intro V p_ e_ s_ m_ args_ below_ meth_ c_ A_ C hmn
  have hinX0 : ∀ w ∈ u_ws RX0 TX0 3, w ∈ wsX0_append := by decide +kernel
  have k0 : Cond.fieldLink RX0 15 "FaxFilter$BitsIn" "size" "I" ∈ wsX0_append := List.mem_of_getElem? (i := 1) rfl
  have k1 : Cond.fieldLink RX0 9 "FaxFilter$BitsIn" "bytes" "[B" ∈ wsX0_append := List.mem_of_getElem? (i := 2) rfl
  refine z_aload_n C dX0_append_0 0 rfl ?_
  refine z_get C hinX0 (ci := 2) rfl 5 rfl 0 (by decide) k0 rfl (v := vI sz) rfl dX0_append_1 ?_
  refine z_if_lt C (by omega) (tgt := 40) dX0_append_4 (by decide) (fun hc_1 => ?_) (fun hc_1 => ?_)
  · exfalso; omega
  · refine z_aload_n C dX0_append_7 0 rfl ?_
    refine z_get C hinX0 (ci := 2) rfl 5 rfl 0 (by decide) k0 rfl (v := vI sz) rfl dX0_append_8 ?_
    refine z_aload_n C dX0_append_11 0 rfl ?_
    refine z_get C hinX0 (ci := 2) rfl 5 rfl 2 (by decide) k1 rfl (v := .ref (a 19)) rfl dX0_append_12 ?_
    refine z_alen C 19 0 rfl rfl (N := 400) rfl dX0_append_15 ?_
    refine z_icmp_ge C (by omega) (by decide) (tgt := 40) dX0_append_16 (by decide) (fun hc_2 => ?_) (fun hc_2 => ?_)
    · exfalso; omega
    · refine z_aload_n C dX0_append_19 0 rfl ?_
      refine z_get C hinX0 (ci := 2) rfl 5 rfl 2 (by decide) k1 rfl (v := .ref (a 19)) rfl dX0_append_20 ?_
      refine z_aload_n C dX0_append_23 0 rfl ?_
      refine z_get C hinX0 (ci := 2) rfl 5 rfl 0 (by decide) k0 rfl (v := vI sz) rfl dX0_append_24 ?_
      refine z_iload_n C dX0_append_27 1 rfl ?_
      refine z_i2b C dX0_append_28 ?_
      refine z_bast C 19 0 (g := bt) rfl rfl (by omega) (by omega) (by decide) dX0_append_29 (ws' := CW cy a kd co mk al dz rd rw wo sa sz ps (va_up bt (sz : Int).toNat (sb oc)) ou bi dm pl re cu) rfl ?_
      refine z_aload_n C dX0_append_30 0 rfl ?_
      refine z_dup C dX0_append_31 rfl ?_
      refine z_get C hinX0 (ci := 2) rfl 5 rfl 0 (by decide) k0 rfl (v := vI sz) rfl dX0_append_32 ?_
      refine z_iconst C (z := 1) dX0_append_35 ?_
      refine z_iadd C dX0_append_36 ?_
      refine z_put C hinX0 tyX0 tyX0_ok nmX0 (ci := 2) rfl 5 rfl 0 (by decide) k0 rfl rfl rfl rfl (Nat.le_of_ble_eq_true rfl) dX0_append_37 (ws' := CW cy a kd co mk al dz rd rw wo sa (sz + 1) ps (va_up bt (sz : Int).toNat (sb oc)) ou bi dm pl re cu) rfl ?_
      refine z_vret C dX0_append_40 () ?_ ?_ ?_ (by decide) (by decide)
      · exact rfl
      · exact trivial
      · exact rfl
theorem kn_X0_left : zKn yX0_left wsX0_left cX0_left 1 (some .int) 0 := ⟨⟨_, rfl⟩, by decide +kernel, by decide +kernel, by decide +kernel⟩
set_option maxHeartbeats 400000 in
set_option maxRecDepth 100000 in
theorem c_X0_left (l : Launch) (D : va_G) (cy : Nat → ClassId) (tw : Nat → Nat) (a : Nat → Nat) (kd : Int) (co : Int) (mk : Bool) (al : Bool) (dz : Bool) (rd : Bool) (rw : Int) (wo : Nat → BitVec 64) (sa : Nat → Int) (sz : Int) (ps : Int) (bt : Nat → Int) (ou : Nat → BitVec 64) (bi : Int) (dm : Int) (pl : Bool) (re : Int) (cu : Bool)    : zMet l yX0_left wsX0_left { frames := 0, cells := 0, slots := 0, locals := 0 } D (zT cy) tw (CW cy a kd co mk al dz rd rw wo sa sz ps bt ou bi dm pl re cu) [.ref (a 5)] 0 0 (S := Unit) (fun _ => some (vI (8 * sz - ps))) (fun _ => CW cy a kd co mk al dz rd rw wo sa sz ps bt ou bi dm pl re cu) (fun _ => True) := by
  refine z_met (cc := cX0_left) (nL := 1) (ret := some .int) (by decide +kernel) rfl (Nat.le_of_ble_eq_true rfl) (lv := [(0, .ref (a 5))]) rfl ?_
  intro V p_ e_ s_ m_ args_ below_ meth_ c_ A_ C hmn
  have hinX0 : ∀ w ∈ u_ws RX0 TX0 3, w ∈ wsX0_left := by decide +kernel
  have k0 : Cond.fieldLink RX0 15 "FaxFilter$BitsIn" "size" "I" ∈ wsX0_left := List.mem_of_getElem? (i := 1) rfl
  have k1 : Cond.fieldLink RX0 19 "FaxFilter$BitsIn" "passed" "I" ∈ wsX0_left := List.mem_of_getElem? (i := 2) rfl
  refine z_bipush C (z := 8) dX0_left_0 (by decide) ?_
  refine z_aload_n C dX0_left_2 0 rfl ?_
  refine z_get C hinX0 (ci := 2) rfl 5 rfl 0 (by decide) k0 rfl (v := vI sz) rfl dX0_left_3 ?_
  refine z_imul C dX0_left_6 ?_
  refine z_aload_n C dX0_left_7 0 rfl ?_
  refine z_get C hinX0 (ci := 2) rfl 5 rfl 1 (by decide) k1 rfl (v := vI ps) rfl dX0_left_8 ?_
  refine z_isub C dX0_left_11 ?_
  refine z_iret (x := ((8 * sz) - ps)) C dX0_left_12 () ?_ ?_ ?_ (by decide) (by decide)
  · exact rfl
  · exact trivial
  · exact rfl
theorem kn_X0_pass : zKn yX0_pass wsX0_pass cX0_pass 2 (none) 1 := ⟨⟨_, rfl⟩, by decide +kernel, by decide +kernel, by decide +kernel⟩
set_option maxHeartbeats 400000 in
set_option maxRecDepth 100000 in
theorem c_X0_pass (l : Launch) (D : va_G) (cy : Nat → ClassId) (tw : Nat → Nat) (a : Nat → Nat) (kd : Int) (co : Int) (mk : Bool) (al : Bool) (dz : Bool) (rd : Bool) (rw : Int) (wo : Nat → BitVec 64) (sa : Nat → Int) (sz : Int) (ps : Int) (bt : Nat → Int) (ou : Nat → BitVec 64) (bi : Int) (dm : Int) (pl : Bool) (re : Int) (cu : Bool) (n : Int)  (h0 : 0 ≤ sz ∧ sz ≤ 400) (h1 : 0 ≤ ps ∧ ps ≤ 8 * sz) (h2 : 0 ≤ n ∧ n ≤ 1000) : zMet l yX0_pass wsX0_pass { frames := 1, cells := 0, slots := 0, locals := 21 } D (zT cy) tw (CW cy a kd co mk al dz rd rw wo sa sz ps bt ou bi dm pl re cu) [.ref (a 5), vI n] 0 0 (S := Unit) (fun _ => none) (fun _ => CW cy a kd co mk al dz rd rw wo sa sz (ps + (if 8 * sz - ps < n then 8 * sz - ps else n)) bt ou bi dm pl re cu) (fun _ => True) := by
  refine z_met (cc := cX0_pass) (nL := 2) (ret := none) (by decide +kernel) rfl (Nat.le_of_ble_eq_true rfl) (lv := [(0, .ref (a 5)), (1, vI n)]) rfl ?_
  intro V p_ e_ s_ m_ args_ below_ meth_ c_ A_ C hmn
  have hinX0 : ∀ w ∈ u_ws RX0 TX0 3, w ∈ wsX0_pass := by decide +kernel
  have k0 : Cond.fieldLink RX0 19 "FaxFilter$BitsIn" "passed" "I" ∈ wsX0_pass := List.mem_of_getElem? (i := 1) rfl
  have k1 : Cond.methodLink RX0 26 Lib.Math.min.name ∈ wsX0_pass := List.mem_of_getElem? (i := 2) rfl
  have k2 : Cond.static Lib.Math.min.name ∈ wsX0_pass := List.mem_of_getElem? (i := 3) rfl
  have k3 : Cond.initialized "java/lang/Math" ∈ wsX0_pass := List.mem_of_getElem? (i := 4) rfl
  have k4 : Cond.code Lib.Math.min.name Lib.Math.min.code 2 (some .int) ∈ wsX0_pass := List.mem_of_getElem? (i := 5) rfl
  refine z_aload_n C dX0_pass_0 0 rfl ?_
  refine z_dup C dX0_pass_1 rfl ?_
  refine z_get C hinX0 (ci := 2) rfl 5 rfl 1 (by decide) k0 rfl (v := vI ps) rfl dX0_pass_2 ?_
  refine z_iload_n C dX0_pass_5 1 rfl ?_
  refine z_aload_n C dX0_pass_6 0 rfl ?_
  refine z_callV C (As := []) (st := [vI n, vI ps, .ref (a 5)]) (c_X0_left l D cy tw a kd co mk al dz rd rw wo sa sz ps bt ou bi dm pl re cu   ) gX0_pass_X0_left kn_X0_left rfl ⟨rfl, rfl, Nat.le_of_ble_eq_true rfl, Nat.le_of_ble_eq_true rfl⟩ 5 rfl (ci := 2) rfl rfl (Nat.le_of_ble_eq_true rfl) ⟨Nat.le_of_ble_eq_true rfl, Nat.le_of_ble_eq_true rfl⟩ dX0_pass_7 (fun u1 hu1 => ?_)
  clear hu1; clear u1
  show V 0 0 (CW cy a kd co mk al dz rd rw wo sa sz ps bt ou bi dm pl re cu) [(0, .ref (a 5)), (1, vI n)] [vI (8 * sz - ps), vI n, vI ps, .ref (a 5)] 10
  refine z_mmin C k1 k2 k3 k4 (Nat.le_of_ble_eq_true rfl) (Nat.le_of_ble_eq_true rfl) (Nat.le_of_ble_eq_true rfl) (Nat.le_of_ble_eq_true rfl) (x := n) (y := (8 * sz - ps)) (by omega) (by omega) dX0_pass_10 ?_
  refine z_iadd C dX0_pass_13 ?_
  refine z_put C hinX0 tyX0 tyX0_ok nmX0 (ci := 2) rfl 5 rfl 1 (by decide) k0 rfl rfl rfl rfl (Nat.le_of_ble_eq_true rfl) dX0_pass_14 (ws' := CW cy a kd co mk al dz rd rw wo sa sz (ps + (if 8 * sz - ps < n then 8 * sz - ps else n)) bt ou bi dm pl re cu) rfl ?_
  refine z_vret C dX0_pass_17 () ?_ ?_ ?_ (by decide) (by decide)
  · exact rfl
  · exact trivial
  · exact rfl
theorem kn_X0_passToByte : zKn yX0_passToByte wsX0_passToByte cX0_passToByte 1 (none) 0 := ⟨⟨_, rfl⟩, by decide +kernel, by decide +kernel, by decide +kernel⟩
set_option maxHeartbeats 400000 in
set_option maxRecDepth 100000 in
theorem c_X0_passToByte (l : Launch) (D : va_G) (cy : Nat → ClassId) (tw : Nat → Nat) (a : Nat → Nat) (kd : Int) (co : Int) (mk : Bool) (al : Bool) (dz : Bool) (rd : Bool) (rw : Int) (wo : Nat → BitVec 64) (sa : Nat → Int) (sz : Int) (ps : Int) (bt : Nat → Int) (ou : Nat → BitVec 64) (bi : Int) (dm : Int) (pl : Bool) (re : Int) (cu : Bool)   (h0 : 0 ≤ sz ∧ sz ≤ 400) (h1 : 0 ≤ ps ∧ ps ≤ 8 * sz) : zMet l yX0_passToByte wsX0_passToByte { frames := 2, cells := 0, slots := 0, locals := 42 } D (zT cy) tw (CW cy a kd co mk al dz rd rw wo sa sz ps bt ou bi dm pl re cu) [.ref (a 5)] 0 0 (S := Unit) (fun _ => none) (fun _ => CW cy a kd co mk al dz rd rw wo sa sz (ps + (if 8 * sz - ps < -ps % 2 ^ 3 then 8 * sz - ps else -ps % 2 ^ 3)) bt ou bi dm pl re cu) (fun _ => True) := by
  refine z_met (cc := cX0_passToByte) (nL := 1) (ret := none) (by decide +kernel) rfl (Nat.le_of_ble_eq_true rfl) (lv := [(0, .ref (a 5))]) rfl ?_
  intro V p_ e_ s_ m_ args_ below_ meth_ c_ A_ C hmn
  have hinX0 : ∀ w ∈ u_ws RX0 TX0 3, w ∈ wsX0_passToByte := by decide +kernel
  have k0 : Cond.fieldLink RX0 19 "FaxFilter$BitsIn" "passed" "I" ∈ wsX0_passToByte := List.mem_of_getElem? (i := 1) rfl
  refine z_aload_n C dX0_passToByte_0 0 rfl ?_
  refine z_aload_n C dX0_passToByte_1 0 rfl ?_
  refine z_get C hinX0 (ci := 2) rfl 5 rfl 1 (by decide) k0 rfl (v := vI ps) rfl dX0_passToByte_2 ?_
  refine z_ineg C dX0_passToByte_5 ?_
  refine z_bipush C (z := 7) dX0_passToByte_6 (by decide) ?_
  refine z_iand C 3 dX0_passToByte_8 (by decide) (by decide) ?_
  refine z_callV C (As := [vI ((-ps) % 2 ^ 3)]) (st := []) (c_X0_pass l D cy tw a kd co mk al dz rd rw wo sa sz ps bt ou bi dm pl re cu ((-ps) % 2 ^ 3)  (by omega) (by omega) (by omega)) gX0_passToByte_X0_pass kn_X0_pass rfl ⟨rfl, rfl, Nat.le_of_ble_eq_true rfl, Nat.le_of_ble_eq_true rfl⟩ 5 rfl (ci := 2) rfl rfl (Nat.le_of_ble_eq_true rfl) ⟨Nat.le_of_ble_eq_true rfl, Nat.le_of_ble_eq_true rfl⟩ dX0_passToByte_9 (fun u1 hu1 => ?_)
  clear hu1; clear u1
  show V 0 0 (CW cy a kd co mk al dz rd rw wo sa sz (ps + (if 8 * sz - ps < ((-ps) % 2 ^ 3) then 8 * sz - ps else ((-ps) % 2 ^ 3))) bt ou bi dm pl re cu) [(0, .ref (a 5))] [] 12
  refine z_vret C dX0_passToByte_12 () ?_ ?_ ?_ (by decide) (by decide)
  · exact rfl
  · exact trivial
  · exact rfl
theorem kn_X0_byteAt : zKn yX0_byteAt wsX0_byteAt cX0_byteAt 2 (some .int) 1 := ⟨⟨_, rfl⟩, by decide +kernel, by decide +kernel, by decide +kernel⟩
set_option maxHeartbeats 400000 in
set_option maxRecDepth 100000 in
theorem c_X0_byteAt (l : Launch) (D : va_G) (cy : Nat → ClassId) (tw : Nat → Nat) (a : Nat → Nat) (kd : Int) (co : Int) (mk : Bool) (al : Bool) (dz : Bool) (rd : Bool) (rw : Int) (wo : Nat → BitVec 64) (sa : Nat → Int) (sz : Int) (ps : Int) (bt : Nat → Int) (ou : Nat → BitVec 64) (bi : Int) (dm : Int) (pl : Bool) (re : Int) (cu : Bool) (i : Int)  (h0 : 0 ≤ sz ∧ sz ≤ 400) (h1 : -10 ≤ i ∧ i ≤ 1000) : zMet l yX0_byteAt wsX0_byteAt { frames := 0, cells := 0, slots := 0, locals := 0 } D (zT cy) tw (CW cy a kd co mk al dz rd rw wo sa sz ps bt ou bi dm pl re cu) [.ref (a 5), vI i] 0 0 (S := Unit) (fun _ => some (vI (byC bt sz i))) (fun _ => CW cy a kd co mk al dz rd rw wo sa sz ps bt ou bi dm pl re cu) (fun _ => True) := by
  refine z_met (cc := cX0_byteAt) (nL := 2) (ret := some .int) (by decide +kernel) rfl (Nat.le_of_ble_eq_true rfl) (lv := [(0, .ref (a 5)), (1, vI i)]) rfl ?_
  intro V p_ e_ s_ m_ args_ below_ meth_ c_ A_ C hmn
  have hinX0 : ∀ w ∈ u_ws RX0 TX0 3, w ∈ wsX0_byteAt := by decide +kernel
  have k0 : Cond.fieldLink RX0 15 "FaxFilter$BitsIn" "size" "I" ∈ wsX0_byteAt := List.mem_of_getElem? (i := 1) rfl
  have k1 : Cond.fieldLink RX0 9 "FaxFilter$BitsIn" "bytes" "[B" ∈ wsX0_byteAt := List.mem_of_getElem? (i := 2) rfl
  refine z_iload_n C dX0_byteAt_0 1 rfl ?_
  refine z_if_lt C (by omega) (tgt := 34) dX0_byteAt_1 (by decide) (fun hc_1 => ?_) (fun hc_1 => ?_)
  · refine z_iconst C (z := 0) dX0_byteAt_34 ?_
    refine z_iret (x := 0) C dX0_byteAt_35 () ?_ ?_ ?_ (by decide) (by decide)
    · (simp only [byC]; first | rw [if_neg (by omega)] | rw [if_pos (by omega), sb_mod8])
    · exact trivial
    · exact rfl
  · refine z_iload_n C dX0_byteAt_4 1 rfl ?_
    refine z_aload_n C dX0_byteAt_5 0 rfl ?_
    refine z_get C hinX0 (ci := 2) rfl 5 rfl 0 (by decide) k0 rfl (v := vI sz) rfl dX0_byteAt_6 ?_
    refine z_icmp_ge C (by omega) (by omega) (tgt := 34) dX0_byteAt_9 (by decide) (fun hc_2 => ?_) (fun hc_2 => ?_)
    · refine z_iconst C (z := 0) dX0_byteAt_34 ?_
      refine z_iret (x := 0) C dX0_byteAt_35 () ?_ ?_ ?_ (by decide) (by decide)
      · (simp only [byC]; first | rw [if_neg (by omega)] | rw [if_pos (by omega), sb_mod8])
      · exact trivial
      · exact rfl
    · refine z_iload_n C dX0_byteAt_12 1 rfl ?_
      refine z_aload_n C dX0_byteAt_13 0 rfl ?_
      refine z_get C hinX0 (ci := 2) rfl 5 rfl 2 (by decide) k1 rfl (v := .ref (a 19)) rfl dX0_byteAt_14 ?_
      refine z_alen C 19 0 rfl rfl (N := 400) rfl dX0_byteAt_17 ?_
      refine z_icmp_ge C (by omega) (by decide) (tgt := 34) dX0_byteAt_18 (by decide) (fun hc_3 => ?_) (fun hc_3 => ?_)
      · exfalso; omega
      · refine z_aload_n C dX0_byteAt_21 0 rfl ?_
        refine z_get C hinX0 (ci := 2) rfl 5 rfl 2 (by decide) k1 rfl (v := .ref (a 19)) rfl dX0_byteAt_22 ?_
        refine z_iload_n C dX0_byteAt_25 1 rfl ?_
        refine z_bald C 19 0 (g := bt) rfl rfl (by omega) (by omega) (by decide) dX0_byteAt_26 ?_
        refine z_sipush C (z := 255) dX0_byteAt_27 (by decide) ?_
        refine z_iand C 8 dX0_byteAt_30 (by decide) (by decide) ?_
        refine z_goto C (tgt := 35) dX0_byteAt_31 (by decide) ?_
        refine z_iret (x := ((sb (bt (i : Int).toNat)) % 2 ^ 8)) C dX0_byteAt_35 () ?_ ?_ ?_ (by decide) (by decide)
        · (simp only [byC]; first | rw [if_neg (by omega)] | rw [if_pos (by omega), sb_mod8])
        · exact trivial
        · exact rfl
theorem kn_X0_bitAt : zKn yX0_bitAt wsX0_bitAt cX0_bitAt 3 (some .int) 1 := ⟨⟨_, rfl⟩, by decide +kernel, by decide +kernel, by decide +kernel⟩
set_option maxHeartbeats 400000 in
set_option maxRecDepth 100000 in
theorem c_X0_bitAt (l : Launch) (D : va_G) (cy : Nat → ClassId) (tw : Nat → Nat) (a : Nat → Nat) (kd : Int) (co : Int) (mk : Bool) (al : Bool) (dz : Bool) (rd : Bool) (rw : Int) (wo : Nat → BitVec 64) (sa : Nat → Int) (sz : Int) (ps : Int) (bt : Nat → Int) (ou : Nat → BitVec 64) (bi : Int) (dm : Int) (pl : Bool) (re : Int) (cu : Bool) (i : Int)  (h0 : 0 ≤ sz ∧ sz ≤ 400) (h1 : 0 ≤ i ∧ i ≤ 4000) : zMet l yX0_bitAt wsX0_bitAt { frames := 0, cells := 0, slots := 0, locals := 0 } D (zT cy) tw (CW cy a kd co mk al dz rd rw wo sa sz ps bt ou bi dm pl re cu) [.ref (a 5), vI i] 0 0 (S := Unit) (fun _ => some (vI (bitC bt sz i))) (fun _ => CW cy a kd co mk al dz rd rw wo sa sz ps bt ou bi dm pl re cu) (fun _ => True) := by
  refine z_met (cc := cX0_bitAt) (nL := 3) (ret := some .int) (by decide +kernel) rfl (Nat.le_of_ble_eq_true rfl) (lv := [(0, .ref (a 5)), (1, vI i)]) rfl ?_
  intro V p_ e_ s_ m_ args_ below_ meth_ c_ A_ C hmn
  have hinX0 : ∀ w ∈ u_ws RX0 TX0 3, w ∈ wsX0_bitAt := by decide +kernel
  have k0 : Cond.fieldLink RX0 15 "FaxFilter$BitsIn" "size" "I" ∈ wsX0_bitAt := List.mem_of_getElem? (i := 1) rfl
  have k1 : Cond.fieldLink RX0 9 "FaxFilter$BitsIn" "bytes" "[B" ∈ wsX0_bitAt := List.mem_of_getElem? (i := 2) rfl
  refine z_iload_n C dX0_bitAt_0 1 rfl ?_
  refine z_bipush C (z := 8) dX0_bitAt_1 (by decide) ?_
  refine z_idiv C dX0_bitAt_3 (by omega) (by decide) ?_
  refine z_istore_n C (lv' := [(2, vI (i / 8)), (0, .ref (a 5)), (1, vI i)]) dX0_bitAt_4 rfl (by decide) rfl ?_
  refine z_iload_n C dX0_bitAt_5 2 rfl ?_
  refine z_if_lt C (by omega) (tgt := 45) dX0_bitAt_6 (by decide) (fun hc_1 => ?_) (fun hc_1 => ?_)
  · exfalso; omega
  · refine z_iload_n C dX0_bitAt_9 0 rfl ?_
    refine z_aload_n C dX0_bitAt_10 1 rfl ?_
    refine z_get C hinX0 (ci := 2) rfl 5 rfl 0 (by decide) k0 rfl (v := vI sz) rfl dX0_bitAt_11 ?_
    refine z_icmp_ge C (by omega) (by omega) (tgt := 45) dX0_bitAt_14 (by decide) (fun hc_2 => ?_) (fun hc_2 => ?_)
    · refine z_iconst C (z := 0) dX0_bitAt_45 ?_
      refine z_iret (x := 0) C dX0_bitAt_46 () ?_ ?_ ?_ (by decide) (by decide)
      · (unfold bitC byC; first | rw [if_pos (by omega), sb_bit _ (by omega)] | (rw [if_neg (by omega), Int.zero_ediv]; rfl))
      · exact trivial
      · exact rfl
    · refine z_iload_n C dX0_bitAt_17 0 rfl ?_
      refine z_aload_n C dX0_bitAt_18 1 rfl ?_
      refine z_get C hinX0 (ci := 2) rfl 5 rfl 2 (by decide) k1 rfl (v := .ref (a 19)) rfl dX0_bitAt_19 ?_
      refine z_alen C 19 0 rfl rfl (N := 400) rfl dX0_bitAt_22 ?_
      refine z_icmp_ge C (by omega) (by decide) (tgt := 45) dX0_bitAt_23 (by decide) (fun hc_3 => ?_) (fun hc_3 => ?_)
      · exfalso; omega
      · refine z_aload_n C dX0_bitAt_26 1 rfl ?_
        refine z_get C hinX0 (ci := 2) rfl 5 rfl 2 (by decide) k1 rfl (v := .ref (a 19)) rfl dX0_bitAt_27 ?_
        refine z_iload_n C dX0_bitAt_30 0 rfl ?_
        refine z_bald C 19 0 (g := bt) rfl rfl (by omega) (by omega) (by decide) dX0_bitAt_31 ?_
        have hsb := sb_rg (bt (i / 8 : Int).toNat)
        refine z_bipush C (z := 7) dX0_bitAt_32 (by decide) ?_
        refine z_iload_n C dX0_bitAt_34 2 rfl ?_
        refine z_bipush C (z := 8) dX0_bitAt_35 (by decide) ?_
        refine z_irem C dX0_bitAt_37 (by omega) (by decide) ?_
        refine z_isub C dX0_bitAt_38 ?_
        refine z_ishr C ((7 - (i % 8)).toNat) dX0_bitAt_39 (by omega) (by omega) (by omega) ?_
        refine z_iconst C (z := 1) dX0_bitAt_40 ?_
        refine z_iand C 1 dX0_bitAt_41 (by decide) (by decide) ?_
        refine z_goto C (tgt := 46) dX0_bitAt_42 (by decide) ?_
        refine z_iret (x := (((sb (bt (i / 8 : Int).toNat)) / 2 ^ (7 - (i % 8)).toNat) % 2 ^ 1)) C dX0_bitAt_46 () ?_ ?_ ?_ (by decide) (by decide)
        · (unfold bitC byC; first | rw [if_pos (by omega), sb_bit _ (by omega)] | (rw [if_neg (by omega), Int.zero_ediv]; rfl))
        · exact trivial
        · exact rfl
