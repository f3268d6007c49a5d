def isR (n : Int) : Bool := decide ((0 ≤ n ∧ n < 64) ∨ (0 < n ∧ n ≤ 640 ∧ n % 64 = 0))
theorem isR_rg {n : Int} (h : isR n = true) : 0 ≤ n ∧ n ≤ 640 := by have := of_decide_eq_true h; omega
def pnM (da : Nat → Bool) (r f t : Int) (on : Bool) : Nat → Bool := fun j => if 700 * r + f ≤ (j : Int) ∧ (j : Int) < 700 * r + t then on else da j
theorem pnM_0 (da : Nat → Bool) (r f t : Int) (on : Bool) (h : t ≤ f) : pnM da r f t on = da := by funext j; rw [pnM, if_neg (by omega)]
theorem pnM_s (da : Nat → Bool) (r f t : Int) (on : Bool) (h : f ≤ t) (h0 : 0 ≤ 700 * r + t) : va_up (pnM da r f t on) (700 * r + t : Int).toNat on = pnM da r f (t + 1) on := by
  funext j
  unfold va_up pnM
  by_cases e : j = (700 * r + t : Int).toNat
  · rw [if_pos e, if_pos (by omega)]
  · rw [if_neg e]
    by_cases q : 700 * r + f ≤ (j : Int) ∧ (j : Int) < 700 * r + t
    · rw [if_pos q, if_pos (by omega)]
    · rw [if_neg q, if_neg (by omega)]
def adM (w : BitVec 64) (i : Nat) : Int := (BitVec.sshiftRight w (8 * i) &&& 255#64).toInt
def apM (bt : Nat → Int) (z : Int) (g : Nat → Int) : Nat → Nat → Int
  | 0 => bt
  | n + 1 => va_up (apM bt z g n) (z + (n : Nat)).toNat (g n)
theorem kn_X8_thrown : zKn yX8_thrown wsX8_thrown cX8_thrown 1 (some .int) 0 := ⟨⟨_, rfl⟩, by decide +kernel, by decide +kernel, by decide +kernel⟩
set_option maxHeartbeats 400000 in
set_option maxRecDepth 100000 in
theorem c_X8_thrown (l : Launch) (D : va_G) (cy : Nat → ClassId) (tw : Nat → Nat) (b : Nat → Nat) (kd : Int) (co : Int) (th : Int) (rw : Int) (cl : Int) (wr : Int) (po : Int) (dm : Int) (sx : Int) (aa : Int) (dk : Bool) (fi : Bool) (bb : Int) (cz : Int) (hm : Bool) (se : Nat → Bool) (da : Nat → Bool) (sa : Nat → Int) (bt : Nat → Int) (oz : Nat → Bool)    : zMet l yX8_thrown wsX8_thrown { frames := 0, cells := 0, slots := 0, locals := 0 } D (zT cy) tw (MW cy b kd co th rw cl wr po dm sx aa dk fi bb cz hm se da sa bt oz) [.ref (b 0)] 0 0 (S := Unit) (fun _ => some (vI th)) (fun _ => MW cy b kd co th rw cl wr po dm sx aa dk fi bb cz hm se da sa bt oz) (fun _ => True) := by
  refine z_met (cc := cX8_thrown) (nL := 1) (ret := some .int) (by decide +kernel) rfl (Nat.le_of_ble_eq_true rfl) (lv := [(0, .ref (b 0))]) rfl ?_
  intro V p_ e_ s_ m_ args_ below_ meth_ c_ A_ C hmn
  have hinX8 : ∀ w ∈ u_ws RX8 TX8 22, w ∈ wsX8_thrown := by decide +kernel
  have k0 : Cond.fieldLink RX8 44 "FaxFilterModel" "thrown" "I" ∈ wsX8_thrown := List.mem_of_getElem? (i := 1) rfl
  refine z_aload_n C dX8_thrown_0 0 rfl ?_
  refine z_get C hinX8 (ci := 10) rfl 0 rfl 0 (by decide) k0 rfl (v := vI th) rfl dX8_thrown_1 ?_
  refine z_iret (x := th) C dX8_thrown_4 () ?_ ?_ ?_ (by decide) (by decide)
  · exact rfl
  · exact trivial
  · exact rfl
theorem kn_X8_isRun : zKn yX8_isRun wsX8_isRun cX8_isRun 1 (some .boolean) 1 := ⟨⟨_, rfl⟩, by decide +kernel, by decide +kernel, by decide +kernel⟩
set_option maxHeartbeats 400000 in
set_option maxRecDepth 100000 in
theorem c_X8_isRun (l : Launch) (D : va_G) (cy : Nat → ClassId) (tw : Nat → Nat) (b : Nat → Nat) (kd : Int) (co : Int) (th : Int) (rw : Int) (cl : Int) (wr : Int) (po : Int) (dm : Int) (sx : Int) (aa : Int) (dk : Bool) (fi : Bool) (bb : Int) (cz : Int) (hm : Bool) (se : Nat → Bool) (da : Nat → Bool) (sa : Nat → Int) (bt : Nat → Int) (oz : Nat → Bool) (z : Int)  (hz : -2147483648 ≤ z ∧ z ≤ 2147483647) : zMet l yX8_isRun wsX8_isRun { frames := 0, cells := 0, slots := 0, locals := 0 } D (zT cy) tw (MW cy b kd co th rw cl wr po dm sx aa dk fi bb cz hm se da sa bt oz) [vI z] 0 0 (S := Unit) (fun _ => some (vI (b2i (isR z)))) (fun _ => MW cy b kd co th rw cl wr po dm sx aa dk fi bb cz hm se da sa bt oz) (fun _ => True) := by
  refine z_met (cc := cX8_isRun) (nL := 1) (ret := some .boolean) (by decide +kernel) rfl (Nat.le_of_ble_eq_true rfl) (lv := [(0, vI z)]) rfl ?_
  intro V p_ e_ s_ m_ args_ below_ meth_ c_ A_ C hmn
  refine z_iload_n C dX8_isRun_0 0 rfl ?_
  refine z_if_lt C (by omega) (tgt := 10) dX8_isRun_1 (by decide) (fun hc_1 => ?_) (fun hc_1 => ?_)
  · refine z_iload_n C dX8_isRun_10 0 rfl ?_
    refine z_if_le C (by omega) (tgt := 32) dX8_isRun_11 (by decide) (fun hc_2 => ?_) (fun hc_2 => ?_)
    · refine z_iconst C (z := 0) dX8_isRun_32 ?_
      refine z_zret (b := false) C dX8_isRun_33 () ?_ ?_ ?_ (by decide) (by decide)
      · rw [isR, decide_eq_false (by omega)]
      · exact trivial
      · exact rfl
    · refine z_iload_n C dX8_isRun_14 0 rfl ?_
      refine z_sipush C (z := 640) dX8_isRun_15 (by decide) ?_
      refine z_icmp_gt C (by omega) (by decide) (tgt := 32) dX8_isRun_18 (by decide) (fun hc_3 => ?_) (fun hc_3 => ?_)
      · refine z_iconst C (z := 0) dX8_isRun_32 ?_
        refine z_zret (b := false) C dX8_isRun_33 () ?_ ?_ ?_ (by decide) (by decide)
        · rw [isR, decide_eq_false (by omega)]
        · exact trivial
        · exact rfl
      · refine z_iload_n C dX8_isRun_21 0 rfl ?_
        refine z_bipush C (z := 64) dX8_isRun_22 (by decide) ?_
        refine z_irem C dX8_isRun_24 (by omega) (by decide) ?_
        refine z_if_ne C (by omega) (tgt := 32) dX8_isRun_25 (by decide) (fun hc_4 => ?_) (fun hc_4 => ?_)
        · refine z_iconst C (z := 0) dX8_isRun_32 ?_
          refine z_zret (b := false) C dX8_isRun_33 () ?_ ?_ ?_ (by decide) (by decide)
          · rw [isR, decide_eq_false (by omega)]
          · exact trivial
          · exact rfl
        · refine z_iconst C (z := 1) dX8_isRun_28 ?_
          refine z_goto C (tgt := 33) dX8_isRun_29 (by decide) ?_
          refine z_zret (b := true) C dX8_isRun_33 () ?_ ?_ ?_ (by decide) (by decide)
          · rw [isR, decide_eq_true (by omega)]
          · exact trivial
          · exact rfl
  · refine z_iload_n C dX8_isRun_4 0 rfl ?_
    refine z_bipush C (z := 64) dX8_isRun_5 (by decide) ?_
    refine z_icmp_lt C (by omega) (by decide) (tgt := 28) dX8_isRun_7 (by decide) (fun hc_5 => ?_) (fun hc_5 => ?_)
    · refine z_iconst C (z := 1) dX8_isRun_28 ?_
      refine z_goto C (tgt := 33) dX8_isRun_29 (by decide) ?_
      refine z_zret (b := true) C dX8_isRun_33 () ?_ ?_ ?_ (by decide) (by decide)
      · rw [isR, decide_eq_true (by omega)]
      · exact trivial
      · exact rfl
    · refine z_iload_n C dX8_isRun_10 0 rfl ?_
      refine z_if_le C (by omega) (tgt := 32) dX8_isRun_11 (by decide) (fun hc_6 => ?_) (fun hc_6 => ?_)
      · refine z_iconst C (z := 0) dX8_isRun_32 ?_
        refine z_zret (b := false) C dX8_isRun_33 () ?_ ?_ ?_ (by decide) (by decide)
        · rw [isR, decide_eq_false (by omega)]
        · exact trivial
        · exact rfl
      · refine z_iload_n C dX8_isRun_14 0 rfl ?_
        refine z_sipush C (z := 640) dX8_isRun_15 (by decide) ?_
        refine z_icmp_gt C (by omega) (by decide) (tgt := 32) dX8_isRun_18 (by decide) (fun hc_7 => ?_) (fun hc_7 => ?_)
        · refine z_iconst C (z := 0) dX8_isRun_32 ?_
          refine z_zret (b := false) C dX8_isRun_33 () ?_ ?_ ?_ (by decide) (by decide)
          · rw [isR, decide_eq_false (by omega)]
          · exact trivial
          · exact rfl
        · refine z_iload_n C dX8_isRun_21 0 rfl ?_
          refine z_bipush C (z := 64) dX8_isRun_22 (by decide) ?_
          refine z_irem C dX8_isRun_24 (by omega) (by decide) ?_
          refine z_if_ne C (by omega) (tgt := 32) dX8_isRun_25 (by decide) (fun hc_8 => ?_) (fun hc_8 => ?_)
          · refine z_iconst C (z := 0) dX8_isRun_32 ?_
            refine z_zret (b := false) C dX8_isRun_33 () ?_ ?_ ?_ (by decide) (by decide)
            · rw [isR, decide_eq_false (by omega)]
            · exact trivial
            · exact rfl
          · refine z_iconst C (z := 1) dX8_isRun_28 ?_
            refine z_goto C (tgt := 33) dX8_isRun_29 (by decide) ?_
            refine z_zret (b := true) C dX8_isRun_33 () ?_ ?_ ?_ (by decide) (by decide)
            · rw [isR, decide_eq_true (by omega)]
            · exact trivial
            · exact rfl
theorem kn_X8_in : zKn yX8_in wsX8_in cX8_in 3 (some .boolean) 3 := ⟨⟨_, rfl⟩, by decide +kernel, by decide +kernel, by decide +kernel⟩
set_option maxHeartbeats 400000 in
set_option maxRecDepth 100000 in
theorem c_X8_in (l : Launch) (D : va_G) (cy : Nat → ClassId) (tw : Nat → Nat) (b : Nat → Nat) (kd : Int) (co : Int) (th : Int) (rw : Int) (cl : Int) (wr : Int) (po : Int) (dm : Int) (sx : Int) (aa : Int) (dk : Bool) (fi : Bool) (bb : Int) (cz : Int) (hm : Bool) (se : Nat → Bool) (da : Nat → Bool) (sa : Nat → Int) (bt : Nat → Int) (oz : Nat → Bool) (z : Int) (f : Int) (t : Int)  (hz : -10000 ≤ z ∧ z ≤ 10000) (hf : -10000 ≤ f ∧ f ≤ 10000) (ht : -10000 ≤ t ∧ t ≤ 10000) : zMet l yX8_in wsX8_in { frames := 0, cells := 0, slots := 0, locals := 0 } D (zT cy) tw (MW cy b kd co th rw cl wr po dm sx aa dk fi bb cz hm se da sa bt oz) [vI z, vI f, vI t] 0 0 (S := Unit) (fun _ => some (vI (b2i (decide (f ≤ z ∧ z ≤ t))))) (fun _ => MW cy b kd co th rw cl wr po dm sx aa dk fi bb cz hm se da sa bt oz) (fun _ => True) := by
  refine z_met (cc := cX8_in) (nL := 3) (ret := some .boolean) (by decide +kernel) rfl (Nat.le_of_ble_eq_true rfl) (lv := [(0, vI z), (1, vI f), (2, vI t)]) rfl ?_
  intro V p_ e_ s_ m_ args_ below_ meth_ c_ A_ C hmn
  refine z_iload_n C dX8_in_0 0 rfl ?_
  refine z_iload_n C dX8_in_1 1 rfl ?_
  refine z_icmp_lt C (by omega) (by omega) (tgt := 14) dX8_in_2 (by decide) (fun hc_1 => ?_) (fun hc_1 => ?_)
  · refine z_iconst C (z := 0) dX8_in_14 ?_
    refine z_zret (b := false) C dX8_in_15 () ?_ ?_ ?_ (by decide) (by decide)
    · rw [decide_eq_false (by omega)]
    · exact trivial
    · exact rfl
  · refine z_iload_n C dX8_in_5 0 rfl ?_
    refine z_iload_n C dX8_in_6 2 rfl ?_
    refine z_icmp_gt C (by omega) (by omega) (tgt := 14) dX8_in_7 (by decide) (fun hc_2 => ?_) (fun hc_2 => ?_)
    · refine z_iconst C (z := 0) dX8_in_14 ?_
      refine z_zret (b := false) C dX8_in_15 () ?_ ?_ ?_ (by decide) (by decide)
      · rw [decide_eq_false (by omega)]
      · exact trivial
      · exact rfl
    · refine z_iconst C (z := 1) dX8_in_10 ?_
      refine z_goto C (tgt := 15) dX8_in_11 (by decide) ?_
      refine z_zret (b := true) C dX8_in_15 () ?_ ?_ ?_ (by decide) (by decide)
      · rw [decide_eq_true (by omega)]
      · exact trivial
      · exact rfl
theorem kn_X8_code : zKn yX8_code wsX8_code cX8_code 4 (some .int) 2 := ⟨⟨_, rfl⟩, by decide +kernel, by decide +kernel, by decide +kernel⟩
set_option maxHeartbeats 400000 in
set_option maxRecDepth 100000 in
theorem c_X8_code (l : Launch) (D : va_G) (cy : Nat → ClassId) (tw : Nat → Nat) (b : Nat → Nat) (kd : Int) (co : Int) (th : Int) (rw : Int) (cl : Int) (wr : Int) (po : Int) (dm : Int) (sx : Int) (aa : Int) (dk : Bool) (fi : Bool) (bb : Int) (cz : Int) (hm : Bool) (se : Nat → Bool) (da : Nat → Bool) (sa : Nat → Int) (bt : Nat → Int) (oz : Nat → Bool) (d : Bool) (z : Int)  (hz : -2147480000 ≤ z ∧ z ≤ 2147480000) : zMet l yX8_code wsX8_code { frames := 1, cells := 0, slots := 0, locals := 20 } D (zT cy) tw (MW cy b kd co th rw cl wr po dm sx aa dk fi bb cz hm se da sa bt oz) [.ref (b 0), vI (b2i d), vI z] 0 0 (S := Unit) (fun _ => some (vI (if isR z = true then mC (704 * b2i d + z).toNat + 65536 * mB (704 * b2i d + z).toNat else 0))) (fun _ => MW cy b kd co (if isR z = true then 0 else 1) rw cl wr po dm sx aa dk fi bb cz hm se da sa bt oz) (fun _ => True) := by
  refine z_met (cc := cX8_code) (nL := 4) (ret := some .int) (by decide +kernel) rfl (Nat.le_of_ble_eq_true rfl) (lv := [(0, .ref (b 0)), (1, vI (b2i d)), (2, vI z)]) rfl ?_
  intro V p_ e_ s_ m_ args_ below_ meth_ c_ A_ C hmn
  have hinX8 : ∀ w ∈ u_ws RX8 TX8 22, w ∈ wsX8_code := by decide +kernel
  have k0 : Cond.fieldLink RX8 44 "FaxFilterModel" "thrown" "I" ∈ wsX8_code := List.mem_of_getElem? (i := 1) rfl
  have k1 : Cond.fieldLink RX8 7 "FaxFilterModel" "code" "[I" ∈ wsX8_code := List.mem_of_getElem? (i := 2) rfl
  have k2 : Cond.constant RX8 59 (65536) ∈ wsX8_code := List.mem_of_getElem? (i := 3) rfl
  have k3 : Cond.fieldLink RX8 13 "FaxFilterModel" "bits" "[I" ∈ wsX8_code := List.mem_of_getElem? (i := 4) rfl
  refine z_aload_n C dX8_code_0 0 rfl ?_
  refine z_iload_n C dX8_code_1 2 rfl ?_
  refine z_callS C (As := [vI z]) (st := [.ref (b 0)]) (c_X8_isRun l D cy tw b kd co th rw cl wr po dm sx aa dk fi bb cz hm se da sa bt oz z  (by omega)) gX8_code_X8_isRun kn_X8_isRun ⟨rfl, rfl, Nat.le_of_ble_eq_true rfl, Nat.le_of_ble_eq_true rfl⟩ rfl (Nat.le_of_ble_eq_true rfl) ⟨Nat.le_of_ble_eq_true rfl, Nat.le_of_ble_eq_true rfl⟩ dX8_code_2 (fun u1 hu1 => ?_)
  clear hu1; clear u1
  show V 0 0 (MW cy b kd co th rw cl wr po dm sx aa dk fi bb cz hm se da sa bt oz) [(0, .ref (b 0)), (1, vI (b2i d)), (2, vI z)] [vI (b2i (isR z)), .ref (b 0)] 5
  refine z_ifz C (tgt := 12) dX8_code_5 (by decide) (fun ci => ?_) (fun ci => ?_)
  · refine z_iconst C (z := 1) dX8_code_12 ?_
    refine z_put C hinX8 tyX8 tyX8_ok nmX8 (ci := 10) rfl 0 rfl 0 (by decide) k0 rfl rfl rfl rfl (Nat.le_of_ble_eq_true rfl) dX8_code_13 (ws' := MW cy b kd co 1 rw cl wr po dm sx aa dk fi bb cz hm se da sa bt oz) rfl ?_
    refine z_sipush C (z := 704) dX8_code_16 (by decide) ?_
    refine z_iload_n C dX8_code_19 1 rfl ?_
    refine z_ifz C (tgt := 27) dX8_code_20 (by decide) (fun cd => ?_) (fun cd => ?_)
    · refine z_iconst C (z := 0) dX8_code_27 ?_
      refine z_imul C dX8_code_28 ?_
      refine z_iload_n C dX8_code_29 2 rfl ?_
      refine z_iadd C dX8_code_30 ?_
      refine z_istore_n C (lv' := [(3, vI ((704 * 0) + z)), (0, .ref (b 0)), (1, vI (b2i d)), (2, vI z)]) dX8_code_31 rfl (by decide) rfl ?_
      refine z_aload_n C dX8_code_32 1 rfl ?_
      refine z_get C hinX8 (ci := 10) rfl 0 rfl 0 (by decide) k0 rfl (v := vI 1) rfl dX8_code_33 ?_
      refine z_if_le C (by decide) (tgt := 43) dX8_code_36 (by decide) (fun hc_2 => ?_) (fun hc_2 => ?_)
      · exact absurd hc_2 (by decide)
      refine z_iconst C (z := 0) dX8_code_39 ?_
      refine z_goto C (tgt := 59) dX8_code_40 (by decide) ?_
      refine z_iret (x := 0) C dX8_code_59 () ?_ ?_ ?_ (by decide) (by decide)
      · rw [ci, if_neg (by decide)]
      · exact trivial
      · rw [ci, if_neg (by decide)]
    · refine z_iconst C (z := 1) dX8_code_23 ?_
      refine z_goto C (tgt := 28) dX8_code_24 (by decide) ?_
      refine z_imul C dX8_code_28 ?_
      refine z_iload_n C dX8_code_29 2 rfl ?_
      refine z_iadd C dX8_code_30 ?_
      refine z_istore_n C (lv' := [(3, vI ((704 * 1) + z)), (0, .ref (b 0)), (1, vI (b2i d)), (2, vI z)]) dX8_code_31 rfl (by decide) rfl ?_
      refine z_aload_n C dX8_code_32 1 rfl ?_
      refine z_get C hinX8 (ci := 10) rfl 0 rfl 0 (by decide) k0 rfl (v := vI 1) rfl dX8_code_33 ?_
      refine z_if_le C (by decide) (tgt := 43) dX8_code_36 (by decide) (fun hc_3 => ?_) (fun hc_3 => ?_)
      · exact absurd hc_3 (by decide)
      refine z_iconst C (z := 0) dX8_code_39 ?_
      refine z_goto C (tgt := 59) dX8_code_40 (by decide) ?_
      refine z_iret (x := 0) C dX8_code_59 () ?_ ?_ ?_ (by decide) (by decide)
      · rw [ci, if_neg (by decide)]
      · exact trivial
      · rw [ci, if_neg (by decide)]
  · have hi := isR_rg ci
    refine z_iconst C (z := 0) dX8_code_8 ?_
    refine z_goto C (tgt := 13) dX8_code_9 (by decide) ?_
    refine z_put C hinX8 tyX8 tyX8_ok nmX8 (ci := 10) rfl 0 rfl 0 (by decide) k0 rfl rfl rfl rfl (Nat.le_of_ble_eq_true rfl) dX8_code_13 (ws' := MW cy b kd co 0 rw cl wr po dm sx aa dk fi bb cz hm se da sa bt oz) rfl ?_
    refine z_sipush C (z := 704) dX8_code_16 (by decide) ?_
    refine z_iload_n C dX8_code_19 1 rfl ?_
    refine z_ifz C (tgt := 27) dX8_code_20 (by decide) (fun cd => ?_) (fun cd => ?_)
    · refine z_iconst C (z := 0) dX8_code_27 ?_
      refine z_imul C dX8_code_28 ?_
      refine z_iload_n C dX8_code_29 2 rfl ?_
      refine z_iadd C dX8_code_30 ?_
      refine z_istore_n C (lv' := [(3, vI ((704 * 0) + z)), (0, .ref (b 0)), (1, vI (b2i d)), (2, vI z)]) dX8_code_31 rfl (by decide) rfl ?_
      refine z_aload_n C dX8_code_32 1 rfl ?_
      refine z_get C hinX8 (ci := 10) rfl 0 rfl 0 (by decide) k0 rfl (v := vI 0) rfl dX8_code_33 ?_
      refine z_if_le C (by decide) (tgt := 43) dX8_code_36 (by decide) (fun hc_4 => ?_) (fun hc_4 => ?_)
      rotate_left; · exact absurd hc_4 (by decide)
      refine z_aload_n C dX8_code_43 1 rfl ?_
      refine z_get C hinX8 (ci := 10) rfl 0 rfl 3 (by decide) k1 rfl (v := .ref (b 1)) rfl dX8_code_44 ?_
      refine z_iload_n C dX8_code_47 0 rfl ?_
      refine z_iald C 1 1 (g := mC) rfl rfl (by omega) (by omega) (by decide) dX8_code_48 ?_
      refine z_ldc C (z := 65536) k2 dX8_code_49 ?_
      refine z_aload_n C dX8_code_51 1 rfl ?_
      refine z_get C hinX8 (ci := 10) rfl 0 rfl 4 (by decide) k3 rfl (v := .ref (b 2)) rfl dX8_code_52 ?_
      refine z_iload_n C dX8_code_55 0 rfl ?_
      refine z_iald C 2 1 (g := mB) rfl rfl (by omega) (by omega) (by decide) dX8_code_56 ?_
      refine z_imul C dX8_code_57 ?_
      refine z_iadd C dX8_code_58 ?_
      refine z_iret (x := ((mC ((704 * 0) + z : Int).toNat) + (65536 * (mB ((704 * 0) + z : Int).toNat)))) C dX8_code_59 () ?_ ?_ ?_ (by decide) (by decide)
      · rw [ci, if_pos rfl]; subst cd; first | rfl | (simp [b2i])
      · exact trivial
      · rw [ci, if_pos rfl]
    · refine z_iconst C (z := 1) dX8_code_23 ?_
      refine z_goto C (tgt := 28) dX8_code_24 (by decide) ?_
      refine z_imul C dX8_code_28 ?_
      refine z_iload_n C dX8_code_29 2 rfl ?_
      refine z_iadd C dX8_code_30 ?_
      refine z_istore_n C (lv' := [(3, vI ((704 * 1) + z)), (0, .ref (b 0)), (1, vI (b2i d)), (2, vI z)]) dX8_code_31 rfl (by decide) rfl ?_
      refine z_aload_n C dX8_code_32 1 rfl ?_
      refine z_get C hinX8 (ci := 10) rfl 0 rfl 0 (by decide) k0 rfl (v := vI 0) rfl dX8_code_33 ?_
      refine z_if_le C (by decide) (tgt := 43) dX8_code_36 (by decide) (fun hc_5 => ?_) (fun hc_5 => ?_)
      rotate_left; · exact absurd hc_5 (by decide)
      refine z_aload_n C dX8_code_43 1 rfl ?_
      refine z_get C hinX8 (ci := 10) rfl 0 rfl 3 (by decide) k1 rfl (v := .ref (b 1)) rfl dX8_code_44 ?_
      refine z_iload_n C dX8_code_47 0 rfl ?_
      refine z_iald C 1 1 (g := mC) rfl rfl (by omega) (by omega) (by decide) dX8_code_48 ?_
      refine z_ldc C (z := 65536) k2 dX8_code_49 ?_
      refine z_aload_n C dX8_code_51 1 rfl ?_
      refine z_get C hinX8 (ci := 10) rfl 0 rfl 4 (by decide) k3 rfl (v := .ref (b 2)) rfl dX8_code_52 ?_
      refine z_iload_n C dX8_code_55 0 rfl ?_
      refine z_iald C 2 1 (g := mB) rfl rfl (by omega) (by omega) (by decide) dX8_code_56 ?_
      refine z_imul C dX8_code_57 ?_
      refine z_iadd C dX8_code_58 ?_
      refine z_iret (x := ((mC ((704 * 1) + z : Int).toNat) + (65536 * (mB ((704 * 1) + z : Int).toNat)))) C dX8_code_59 () ?_ ?_ ?_ (by decide) (by decide)
      · rw [ci, if_pos rfl]; subst cd; first | rfl | (simp [b2i])
      · exact trivial
      · rw [ci, if_pos rfl]
theorem kn_X8_told : zKn yX8_told wsX8_told cX8_told 2 (some .int) 1 := ⟨⟨_, rfl⟩, by decide +kernel, by decide +kernel, by decide +kernel⟩
set_option maxHeartbeats 400000 in
set_option maxRecDepth 100000 in
theorem c_X8_told (l : Launch) (D : va_G) (cy : Nat → ClassId) (tw : Nat → Nat) (b : Nat → Nat) (kd : Int) (co : Int) (th : Int) (rw : Int) (cl : Int) (wr : Int) (po : Int) (dm : Int) (sx : Int) (aa : Int) (dk : Bool) (fi : Bool) (bb : Int) (cz : Int) (hm : Bool) (se : Nat → Bool) (da : Nat → Bool) (sa : Nat → Int) (bt : Nat → Int) (oz : Nat → Bool) (z : Int)  (hz : -2147483648 ≤ z ∧ z ≤ 2147483647) (hw : 0 ≤ wr ∧ wr ≤ 140000) : zMet l yX8_told wsX8_told { frames := 0, cells := 0, slots := 0, locals := 0 } D (zT cy) tw (MW cy b kd co th rw cl wr po dm sx aa dk fi bb cz hm se da sa bt oz) [.ref (b 0), vI z] 0 0 (S := Unit) (fun _ => some (vI (if 0 ≤ z ∧ z ≤ 6 then (if z = 0 then kd else if z = 1 then co else if z = 2 then rw else if z = 3 then cl else if z = 4 then wr / 8 else if z = 5 then po else dm) else 0))) (fun _ => MW cy b kd co (if 0 ≤ z ∧ z ≤ 6 then 0 else 1) rw cl wr po dm sx aa dk fi bb cz hm se da sa bt oz) (fun _ => True) := by
  refine z_met (cc := cX8_told) (nL := 2) (ret := some .int) (by decide +kernel) rfl (Nat.le_of_ble_eq_true rfl) (lv := [(0, .ref (b 0)), (1, vI z)]) rfl ?_
  intro V p_ e_ s_ m_ args_ below_ meth_ c_ A_ C hmn
  have hinX8 : ∀ w ∈ u_ws RX8 TX8 22, w ∈ wsX8_told := by decide +kernel
  have k0 : Cond.fieldLink RX8 44 "FaxFilterModel" "thrown" "I" ∈ wsX8_told := List.mem_of_getElem? (i := 1) rfl
  have k1 : Cond.fieldLink RX8 72 "FaxFilterModel" "damaged" "I" ∈ wsX8_told := List.mem_of_getElem? (i := 8) rfl
  have k2 : Cond.fieldLink RX8 69 "FaxFilterModel" "place" "I" ∈ wsX8_told := List.mem_of_getElem? (i := 7) rfl
  have k3 : Cond.fieldLink RX8 66 "FaxFilterModel" "written" "I" ∈ wsX8_told := List.mem_of_getElem? (i := 6) rfl
  have k4 : Cond.fieldLink RX8 63 "FaxFilterModel" "collected" "I" ∈ wsX8_told := List.mem_of_getElem? (i := 5) rfl
  have k5 : Cond.fieldLink RX8 60 "FaxFilterModel" "rows" "I" ∈ wsX8_told := List.mem_of_getElem? (i := 4) rfl
  have k6 : Cond.fieldLink RX8 37 "FaxFilterModel" "columns" "I" ∈ wsX8_told := List.mem_of_getElem? (i := 3) rfl
  have k7 : Cond.fieldLink RX8 33 "FaxFilterModel" "kind" "I" ∈ wsX8_told := List.mem_of_getElem? (i := 2) rfl
  refine z_aload_n C dX8_told_0 0 rfl ?_
  refine z_iload_n C dX8_told_1 1 rfl ?_
  refine z_if_lt C (by omega) (tgt := 11) dX8_told_2 (by decide) (fun hc_1 => ?_) (fun hc_1 => ?_)
  · refine z_iconst C (z := 1) dX8_told_11 ?_
    refine z_goto C (tgt := 16) dX8_told_12 (by decide) ?_
    refine z_put C hinX8 tyX8 tyX8_ok nmX8 (ci := 10) rfl 0 rfl 0 (by decide) k0 rfl rfl rfl rfl (Nat.le_of_ble_eq_true rfl) dX8_told_16 (ws' := MW cy b kd co 1 rw cl wr po dm sx aa dk fi bb cz hm se da sa bt oz) rfl ?_
    refine z_aload_n C dX8_told_19 0 rfl ?_
    refine z_get C hinX8 (ci := 10) rfl 0 rfl 0 (by decide) k0 rfl (v := vI 1) rfl dX8_told_20 ?_
    refine z_if_le C (by decide) (tgt := 28) dX8_told_23 (by decide) (fun hc_2 => ?_) (fun hc_2 => ?_)
    · exact absurd hc_2 (by decide)
    refine z_iconst C (z := 0) dX8_told_26 ?_
    refine z_iret (x := 0) C dX8_told_27 () ?_ ?_ ?_ (by decide) (by decide)
    · rw [if_neg (by omega)]
    · exact trivial
    · rw [if_neg (by omega)]
  · refine z_iload_n C dX8_told_5 1 rfl ?_
    refine z_bipush C (z := 6) dX8_told_6 (by decide) ?_
    refine z_icmp_le C (by omega) (by decide) (tgt := 15) dX8_told_8 (by decide) (fun hc_3 => ?_) (fun hc_3 => ?_)
    · refine z_iconst C (z := 0) dX8_told_15 ?_
      refine z_put C hinX8 tyX8 tyX8_ok nmX8 (ci := 10) rfl 0 rfl 0 (by decide) k0 rfl rfl rfl rfl (Nat.le_of_ble_eq_true rfl) dX8_told_16 (ws' := MW cy b kd co 0 rw cl wr po dm sx aa dk fi bb cz hm se da sa bt oz) rfl ?_
      refine z_aload_n C dX8_told_19 0 rfl ?_
      refine z_get C hinX8 (ci := 10) rfl 0 rfl 0 (by decide) k0 rfl (v := vI 0) rfl dX8_told_20 ?_
      refine z_if_le C (by decide) (tgt := 28) dX8_told_23 (by decide) (fun hc_4 => ?_) (fun hc_4 => ?_)
      rotate_left; · exact absurd hc_4 (by decide)
      refine z_iload_n C dX8_told_28 1 rfl ?_
      refine z_iconst C (z := 3) dX8_told_29 ?_
      refine z_icmp_ge C (by omega) (by decide) (tgt := 61) dX8_told_30 (by decide) (fun hc_5 => ?_) (fun hc_5 => ?_)
      · refine z_iload_n C dX8_told_61 1 rfl ?_
        refine z_iconst C (z := 3) dX8_told_62 ?_
        refine z_icmp_ne C (by omega) (by decide) (tgt := 73) dX8_told_63 (by decide) (fun hc_6 => ?_) (fun hc_6 => ?_)
        · refine z_iload_n C dX8_told_73 1 rfl ?_
          refine z_iconst C (z := 4) dX8_told_74 ?_
          refine z_icmp_ne C (by omega) (by decide) (tgt := 88) dX8_told_75 (by decide) (fun hc_7 => ?_) (fun hc_7 => ?_)
          · refine z_iload_n C dX8_told_88 1 rfl ?_
            refine z_iconst C (z := 5) dX8_told_89 ?_
            refine z_icmp_ne C (by omega) (by decide) (tgt := 100) dX8_told_90 (by decide) (fun hc_8 => ?_) (fun hc_8 => ?_)
            · refine z_aload_n C dX8_told_100 0 rfl ?_
              refine z_get C hinX8 (ci := 10) rfl 0 rfl 14 (by decide) k1 rfl (v := vI dm) rfl dX8_told_101 ?_
              refine z_iret (x := dm) C dX8_told_104 () ?_ ?_ ?_ (by decide) (by decide)
              · rw [if_pos (by omega)]; (repeat (first | rw [if_pos (by omega)] | rw [if_neg (by omega)]))
              · exact trivial
              · rw [if_pos (by omega)]
            · refine z_aload_n C dX8_told_93 0 rfl ?_
              refine z_get C hinX8 (ci := 10) rfl 0 rfl 13 (by decide) k2 rfl (v := vI po) rfl dX8_told_94 ?_
              refine z_goto C (tgt := 104) dX8_told_97 (by decide) ?_
              refine z_iret (x := po) C dX8_told_104 () ?_ ?_ ?_ (by decide) (by decide)
              · rw [if_pos (by omega)]; (repeat (first | rw [if_pos (by omega)] | rw [if_neg (by omega)]))
              · exact trivial
              · rw [if_pos (by omega)]
          · refine z_aload_n C dX8_told_78 0 rfl ?_
            refine z_get C hinX8 (ci := 10) rfl 0 rfl 11 (by decide) k3 rfl (v := vI wr) rfl dX8_told_79 ?_
            refine z_bipush C (z := 8) dX8_told_82 (by decide) ?_
            refine z_idiv C dX8_told_84 (by omega) (by decide) ?_
            refine z_goto C (tgt := 104) dX8_told_85 (by decide) ?_
            refine z_iret (x := (wr / 8)) C dX8_told_104 () ?_ ?_ ?_ (by decide) (by decide)
            · rw [if_pos (by omega)]; (repeat (first | rw [if_pos (by omega)] | rw [if_neg (by omega)]))
            · exact trivial
            · rw [if_pos (by omega)]
        · refine z_aload_n C dX8_told_66 0 rfl ?_
          refine z_get C hinX8 (ci := 10) rfl 0 rfl 9 (by decide) k4 rfl (v := vI cl) rfl dX8_told_67 ?_
          refine z_goto C (tgt := 104) dX8_told_70 (by decide) ?_
          refine z_iret (x := cl) C dX8_told_104 () ?_ ?_ ?_ (by decide) (by decide)
          · rw [if_pos (by omega)]; (repeat (first | rw [if_pos (by omega)] | rw [if_neg (by omega)]))
          · exact trivial
          · rw [if_pos (by omega)]
      · refine z_iload_n C dX8_told_33 1 rfl ?_
        refine z_if_ne C (by omega) (tgt := 44) dX8_told_34 (by decide) (fun hc_9 => ?_) (fun hc_9 => ?_)
        · refine z_iload_n C dX8_told_44 1 rfl ?_
          refine z_iconst C (z := 1) dX8_told_45 ?_
          refine z_icmp_ne C (by omega) (by decide) (tgt := 56) dX8_told_46 (by decide) (fun hc_10 => ?_) (fun hc_10 => ?_)
          · refine z_aload_n C dX8_told_56 0 rfl ?_
            refine z_get C hinX8 (ci := 10) rfl 0 rfl 6 (by decide) k5 rfl (v := vI rw) rfl dX8_told_57 ?_
            refine z_iret (x := rw) C dX8_told_60 () ?_ ?_ ?_ (by decide) (by decide)
            · rw [if_pos (by omega)]; (repeat (first | rw [if_pos (by omega)] | rw [if_neg (by omega)]))
            · exact trivial
            · rw [if_pos (by omega)]
          · refine z_aload_n C dX8_told_49 0 rfl ?_
            refine z_get C hinX8 (ci := 10) rfl 0 rfl 2 (by decide) k6 rfl (v := vI co) rfl dX8_told_50 ?_
            refine z_goto C (tgt := 60) dX8_told_53 (by decide) ?_
            refine z_iret (x := co) C dX8_told_60 () ?_ ?_ ?_ (by decide) (by decide)
            · rw [if_pos (by omega)]; (repeat (first | rw [if_pos (by omega)] | rw [if_neg (by omega)]))
            · exact trivial
            · rw [if_pos (by omega)]
        · refine z_aload_n C dX8_told_37 0 rfl ?_
          refine z_get C hinX8 (ci := 10) rfl 0 rfl 1 (by decide) k7 rfl (v := vI kd) rfl dX8_told_38 ?_
          refine z_goto C (tgt := 60) dX8_told_41 (by decide) ?_
          refine z_iret (x := kd) C dX8_told_60 () ?_ ?_ ?_ (by decide) (by decide)
          · rw [if_pos (by omega)]; (repeat (first | rw [if_pos (by omega)] | rw [if_neg (by omega)]))
          · exact trivial
          · rw [if_pos (by omega)]
    · refine z_iconst C (z := 1) dX8_told_11 ?_
      refine z_goto C (tgt := 16) dX8_told_12 (by decide) ?_
      refine z_put C hinX8 tyX8 tyX8_ok nmX8 (ci := 10) rfl 0 rfl 0 (by decide) k0 rfl rfl rfl rfl (Nat.le_of_ble_eq_true rfl) dX8_told_16 (ws' := MW cy b kd co 1 rw cl wr po dm sx aa dk fi bb cz hm se da sa bt oz) rfl ?_
      refine z_aload_n C dX8_told_19 0 rfl ?_
      refine z_get C hinX8 (ci := 10) rfl 0 rfl 0 (by decide) k0 rfl (v := vI 1) rfl dX8_told_20 ?_
      refine z_if_le C (by decide) (tgt := 28) dX8_told_23 (by decide) (fun hc_11 => ?_) (fun hc_11 => ?_)
      · exact absurd hc_11 (by decide)
      refine z_iconst C (z := 0) dX8_told_26 ?_
      refine z_iret (x := 0) C dX8_told_27 () ?_ ?_ ?_ (by decide) (by decide)
      · rw [if_neg (by omega)]
      · exact trivial
      · rw [if_neg (by omega)]
