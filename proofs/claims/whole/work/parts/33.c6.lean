theorem kn_X3_layTo : zKn yX3_layTo wsX3_layTo cX3_layTo 5 (none) 3 := ⟨⟨_, rfl⟩, by decide +kernel, by decide +kernel, by decide +kernel⟩
set_option maxHeartbeats 400000 in
set_option maxRecDepth 100000 in
theorem c_X3_layTo (l : Launch) (D : va_G) (cy : Nat → ClassId) (tw : Nat → Nat) (a : Nat → Nat) (kd : Int) (co : Int) (mk : Bool) (al : Bool) (dz : Bool) (rd : Bool) (rw : Int) (wo : Nat → BitVec 64) (sa : Nat → Int) (sz : Int) (ps : Int) (bt : Nat → Int) (ou : Nat → BitVec 64) (bi : Int) (dm : Int) (pl : Bool) (re : Int) (cu : Bool) (r : Int) (y : Int) (d : Bool)  (hco : 1 ≤ co ∧ co ≤ 700) (hr : 0 ≤ r ∧ r < 24) (hx : 0 ≤ re ∧ re ≤ co) (hy : 0 ≤ y ∧ y ≤ 100000000) : zMet l yX3_layTo wsX3_layTo { frames := 2, cells := 0, slots := 0, locals := 55 } D (zT cy) tw (CW cy a kd co mk al dz rd rw wo sa sz ps bt ou bi dm pl re cu) [.ref (a 8), vI r, vI y, vI (b2i d)] 0 0 (S := Unit) (fun _ => none) (fun _ => CW cy a kd co mk al dz rd rw (pnC wo co r re (mn y co) d) sa sz ps bt ou bi dm pl (mn y co) (decide (co < y) || cu)) (fun _ => True) := by
  refine z_met (cc := cX3_layTo) (nL := 5) (ret := none) (by decide +kernel) rfl (Nat.le_of_ble_eq_true rfl) (lv := [(0, .ref (a 8)), (1, vI r), (2, vI y), (3, vI (b2i d))]) rfl ?_
  intro V p_ e_ s_ m_ args_ below_ meth_ c_ A_ C hmn
  have hinX2 : ∀ w ∈ u_ws RX2 TX2 5, w ∈ wsX3_layTo := by decide +kernel
  have hinX3 : ∀ w ∈ u_ws RX3 TX3 9, w ∈ wsX3_layTo := by decide +kernel
  have k0 : Cond.fieldLink RX3 15 "FaxFilter$Receiver" "picture" "LFaxFilter$Picture;" ∈ wsX3_layTo := List.mem_of_getElem? (i := 1) rfl
  have k1 : Cond.fieldLink RX3 105 "FaxFilter$Picture" "columns" "I" ∈ wsX3_layTo := List.mem_of_getElem? (i := 2) rfl
  have k2 : Cond.methodLink RX3 136 Lib.Math.min.name ∈ wsX3_layTo := List.mem_of_getElem? (i := 4) rfl
  have k3 : Cond.static Lib.Math.min.name ∈ wsX3_layTo := List.mem_of_getElem? (i := 5) rfl
  have k4 : Cond.initialized "java/lang/Math" ∈ wsX3_layTo := List.mem_of_getElem? (i := 6) rfl
  have k5 : Cond.code Lib.Math.min.name Lib.Math.min.code 2 (some .int) ∈ wsX3_layTo := List.mem_of_getElem? (i := 7) rfl
  have k6 : Cond.fieldLink RX3 84 "FaxFilter$Receiver" "reached" "I" ∈ wsX3_layTo := List.mem_of_getElem? (i := 8) rfl
  have k7 : Cond.fieldLink RX3 87 "FaxFilter$Receiver" "isCut" "Z" ∈ wsX3_layTo := List.mem_of_getElem? (i := 3) rfl
  refine z_iload_n C dX3_layTo_0 2 rfl ?_
  refine z_aload_n C dX3_layTo_1 0 rfl ?_
  refine z_get C hinX3 (ci := 5) rfl 8 rfl 2 (by decide) k0 rfl (v := .ref (a 2)) rfl dX3_layTo_2 ?_
  refine z_get C hinX2 (ci := 4) rfl 2 rfl 0 (by decide) k1 rfl (v := vI co) rfl dX3_layTo_5 ?_
  refine z_icmp_le C (by omega) (by omega) (tgt := 16) dX3_layTo_8 (by decide) (fun hc_1 => ?_) (fun hc_1 => ?_)
  · refine z_iload_n C dX3_layTo_16 2 rfl ?_
    refine z_aload_n C dX3_layTo_17 0 rfl ?_
    refine z_get C hinX3 (ci := 5) rfl 8 rfl 2 (by decide) k0 rfl (v := .ref (a 2)) rfl dX3_layTo_18 ?_
    refine z_get C hinX2 (ci := 4) rfl 2 rfl 0 (by decide) k1 rfl (v := vI co) rfl dX3_layTo_21 ?_
    refine z_mmin C k2 k3 k4 k5 (Nat.le_of_ble_eq_true rfl) (Nat.le_of_ble_eq_true rfl) (Nat.le_of_ble_eq_true rfl) (Nat.le_of_ble_eq_true rfl) (x := y) (y := co) (by omega) (by omega) dX3_layTo_24 ?_
    refine z_istore C (lv' := [(4, vI (if co < y then co else y)), (0, .ref (a 8)), (1, vI r), (2, vI y), (3, vI (b2i d))]) dX3_layTo_27 (by decide) rfl ?_
    refine z_aload_n C dX3_layTo_29 1 rfl ?_
    refine z_get C hinX3 (ci := 5) rfl 8 rfl 2 (by decide) k0 rfl (v := .ref (a 2)) rfl dX3_layTo_30 ?_
    refine z_iload_n C dX3_layTo_33 2 rfl ?_
    refine z_aload_n C dX3_layTo_34 1 rfl ?_
    refine z_get C hinX3 (ci := 5) rfl 8 rfl 7 (by decide) k6 rfl (v := vI re) rfl dX3_layTo_35 ?_
    refine z_iload C dX3_layTo_38 0 rfl ?_
    refine z_iload_n C dX3_layTo_40 4 rfl ?_
    refine z_callV C (As := [vI r, vI re, vI (if co < y then co else y), vI (b2i d)]) (st := []) (c_X2_paint l D cy tw a kd co mk al dz rd rw wo sa sz ps bt ou bi dm pl re cu r re (if co < y then co else y) d  (by omega) (by omega) (by omega) (by split <;> omega)) gX3_layTo_X2_paint kn_X2_paint rfl ⟨rfl, rfl, Nat.le_of_ble_eq_true rfl, Nat.le_of_ble_eq_true rfl⟩ 2 rfl (ci := 4) rfl rfl (Nat.le_of_ble_eq_true rfl) ⟨Nat.le_of_ble_eq_true rfl, Nat.le_of_ble_eq_true rfl⟩ dX3_layTo_41 (fun u2 hu2 => ?_)
    clear hu2; clear u2
    show V 0 0 (CW cy a kd co mk al dz rd rw (pnC wo co r re (if co < y then co else y) d) sa sz ps bt ou bi dm pl re cu) [(4, vI (if co < y then co else y)), (0, .ref (a 8)), (1, vI r), (2, vI y), (3, vI (b2i d))] [] 44
    refine z_aload_n C dX3_layTo_44 1 rfl ?_
    refine z_iload C dX3_layTo_45 0 rfl ?_
    refine z_put C hinX3 tyX3 tyX3_ok nmX3 (ci := 5) rfl 8 rfl 7 (by decide) k6 rfl rfl rfl rfl (Nat.le_of_ble_eq_true rfl) dX3_layTo_47 (ws' := CW cy a kd co mk al dz rd rw (pnC wo co r re (if co < y then co else y) d) sa sz ps bt ou bi dm pl (if co < y then co else y) cu) rfl ?_
    refine z_vret C dX3_layTo_50 () ?_ ?_ ?_ (by decide) (by decide)
    · exact rfl
    · exact trivial
    · rw [decide_eq_false (by omega)]; rfl
  · refine z_aload_n C dX3_layTo_11 0 rfl ?_
    refine z_iconst C (z := 1) dX3_layTo_12 ?_
    refine z_put C hinX3 tyX3 tyX3_ok nmX3 (ci := 5) rfl 8 rfl 8 (by decide) k7 rfl rfl (z_narZ true).1 (z_narZ true).2 (Nat.le_of_ble_eq_true rfl) dX3_layTo_13 (ws' := CW cy a kd co mk al dz rd rw wo sa sz ps bt ou bi dm pl re true) rfl ?_
    refine z_iload_n C dX3_layTo_16 2 rfl ?_
    refine z_aload_n C dX3_layTo_17 0 rfl ?_
    refine z_get C hinX3 (ci := 5) rfl 8 rfl 2 (by decide) k0 rfl (v := .ref (a 2)) rfl dX3_layTo_18 ?_
    refine z_get C hinX2 (ci := 4) rfl 2 rfl 0 (by decide) k1 rfl (v := vI co) rfl dX3_layTo_21 ?_
    refine z_mmin C k2 k3 k4 k5 (Nat.le_of_ble_eq_true rfl) (Nat.le_of_ble_eq_true rfl) (Nat.le_of_ble_eq_true rfl) (Nat.le_of_ble_eq_true rfl) (x := y) (y := co) (by omega) (by omega) dX3_layTo_24 ?_
    refine z_istore C (lv' := [(4, vI (if co < y then co else y)), (0, .ref (a 8)), (1, vI r), (2, vI y), (3, vI (b2i d))]) dX3_layTo_27 (by decide) rfl ?_
    refine z_aload_n C dX3_layTo_29 1 rfl ?_
    refine z_get C hinX3 (ci := 5) rfl 8 rfl 2 (by decide) k0 rfl (v := .ref (a 2)) rfl dX3_layTo_30 ?_
    refine z_iload_n C dX3_layTo_33 2 rfl ?_
    refine z_aload_n C dX3_layTo_34 1 rfl ?_
    refine z_get C hinX3 (ci := 5) rfl 8 rfl 7 (by decide) k6 rfl (v := vI re) rfl dX3_layTo_35 ?_
    refine z_iload C dX3_layTo_38 0 rfl ?_
    refine z_iload_n C dX3_layTo_40 4 rfl ?_
    refine z_callV C (As := [vI r, vI re, vI (if co < y then co else y), vI (b2i d)]) (st := []) (c_X2_paint l D cy tw a kd co mk al dz rd rw wo sa sz ps bt ou bi dm pl re true r re (if co < y then co else y) d  (by omega) (by omega) (by omega) (by split <;> omega)) gX3_layTo_X2_paint kn_X2_paint rfl ⟨rfl, rfl, Nat.le_of_ble_eq_true rfl, Nat.le_of_ble_eq_true rfl⟩ 2 rfl (ci := 4) rfl rfl (Nat.le_of_ble_eq_true rfl) ⟨Nat.le_of_ble_eq_true rfl, Nat.le_of_ble_eq_true rfl⟩ dX3_layTo_41 (fun u3 hu3 => ?_)
    clear hu3; clear u3
    show V 0 0 (CW cy a kd co mk al dz rd rw (pnC wo co r re (if co < y then co else y) d) sa sz ps bt ou bi dm pl re true) [(4, vI (if co < y then co else y)), (0, .ref (a 8)), (1, vI r), (2, vI y), (3, vI (b2i d))] [] 44
    refine z_aload_n C dX3_layTo_44 1 rfl ?_
    refine z_iload C dX3_layTo_45 0 rfl ?_
    refine z_put C hinX3 tyX3 tyX3_ok nmX3 (ci := 5) rfl 8 rfl 7 (by decide) k6 rfl rfl rfl rfl (Nat.le_of_ble_eq_true rfl) dX3_layTo_47 (ws' := CW cy a kd co mk al dz rd rw (pnC wo co r re (if co < y then co else y) d) sa sz ps bt ou bi dm pl (if co < y then co else y) true) rfl ?_
    refine z_vret C dX3_layTo_50 () ?_ ?_ ?_ (by decide) (by decide)
    · exact rfl
    · exact trivial
    · rw [decide_eq_true (by omega)]; rfl
theorem kn_X3_begin : zKn yX3_begin wsX3_begin cX3_begin 1 (none) 0 := ⟨⟨_, rfl⟩, by decide +kernel, by decide +kernel, by decide +kernel⟩
set_option maxHeartbeats 400000 in
set_option maxRecDepth 100000 in
theorem c_X3_begin (l : Launch) (D : va_G) (cy : Nat → ClassId) (tw : Nat → Nat) (a : Nat → Nat) (kd : Int) (co : Int) (mk : Bool) (al : Bool) (dz : Bool) (rd : Bool) (rw : Int) (wo : Nat → BitVec 64) (sa : Nat → Int) (sz : Int) (ps : Int) (bt : Nat → Int) (ou : Nat → BitVec 64) (bi : Int) (dm : Int) (pl : Bool) (re : Int) (cu : Bool)    : zMet l yX3_begin wsX3_begin { frames := 1, cells := 0, slots := 0, locals := 20 } D (zT cy) tw (CW cy a kd co mk al dz rd rw wo sa sz ps bt ou bi dm pl re cu) [.ref (a 8)] 0 0 (S := Unit) (fun _ => none) (fun _ => CW cy a kd co mk al dz rd 0 wo sa sz 0 bt ou bi 0 pl re cu) (fun _ => True) := by
  refine z_met (cc := cX3_begin) (nL := 1) (ret := none) (by decide +kernel) rfl (Nat.le_of_ble_eq_true rfl) (lv := [(0, .ref (a 8))]) rfl ?_
  intro V p_ e_ s_ m_ args_ below_ meth_ c_ A_ C hmn
  have hinX2 : ∀ w ∈ u_ws RX2 TX2 5, w ∈ wsX3_begin := by decide +kernel
  have hinX3 : ∀ w ∈ u_ws RX3 TX3 9, w ∈ wsX3_begin := by decide +kernel
  have k0 : Cond.fieldLink RX3 26 "FaxFilter$Receiver" "in" "LFaxFilter$BitsIn;" ∈ wsX3_begin := List.mem_of_getElem? (i := 1) rfl
  have k1 : Cond.fieldLink RX3 15 "FaxFilter$Receiver" "picture" "LFaxFilter$Picture;" ∈ wsX3_begin := List.mem_of_getElem? (i := 2) rfl
  have k2 : Cond.fieldLink RX3 35 "FaxFilter$Picture" "rows" "I" ∈ wsX3_begin := List.mem_of_getElem? (i := 3) rfl
  have k3 : Cond.fieldLink RX3 41 "FaxFilter$Receiver" "damaged" "I" ∈ wsX3_begin := List.mem_of_getElem? (i := 4) rfl
  refine z_aload_n C dX3_begin_0 0 rfl ?_
  refine z_get C hinX3 (ci := 5) rfl 8 rfl 5 (by decide) k0 rfl (v := .ref (a 5)) rfl dX3_begin_1 ?_
  refine z_callV C (As := []) (st := []) (c_X0_restart l D cy tw a kd co mk al dz rd rw wo sa sz ps bt ou bi dm pl re cu   ) gX3_begin_X0_restart kn_X0_restart rfl ⟨rfl, rfl, Nat.le_of_ble_eq_true rfl, Nat.le_of_ble_eq_true rfl⟩ 5 rfl (ci := 2) rfl rfl (Nat.le_of_ble_eq_true rfl) ⟨Nat.le_of_ble_eq_true rfl, Nat.le_of_ble_eq_true rfl⟩ dX3_begin_4 (fun u1 hu1 => ?_)
  clear hu1; clear u1
  show V 0 0 (CW cy a kd co mk al dz rd rw wo sa sz 0 bt ou bi dm pl re cu) [(0, .ref (a 8))] [] 7
  refine z_aload_n C dX3_begin_7 0 rfl ?_
  refine z_get C hinX3 (ci := 5) rfl 8 rfl 2 (by decide) k1 rfl (v := .ref (a 2)) rfl dX3_begin_8 ?_
  refine z_iconst C (z := 0) dX3_begin_11 ?_
  refine z_put C hinX2 tyX2 tyX2_ok nmX2 (ci := 4) rfl 2 rfl 1 (by decide) k2 rfl rfl rfl rfl (Nat.le_of_ble_eq_true rfl) dX3_begin_12 (ws' := CW cy a kd co mk al dz rd 0 wo sa sz 0 bt ou bi dm pl re cu) rfl ?_
  refine z_aload_n C dX3_begin_15 0 rfl ?_
  refine z_iconst C (z := 0) dX3_begin_16 ?_
  refine z_put C hinX3 tyX3 tyX3_ok nmX3 (ci := 5) rfl 8 rfl 0 (by decide) k3 rfl rfl rfl rfl (Nat.le_of_ble_eq_true rfl) dX3_begin_17 (ws' := CW cy a kd co mk al dz rd 0 wo sa sz 0 bt ou bi 0 pl re cu) rfl ?_
  refine z_vret C dX3_begin_20 () ?_ ?_ ?_ (by decide) (by decide)
  · exact rfl
  · exact trivial
  · exact rfl
theorem kn_X3_plainStateWithout : zKn yX3_plainStateWithout wsX3_plainStateWithout cX3_plainStateWithout 2 (some .int) 1 := ⟨⟨_, rfl⟩, by decide +kernel, by decide +kernel, by decide +kernel⟩
set_option maxHeartbeats 400000 in
set_option maxRecDepth 100000 in
theorem c_X3_plainStateWithout (l : Launch) (D : va_G) (cy : Nat → ClassId) (tw : Nat → Nat) (a : Nat → Nat) (kd : Int) (co : Int) (mk : Bool) (al : Bool) (dz : Bool) (rd : Bool) (rw : Int) (wo : Nat → BitVec 64) (sa : Nat → Int) (sz : Int) (ps : Int) (bt : Nat → Int) (ou : Nat → BitVec 64) (bi : Int) (dm : Int) (pl : Bool) (re : Int) (cu : Bool) (x : Int)  (hk : 0 ≤ kd ∧ kd ≤ 2) (h0 : 0 ≤ sz ∧ sz ≤ 400) (h1 : 0 ≤ ps ∧ ps ≤ 8 * sz) (hx : -3 ≤ x ∧ x ≤ -1) : zMet l yX3_plainStateWithout wsX3_plainStateWithout { frames := 3, cells := 0, slots := 0, locals := 65 } D (zT cy) tw (CW cy a kd co mk al dz rd rw wo sa sz ps bt ou bi dm pl re cu) [.ref (a 8), vI x] 0 0 (S := Unit) (fun _ => some (vI (pws (inC bt sz) (8 * sz) (hasMk kd mk) x ps))) (fun _ => CW cy a kd co mk al dz rd rw wo sa sz ps bt ou bi dm pl re cu) (fun _ => True) := by
  refine z_met (cc := cX3_plainStateWithout) (nL := 2) (ret := some .int) (by decide +kernel) rfl (Nat.le_of_ble_eq_true rfl) (lv := [(0, .ref (a 8)), (1, vI x)]) rfl ?_
  intro V p_ e_ s_ m_ args_ below_ meth_ c_ A_ C hmn
  have hinX3 : ∀ w ∈ u_ws RX3 TX3 9, w ∈ wsX3_plainStateWithout := by decide +kernel
  have k0 : Cond.fieldLink RX3 9 "FaxFilter$Receiver" "settings" "LFaxFilter$Settings;" ∈ wsX3_plainStateWithout := List.mem_of_getElem? (i := 1) rfl
  have k1 : Cond.fieldLink RX3 26 "FaxFilter$Receiver" "in" "LFaxFilter$BitsIn;" ∈ wsX3_plainStateWithout := List.mem_of_getElem? (i := 2) rfl
  refine z_iload_n C dX3_plainStateWithout_0 1 rfl ?_
  refine z_iconst C (z := (-1)) dX3_plainStateWithout_1 ?_
  refine z_icmp_ne C (by omega) (by omega) (tgt := 7) dX3_plainStateWithout_2 (by decide) (fun hc_1 => ?_) (fun hc_1 => ?_)
  · refine z_iload_n C dX3_plainStateWithout_7 1 rfl ?_
    refine z_bipush C (z := (-2)) dX3_plainStateWithout_8 (by decide) ?_
    refine z_icmp_ne C (by omega) (by omega) (tgt := 54) dX3_plainStateWithout_10 (by decide) (fun hc_2 => ?_) (fun hc_2 => ?_)
    · refine z_iconst C (z := 3) dX3_plainStateWithout_54 ?_
      refine z_iret (x := 3) C dX3_plainStateWithout_55 () ?_ ?_ ?_ (by decide) (by decide)
      · rw [pws, if_neg (by omega), if_neg (fun z => by omega)]
      · exact trivial
      · exact rfl
    · refine z_aload_n C dX3_plainStateWithout_13 0 rfl ?_
      refine z_get C hinX3 (ci := 5) rfl 8 rfl 1 (by decide) k0 rfl (v := .ref (a 1)) rfl dX3_plainStateWithout_14 ?_
      refine z_callV C (As := []) (st := []) (c_X5_hasMarks l D cy tw a kd co mk al dz rd rw wo sa sz ps bt ou bi dm pl re cu   (by omega)) gX3_plainStateWithout_X5_hasMarks kn_X5_hasMarks rfl ⟨rfl, rfl, Nat.le_of_ble_eq_true rfl, Nat.le_of_ble_eq_true rfl⟩ 1 rfl (ci := 7) rfl rfl (Nat.le_of_ble_eq_true rfl) ⟨Nat.le_of_ble_eq_true rfl, Nat.le_of_ble_eq_true rfl⟩ dX3_plainStateWithout_17 (fun u3 hu3 => ?_)
      clear hu3; clear u3
      show V 0 0 (CW cy a kd co mk al dz rd rw wo sa sz ps bt ou bi dm pl re cu) [(0, .ref (a 8)), (1, vI x)] [vI (b2i (hasMk kd mk))] 20
      refine z_ifz C (tgt := 54) dX3_plainStateWithout_20 (by decide) (fun cm => ?_) (fun cm => ?_)
      · refine z_iconst C (z := 3) dX3_plainStateWithout_54 ?_
        refine z_iret (x := 3) C dX3_plainStateWithout_55 () ?_ ?_ ?_ (by decide) (by decide)
        · rw [pws, if_neg (by omega), if_neg (fun z => by rw [cm] at z; exact absurd z.2 (by decide))]
        · exact trivial
        · exact rfl
      · refine z_aload_n C dX3_plainStateWithout_23 0 rfl ?_
        refine z_get C hinX3 (ci := 5) rfl 8 rfl 5 (by decide) k1 rfl (v := .ref (a 5)) rfl dX3_plainStateWithout_24 ?_
        refine z_callV C (As := []) (st := []) (c_X0_isMarkNext l D cy tw a kd co mk al dz rd rw wo sa sz ps bt ou bi dm pl re cu   (by omega) (by omega)) gX3_plainStateWithout_X0_isMarkNext kn_X0_isMarkNext rfl ⟨rfl, rfl, Nat.le_of_ble_eq_true rfl, Nat.le_of_ble_eq_true rfl⟩ 5 rfl (ci := 2) rfl rfl (Nat.le_of_ble_eq_true rfl) ⟨Nat.le_of_ble_eq_true rfl, Nat.le_of_ble_eq_true rfl⟩ dX3_plainStateWithout_27 (fun u4 hu4 => ?_)
        clear hu4; clear u4
        show V 0 0 (CW cy a kd co mk al dz rd rw wo sa sz ps bt ou bi dm pl re cu) [(0, .ref (a 8)), (1, vI x)] [vI (b2i (isMk (inC bt sz) (8 * sz) ps))] 30
        refine z_ifz C (tgt := 35) dX3_plainStateWithout_30 (by decide) (fun ci => ?_) (fun ci => ?_)
        · refine z_aload_n C dX3_plainStateWithout_35 0 rfl ?_
          refine z_get C hinX3 (ci := 5) rfl 8 rfl 5 (by decide) k1 rfl (v := .ref (a 5)) rfl dX3_plainStateWithout_36 ?_
          refine z_callV C (As := []) (st := []) (c_X0_zeros l D cy tw a kd co mk al dz rd rw wo sa sz ps bt ou bi dm pl re cu   (by omega) (by omega)) gX3_plainStateWithout_X0_zeros kn_X0_zeros rfl ⟨rfl, rfl, Nat.le_of_ble_eq_true rfl, Nat.le_of_ble_eq_true rfl⟩ 5 rfl (ci := 2) rfl rfl (Nat.le_of_ble_eq_true rfl) ⟨Nat.le_of_ble_eq_true rfl, Nat.le_of_ble_eq_true rfl⟩ dX3_plainStateWithout_39 (fun u5 hu5 => ?_)
          clear hu5; clear u5
          show V 0 0 (CW cy a kd co mk al dz rd rw wo sa sz ps bt ou bi dm pl re cu) [(0, .ref (a 8)), (1, vI x)] [vI (zer (inC bt sz) (8 * sz) ps)] 42
          refine z_aload_n C dX3_plainStateWithout_42 0 rfl ?_
          refine z_get C hinX3 (ci := 5) rfl 8 rfl 5 (by decide) k1 rfl (v := .ref (a 5)) rfl dX3_plainStateWithout_43 ?_
          have hz := zer_rg (inC bt sz) (8 * sz) ps (by omega)
          refine z_callV C (As := []) (st := [vI (zer (inC bt sz) (8 * sz) ps)]) (c_X0_left l D cy tw a kd co mk al dz rd rw wo sa sz ps bt ou bi dm pl re cu   ) gX3_plainStateWithout_X0_left kn_X0_left rfl ⟨rfl, rfl, Nat.le_of_ble_eq_true rfl, Nat.le_of_ble_eq_true rfl⟩ 5 rfl (ci := 2) rfl rfl (Nat.le_of_ble_eq_true rfl) ⟨Nat.le_of_ble_eq_true rfl, Nat.le_of_ble_eq_true rfl⟩ dX3_plainStateWithout_46 (fun u6 hu6 => ?_)
          clear hu6; clear u6
          show V 0 0 (CW cy a kd co mk al dz rd rw wo sa sz ps bt ou bi dm pl re cu) [(0, .ref (a 8)), (1, vI x)] [vI (8 * sz - ps), vI (zer (inC bt sz) (8 * sz) ps)] 49
          refine z_icmp_ne C (by omega) (by omega) (tgt := 54) dX3_plainStateWithout_49 (by decide) (fun hc_7 => ?_) (fun hc_7 => ?_)
          · refine z_iconst C (z := 3) dX3_plainStateWithout_54 ?_
            refine z_iret (x := 3) C dX3_plainStateWithout_55 () ?_ ?_ ?_ (by decide) (by decide)
            · rw [pws, if_neg (by omega), if_pos ⟨by omega, cm⟩, ci, if_neg (by decide), if_neg (by omega)]
            · exact trivial
            · exact rfl
          · refine z_iconst C (z := (-1)) dX3_plainStateWithout_52 ?_
            refine z_iret (x := (-1)) C dX3_plainStateWithout_53 () ?_ ?_ ?_ (by decide) (by decide)
            · rw [pws, if_neg (by omega), if_pos ⟨by omega, cm⟩, ci, if_neg (by decide), if_pos (by omega)]
            · exact trivial
            · exact rfl
        · refine z_iconst C (z := 2) dX3_plainStateWithout_33 ?_
          refine z_iret (x := 2) C dX3_plainStateWithout_34 () ?_ ?_ ?_ (by decide) (by decide)
          · rw [pws, if_neg (by omega), if_pos ⟨by omega, cm⟩, if_pos ci]
          · exact trivial
          · exact rfl
  · refine z_iconst C (z := (-1)) dX3_plainStateWithout_5 ?_
    refine z_iret (x := (-1)) C dX3_plainStateWithout_6 () ?_ ?_ ?_ (by decide) (by decide)
    · rw [pws, if_pos (by omega)]
    · exact trivial
    · exact rfl
theorem kn_X3_readPlain : zKn yX3_readPlain wsX3_readPlain cX3_readPlain 5 (some .int) 1 := ⟨⟨_, rfl⟩, by decide +kernel, by decide +kernel, by decide +kernel⟩
set_option maxHeartbeats 2000000 in
set_option maxRecDepth 100000 in
theorem c_X3_readPlain (l : Launch) (D : va_G) (cy : Nat → ClassId) (tw : Nat → Nat) (a : Nat → Nat) (kd : Int) (co : Int) (mk : Bool) (al : Bool) (dz : Bool) (rd : Bool) (rw : Int) (wo : Nat → BitVec 64) (sa : Nat → Int) (sz : Int) (ps : Int) (bt : Nat → Int) (ou : Nat → BitVec 64) (bi : Int) (dm : Int) (pl : Bool) (re : Int) (cu : Bool) (r : Int) (g : Int → Bool) (hco : 1 ≤ co ∧ co ≤ 700) (hk : 0 ≤ kd ∧ kd ≤ 2) (h0 : 0 ≤ sz ∧ sz ≤ 400) (h1 : 0 ≤ ps ∧ ps ≤ 8 * sz) (hr : 0 ≤ r ∧ r < 24) (hx : 0 ≤ re ∧ re ≤ co) (hg : RowRel wo wo co r g) : zMet l yX3_readPlain wsX3_readPlain { frames := 4, cells := 0, slots := 0, locals := 86 } D (zT cy) tw (CW cy a kd co mk al dz rd rw wo sa sz ps bt ou bi dm pl re cu) [.ref (a 8), vI r] 0 0 (S := (Nat → BitVec 64) × Int × Bool) (fun _ => some (vI (rdPl (inC bt sz) (8 * sz) co (hasMk kd mk) 3201 ps re false cu g).1)) (fun u => CW cy a kd co mk al dz rd rw u.1 sa sz ((rdPl (inC bt sz) (8 * sz) co (hasMk kd mk) 3201 ps re false cu g).2.1) bt ou bi dm pl u.2.1 u.2.2) (fun u => RowRel wo u.1 co r (rdPl (inC bt sz) (8 * sz) co (hasMk kd mk) 3201 ps re false cu g).2.2) := by
  refine z_met (cc := cX3_readPlain) (nL := 5) (ret := some .int) (by decide +kernel) rfl (Nat.le_of_ble_eq_true rfl) (lv := [(0, .ref (a 8)), (1, vI r)]) rfl ?_
  intro V p_ e_ s_ m_ args_ below_ meth_ c_ A_ C hmn
  have hinX2 : ∀ w ∈ u_ws RX2 TX2 5, w ∈ wsX3_readPlain := by decide +kernel
  have hinX3 : ∀ w ∈ u_ws RX3 TX3 9, w ∈ wsX3_readPlain := by decide +kernel
  have k0 : Cond.fieldLink RX3 84 "FaxFilter$Receiver" "reached" "I" ∈ wsX3_readPlain := List.mem_of_getElem? (i := 1) rfl
  have k1 : Cond.fieldLink RX3 15 "FaxFilter$Receiver" "picture" "LFaxFilter$Picture;" ∈ wsX3_readPlain := List.mem_of_getElem? (i := 2) rfl
  have k2 : Cond.fieldLink RX3 105 "FaxFilter$Picture" "columns" "I" ∈ wsX3_readPlain := List.mem_of_getElem? (i := 3) rfl
  have k3 : Cond.fieldLink RX3 87 "FaxFilter$Receiver" "isCut" "Z" ∈ wsX3_readPlain := List.mem_of_getElem? (i := 4) rfl
  refine z_iconst C (z := 0) dX3_readPlain_0 ?_
  refine z_istore_n C (lv' := [(2, vI 0), (0, .ref (a 8)), (1, vI r)]) dX3_readPlain_1 rfl (by decide) rfl ?_
  refine z_iconst C (z := 0) dX3_readPlain_2 ?_
  refine z_istore_n C (lv' := [(3, vI 0), (2, vI 0), (0, .ref (a 8)), (1, vI r)]) dX3_readPlain_3 rfl (by decide) rfl ?_
  have J4 : ∀ (f : Nat) (d : Bool) (k : Int) (p : Int) (x : Int) (ct : Bool) (w : Nat → BitVec 64) (gg : Int → Bool), (0 ≤ k ∧ 2 * k ≤ p) → (0 ≤ p ∧ p ≤ 8 * sz) → (0 ≤ x ∧ x ≤ co) → (RowRel wo w co r gg) → (rdPl (inC bt sz) (8 * sz) co (hasMk kd mk) 3201 ps re false cu g = rdPl (inC bt sz) (8 * sz) co (hasMk kd mk) (3201 - k).toNat p x d ct gg) → (3201 - k).toNat < f → V 0 0 (CW cy a kd co mk al dz rd rw w sa sz p bt ou bi dm pl x ct) [(0, .ref (a 8)), (1, vI r), (2, vI (b2i d)), (3, vI k)] [] 4 := by
    intro f
    induction f with
    | zero => intro d k p x ct w gg i0 i1 i3 hR i2 hf; exact absurd hf (Nat.not_lt_zero _)
    | succ f ih =>
      intro d k p x ct w gg i0 i1 i3 hR i2 hf
      refine z_aload_n C dX3_readPlain_4 0 rfl ?_
      refine z_get C hinX3 (ci := 5) rfl 8 rfl 7 (by decide) k0 rfl (v := vI x) rfl dX3_readPlain_5 ?_
      refine z_aload_n C dX3_readPlain_8 0 rfl ?_
      refine z_get C hinX3 (ci := 5) rfl 8 rfl 2 (by decide) k1 rfl (v := .ref (a 2)) rfl dX3_readPlain_9 ?_
      refine z_get C hinX2 (ci := 4) rfl 2 rfl 0 (by decide) k2 rfl (v := vI co) rfl dX3_readPlain_12 ?_
      refine z_icmp_ge C (by omega) (by omega) (tgt := 73) dX3_readPlain_15 (by decide) (fun hc_1 => ?_) (fun hc_1 => ?_)
      · have i4 : rdPl (inC bt sz) (8 * sz) co (hasMk kd mk) 3201 ps re false cu g = (b2i ct, p, gg) := by
          rw [i2, rdPl_ge _ (by omega)]
        refine z_aload_n C dX3_readPlain_73 0 rfl ?_
        refine z_get C hinX3 (ci := 5) rfl 8 rfl 8 (by decide) k3 rfl (v := vI (b2i ct)) rfl dX3_readPlain_74 ?_
        refine z_ifz C (tgt := 84) dX3_readPlain_77 (by decide) (fun cc => ?_) (fun cc => ?_)
        · refine z_iconst C (z := 0) dX3_readPlain_84 ?_
          refine z_iret (x := 0) C dX3_readPlain_85 (w, x, ct) ?_ ?_ ?_ (by decide) (by decide)
          · rw [i4, cc]; rfl
          · show RowRel wo w co r _
            rw [i4]; exact hR
          · rw [i4]
        · refine z_iconst C (z := 1) dX3_readPlain_80 ?_
          refine z_goto C (tgt := 85) dX3_readPlain_81 (by decide) ?_
          refine z_iret (x := 1) C dX3_readPlain_85 (w, x, ct) ?_ ?_ ?_ (by decide) (by decide)
          · rw [i4, cc]; rfl
          · show RowRel wo w co r _
            rw [i4]; exact hR
          · rw [i4]
      · refine z_iload_n C dX3_readPlain_18 3 rfl ?_
        refine z_sipush C (z := 3200) dX3_readPlain_19 (by decide) ?_
        refine z_icmp_gt C (by omega) (by decide) (tgt := 73) dX3_readPlain_22 (by decide) (fun hc_2 => ?_) (fun hc_2 => ?_)
        · have i4 : rdPl (inC bt sz) (8 * sz) co (hasMk kd mk) 3201 ps re false cu g = (b2i ct, p, gg) := by
            rw [i2, show (3201 - k).toNat = 0 by omega, rdPl]
          refine z_aload_n C dX3_readPlain_73 0 rfl ?_
          refine z_get C hinX3 (ci := 5) rfl 8 rfl 8 (by decide) k3 rfl (v := vI (b2i ct)) rfl dX3_readPlain_74 ?_
          refine z_ifz C (tgt := 84) dX3_readPlain_77 (by decide) (fun cc => ?_) (fun cc => ?_)
          · refine z_iconst C (z := 0) dX3_readPlain_84 ?_
            refine z_iret (x := 0) C dX3_readPlain_85 (w, x, ct) ?_ ?_ ?_ (by decide) (by decide)
            · rw [i4, cc]; rfl
            · show RowRel wo w co r _
              rw [i4]; exact hR
            · rw [i4]
          · refine z_iconst C (z := 1) dX3_readPlain_80 ?_
            refine z_goto C (tgt := 85) dX3_readPlain_81 (by decide) ?_
            refine z_iret (x := 1) C dX3_readPlain_85 (w, x, ct) ?_ ?_ ?_ (by decide) (by decide)
            · rw [i4, cc]; rfl
            · show RowRel wo w co r _
              rw [i4]; exact hR
            · rw [i4]
        · refine z_aload_n C dX3_readPlain_25 0 rfl ?_
          refine z_iload_n C dX3_readPlain_26 2 rfl ?_
          refine z_callV C (As := [vI (b2i d)]) (st := []) (c_X3_readRun l D cy tw a kd co mk al dz rd rw w sa sz p bt ou bi dm pl x ct d  (by omega) (by omega)) gX3_readPlain_X3_readRun kn_X3_readRun rfl ⟨rfl, rfl, Nat.le_of_ble_eq_true rfl, Nat.le_of_ble_eq_true rfl⟩ 8 rfl (ci := 5) rfl rfl (Nat.le_of_ble_eq_true rfl) ⟨Nat.le_of_ble_eq_true rfl, Nat.le_of_ble_eq_true rfl⟩ dX3_readPlain_27 (fun u3 hu3 => ?_)
          clear hu3; clear u3
          show V 0 0 (CW cy a kd co mk al dz rd rw w sa sz ((rdRun (inC bt sz) (8 * sz) d 3201 p 0 false).2) bt ou bi dm pl x ct) [(0, .ref (a 8)), (1, vI r), (2, vI (b2i d)), (3, vI k)] [vI ((rdRun (inC bt sz) (8 * sz) d 3201 p 0 false).1)] 30
          obtain ⟨p2, ep2⟩ : ∃ z, z = ((rdRun (inC bt sz) (8 * sz) d 3201 p 0 false).2) := ⟨_, rfl⟩
          rw [← ep2]
          refine z_nmI (fun rv erv => ?_)
          refine z_istore C (lv' := [(4, vI rv), (0, .ref (a 8)), (1, vI r), (2, vI (b2i d)), (3, vI k)]) dX3_readPlain_30 (by decide) rfl ?_
          have hrr := rdRun_rg (inC bt sz) (8 * sz) d 3201 p 0 false (by omega) (by omega)
          rw [← erv, ← ep2] at hrr
          refine z_iload C dX3_readPlain_32 0 rfl ?_
          refine z_if_ge C (by omega) (tgt := 44) dX3_readPlain_34 (by decide) (fun hc_4 => ?_) (fun hc_4 => ?_)
          · have i4 : rdPl (inC bt sz) (8 * sz) co (hasMk kd mk) 3201 ps re false cu g = rdPl (inC bt sz) (8 * sz) co (hasMk kd mk) (3201 - (k + 1)).toNat p2 (mn (x + rv) co) (!d) (decide (co < x + rv) || ct) (ptg gg x (mn (x + rv) co) d) := by
              rw [i2, show (3201 - k).toNat = (3201 - (k + 1)).toNat + 1 by omega, rdPl, if_pos (by omega), ← erv, ← ep2, if_neg (by omega)]
            have hm := mn_rg (a := x + rv) (b := co) (x := 0) (by omega) (by omega)
            refine z_aload_n C dX3_readPlain_44 1 rfl ?_
            refine z_iload_n C dX3_readPlain_45 2 rfl ?_
            refine z_aload_n C dX3_readPlain_46 1 rfl ?_
            refine z_get C hinX3 (ci := 5) rfl 8 rfl 7 (by decide) k0 rfl (v := vI x) rfl dX3_readPlain_47 ?_
            refine z_iload C dX3_readPlain_50 0 rfl ?_
            refine z_iadd C dX3_readPlain_52 ?_
            refine z_iload_n C dX3_readPlain_53 3 rfl ?_
            refine z_callV C (As := [vI r, vI (x + rv), vI (b2i d)]) (st := []) (c_X3_layTo l D cy tw a kd co mk al dz rd rw w sa sz p2 bt ou bi dm pl x ct r (x + rv) d  (by omega) (by omega) (by omega) (by omega)) gX3_readPlain_X3_layTo kn_X3_layTo rfl ⟨rfl, rfl, Nat.le_of_ble_eq_true rfl, Nat.le_of_ble_eq_true rfl⟩ 8 rfl (ci := 5) rfl rfl (Nat.le_of_ble_eq_true rfl) ⟨Nat.le_of_ble_eq_true rfl, Nat.le_of_ble_eq_true rfl⟩ dX3_readPlain_54 (fun u5 hu5 => ?_)
            clear hu5; clear u5
            show V 0 0 (CW cy a kd co mk al dz rd rw (pnC w co r x (mn (x + rv) co) d) sa sz p2 bt ou bi dm pl (mn (x + rv) co) (decide (co < (x + rv)) || ct)) [(4, vI rv), (0, .ref (a 8)), (1, vI r), (2, vI (b2i d)), (3, vI k)] [] 57
            refine z_iload_n C dX3_readPlain_57 3 rfl ?_
            refine z_not C dX3_readPlain_58 dX3_readPlain_61 dX3_readPlain_62 dX3_readPlain_65 ?_
            refine z_istore_n C (lv' := [(2, vI (b2i (!d))), (4, vI rv), (0, .ref (a 8)), (1, vI r), (3, vI k)]) dX3_readPlain_66 rfl (by decide) rfl ?_
            refine z_iinc C (lv' := [(3, vI (k + 1)), (2, vI (b2i (!d))), (4, vI rv), (0, .ref (a 8)), (1, vI r)]) dX3_readPlain_67 4 rfl (by decide) rfl ?_
            refine z_goto C (tgt := 4) dX3_readPlain_70 (by decide) ?_
            refine z_lsub C [3, 4, 1, 0] rfl ?_
            exact ih (!d) (k + 1) p2 (mn (x + rv) co) (decide (co < (x + rv)) || ct) (pnC w co r x (mn (x + rv) co) d) (ptg gg x (mn (x + rv) co) d) (by omega) (by omega) (by omega) (RR_pn d hr i3.1 hm.2.1 hR) (i4) (by omega)
          · have i4 : rdPl (inC bt sz) (8 * sz) co (hasMk kd mk) 3201 ps re false cu g = (pws (inC bt sz) (8 * sz) (hasMk kd mk) rv p2, p2, gg) := by
              rw [i2, show (3201 - k).toNat = (3201 - (k + 1)).toNat + 1 by omega, rdPl, if_pos (by omega), ← erv, ← ep2, if_pos (by omega)]
            refine z_aload_n C dX3_readPlain_37 1 rfl ?_
            refine z_iload C dX3_readPlain_38 0 rfl ?_
            refine z_callV C (As := [vI rv]) (st := []) (c_X3_plainStateWithout l D cy tw a kd co mk al dz rd rw w sa sz p2 bt ou bi dm pl x ct rv  (by omega) (by omega) (by omega) (by omega)) gX3_readPlain_X3_plainStateWithout kn_X3_plainStateWithout rfl ⟨rfl, rfl, Nat.le_of_ble_eq_true rfl, Nat.le_of_ble_eq_true rfl⟩ 8 rfl (ci := 5) rfl rfl (Nat.le_of_ble_eq_true rfl) ⟨Nat.le_of_ble_eq_true rfl, Nat.le_of_ble_eq_true rfl⟩ dX3_readPlain_40 (fun u6 hu6 => ?_)
            clear hu6; clear u6
            show V 0 0 (CW cy a kd co mk al dz rd rw w sa sz p2 bt ou bi dm pl x ct) [(4, vI rv), (0, .ref (a 8)), (1, vI r), (2, vI (b2i d)), (3, vI k)] [vI (pws (inC bt sz) (8 * sz) (hasMk kd mk) rv p2)] 43
            refine z_iret (x := (pws (inC bt sz) (8 * sz) (hasMk kd mk) rv p2)) C dX3_readPlain_43 (w, x, ct) ?_ ?_ ?_ (by decide) (by decide)
            · rw [i4]
            · show RowRel wo w co r _
              rw [i4]; exact hR
            · rw [i4]
  refine z_lsub C [2, 3, 1, 0] rfl ?_
  exact J4 _ false 0 ps re cu wo g (by omega) (by omega) (by omega) (hg) (rfl) (Nat.lt_succ_self _)
theorem kn_X3_layAcross : zKn yX3_layAcross wsX3_layAcross cX3_layAcross 5 (some .int) 2 := ⟨⟨_, rfl⟩, by decide +kernel, by decide +kernel, by decide +kernel⟩
set_option maxHeartbeats 2000000 in
set_option maxRecDepth 100000 in
theorem c_X3_layAcross (l : Launch) (D : va_G) (cy : Nat → ClassId) (tw : Nat → Nat) (a : Nat → Nat) (kd : Int) (co : Int) (mk : Bool) (al : Bool) (dz : Bool) (rd : Bool) (rw : Int) (wo : Nat → BitVec 64) (sa : Nat → Int) (sz : Int) (ps : Int) (bt : Nat → Int) (ou : Nat → BitVec 64) (bi : Int) (dm : Int) (pl : Bool) (re : Int) (cu : Bool) (r : Int) (d : Bool)  (hco : 1 ≤ co ∧ co ≤ 700) (h0 : 0 ≤ sz ∧ sz ≤ 400) (h1 : 0 ≤ ps ∧ ps ≤ 8 * sz) (hr : 0 ≤ r ∧ r < 24) (hx : 0 ≤ re ∧ re ≤ co) : zMet l yX3_layAcross wsX3_layAcross { frames := 3, cells := 0, slots := 0, locals := 79 } D (zT cy) tw (CW cy a kd co mk al dz rd rw wo sa sz ps bt ou bi dm pl re cu) [.ref (a 8), vI r, vI (b2i d)] 0 0 (S := Int × Int × (Nat → BitVec 64) × Int × Bool) (fun u => some (vI u.1)) (fun u => CW cy a kd co mk al dz rd rw u.2.2.1 sa sz u.2.1 bt ou bi dm pl u.2.2.2.1 u.2.2.2.2) (fun u => ((rdRun (inC bt sz) (8 * sz) d 3201 ps 0 false).1 < 0 ∧ u = ((rdRun (inC bt sz) (8 * sz) d 3201 ps 0 false).1, (rdRun (inC bt sz) (8 * sz) d 3201 ps 0 false).2, wo, re, cu)) ∨ (¬ (rdRun (inC bt sz) (8 * sz) d 3201 ps 0 false).1 < 0 ∧ (rdRun (inC bt sz) (8 * sz) (!d) 3201 (rdRun (inC bt sz) (8 * sz) d 3201 ps 0 false).2 0 false).1 < 0 ∧ u = ((rdRun (inC bt sz) (8 * sz) (!d) 3201 (rdRun (inC bt sz) (8 * sz) d 3201 ps 0 false).2 0 false).1, (rdRun (inC bt sz) (8 * sz) (!d) 3201 (rdRun (inC bt sz) (8 * sz) d 3201 ps 0 false).2 0 false).2, pnC wo co r re (mn (re + (rdRun (inC bt sz) (8 * sz) d 3201 ps 0 false).1) co) d, mn (re + (rdRun (inC bt sz) (8 * sz) d 3201 ps 0 false).1) co, decide (co < re + (rdRun (inC bt sz) (8 * sz) d 3201 ps 0 false).1) || cu)) ∨ (¬ (rdRun (inC bt sz) (8 * sz) d 3201 ps 0 false).1 < 0 ∧ ¬ (rdRun (inC bt sz) (8 * sz) (!d) 3201 (rdRun (inC bt sz) (8 * sz) d 3201 ps 0 false).2 0 false).1 < 0 ∧ u = (0, (rdRun (inC bt sz) (8 * sz) (!d) 3201 (rdRun (inC bt sz) (8 * sz) d 3201 ps 0 false).2 0 false).2, pnC (pnC wo co r re (mn (re + (rdRun (inC bt sz) (8 * sz) d 3201 ps 0 false).1) co) d) co r (mn (re + (rdRun (inC bt sz) (8 * sz) d 3201 ps 0 false).1) co) (mn (mn (re + (rdRun (inC bt sz) (8 * sz) d 3201 ps 0 false).1) co + (rdRun (inC bt sz) (8 * sz) (!d) 3201 (rdRun (inC bt sz) (8 * sz) d 3201 ps 0 false).2 0 false).1) co) (!d), mn (mn (re + (rdRun (inC bt sz) (8 * sz) d 3201 ps 0 false).1) co + (rdRun (inC bt sz) (8 * sz) (!d) 3201 (rdRun (inC bt sz) (8 * sz) d 3201 ps 0 false).2 0 false).1) co, decide (co < mn (re + (rdRun (inC bt sz) (8 * sz) d 3201 ps 0 false).1) co + (rdRun (inC bt sz) (8 * sz) (!d) 3201 (rdRun (inC bt sz) (8 * sz) d 3201 ps 0 false).2 0 false).1) || (decide (co < re + (rdRun (inC bt sz) (8 * sz) d 3201 ps 0 false).1) || cu)))) := by
  refine z_met (cc := cX3_layAcross) (nL := 5) (ret := some .int) (by decide +kernel) rfl (Nat.le_of_ble_eq_true rfl) (lv := [(0, .ref (a 8)), (1, vI r), (2, vI (b2i d))]) rfl ?_
  intro V p_ e_ s_ m_ args_ below_ meth_ c_ A_ C hmn
  have hinX3 : ∀ w ∈ u_ws RX3 TX3 9, w ∈ wsX3_layAcross := by decide +kernel
  have k0 : Cond.fieldLink RX3 84 "FaxFilter$Receiver" "reached" "I" ∈ wsX3_layAcross := List.mem_of_getElem? (i := 1) rfl
  refine z_aload_n C dX3_layAcross_0 0 rfl ?_
  refine z_iload_n C dX3_layAcross_1 2 rfl ?_
  refine z_callV C (As := [vI (b2i d)]) (st := []) (c_X3_readRun l D cy tw a kd co mk al dz rd rw wo sa sz ps bt ou bi dm pl re cu d  (by omega) (by omega)) gX3_layAcross_X3_readRun kn_X3_readRun rfl ⟨rfl, rfl, Nat.le_of_ble_eq_true rfl, Nat.le_of_ble_eq_true rfl⟩ 8 rfl (ci := 5) rfl rfl (Nat.le_of_ble_eq_true rfl) ⟨Nat.le_of_ble_eq_true rfl, Nat.le_of_ble_eq_true rfl⟩ dX3_layAcross_2 (fun u1 hu1 => ?_)
  clear hu1; clear u1
  show V 0 0 (CW cy a kd co mk al dz rd rw wo sa sz ((rdRun (inC bt sz) (8 * sz) d 3201 ps 0 false).2) bt ou bi dm pl re cu) [(0, .ref (a 8)), (1, vI r), (2, vI (b2i d))] [vI ((rdRun (inC bt sz) (8 * sz) d 3201 ps 0 false).1)] 5
  obtain ⟨p2, ep2⟩ : ∃ z, z = ((rdRun (inC bt sz) (8 * sz) d 3201 ps 0 false).2) := ⟨_, rfl⟩
  rw [← ep2]
  refine z_nmI (fun r1 er1 => ?_)
  refine z_istore_n C (lv' := [(3, vI r1), (0, .ref (a 8)), (1, vI r), (2, vI (b2i d))]) dX3_layAcross_5 rfl (by decide) rfl ?_
  have hrr := rdRun_rg (inC bt sz) (8 * sz) d 3201 ps 0 false (by omega) (by omega)
  rw [← er1, ← ep2] at hrr
  refine z_iload_n C dX3_layAcross_6 0 rfl ?_
  refine z_if_ge C (by omega) (tgt := 12) dX3_layAcross_7 (by decide) (fun hc_2 => ?_) (fun hc_2 => ?_)
  · have hm := mn_rg (a := re + r1) (b := co) (x := 0) (by omega) (by omega)
    refine z_aload_n C dX3_layAcross_12 1 rfl ?_
    refine z_iload_n C dX3_layAcross_13 2 rfl ?_
    refine z_aload_n C dX3_layAcross_14 1 rfl ?_
    refine z_get C hinX3 (ci := 5) rfl 8 rfl 7 (by decide) k0 rfl (v := vI re) rfl dX3_layAcross_15 ?_
    refine z_iload_n C dX3_layAcross_18 0 rfl ?_
    refine z_iadd C dX3_layAcross_19 ?_
    refine z_iload_n C dX3_layAcross_20 3 rfl ?_
    refine z_callV C (As := [vI r, vI (re + r1), vI (b2i d)]) (st := []) (c_X3_layTo l D cy tw a kd co mk al dz rd rw wo sa sz p2 bt ou bi dm pl re cu r (re + r1) d  (by omega) (by omega) (by omega) (by omega)) gX3_layAcross_X3_layTo kn_X3_layTo rfl ⟨rfl, rfl, Nat.le_of_ble_eq_true rfl, Nat.le_of_ble_eq_true rfl⟩ 8 rfl (ci := 5) rfl rfl (Nat.le_of_ble_eq_true rfl) ⟨Nat.le_of_ble_eq_true rfl, Nat.le_of_ble_eq_true rfl⟩ dX3_layAcross_21 (fun u3 hu3 => ?_)
    clear hu3; clear u3
    show V 0 0 (CW cy a kd co mk al dz rd rw (pnC wo co r re (mn (re + r1) co) d) sa sz p2 bt ou bi dm pl (mn (re + r1) co) (decide (co < (re + r1)) || cu)) [(3, vI r1), (0, .ref (a 8)), (1, vI r), (2, vI (b2i d))] [] 24
    refine z_aload_n C dX3_layAcross_24 1 rfl ?_
    refine z_iload_n C dX3_layAcross_25 3 rfl ?_
    refine z_not C dX3_layAcross_26 dX3_layAcross_29 dX3_layAcross_30 dX3_layAcross_33 ?_
    refine z_callV C (As := [vI (b2i (!d))]) (st := []) (c_X3_readRun l D cy tw a kd co mk al dz rd rw (pnC wo co r re (mn (re + r1) co) d) sa sz p2 bt ou bi dm pl (mn (re + r1) co) (decide (co < (re + r1)) || cu) (!d)  (by omega) (by omega)) gX3_layAcross_X3_readRun kn_X3_readRun rfl ⟨rfl, rfl, Nat.le_of_ble_eq_true rfl, Nat.le_of_ble_eq_true rfl⟩ 8 rfl (ci := 5) rfl rfl (Nat.le_of_ble_eq_true rfl) ⟨Nat.le_of_ble_eq_true rfl, Nat.le_of_ble_eq_true rfl⟩ dX3_layAcross_34 (fun u4 hu4 => ?_)
    clear hu4; clear u4
    show V 0 0 (CW cy a kd co mk al dz rd rw (pnC wo co r re (mn (re + r1) co) d) sa sz ((rdRun (inC bt sz) (8 * sz) (!d) 3201 p2 0 false).2) bt ou bi dm pl (mn (re + r1) co) (decide (co < (re + r1)) || cu)) [(3, vI r1), (0, .ref (a 8)), (1, vI r), (2, vI (b2i d))] [vI ((rdRun (inC bt sz) (8 * sz) (!d) 3201 p2 0 false).1)] 37
    obtain ⟨p3, ep3⟩ : ∃ z, z = ((rdRun (inC bt sz) (8 * sz) (!d) 3201 p2 0 false).2) := ⟨_, rfl⟩
    rw [← ep3]
    refine z_nmI (fun r2 er2 => ?_)
    refine z_istore C (lv' := [(4, vI r2), (3, vI r1), (0, .ref (a 8)), (1, vI r), (2, vI (b2i d))]) dX3_layAcross_37 (by decide) rfl ?_
    have hrs := rdRun_rg (inC bt sz) (8 * sz) (!d) 3201 p2 0 false (by omega) (by omega)
    rw [← er2, ← ep3] at hrs
    refine z_iload C dX3_layAcross_39 0 rfl ?_
    refine z_if_ge C (by omega) (tgt := 47) dX3_layAcross_41 (by decide) (fun hc_5 => ?_) (fun hc_5 => ?_)
    · have hm2 := mn_rg (a := mn (re + r1) co + r2) (b := co) (x := 0) (by omega) (by omega)
      refine z_aload_n C dX3_layAcross_47 2 rfl ?_
      refine z_iload_n C dX3_layAcross_48 3 rfl ?_
      refine z_aload_n C dX3_layAcross_49 2 rfl ?_
      refine z_get C hinX3 (ci := 5) rfl 8 rfl 7 (by decide) k0 rfl (v := vI (mn (re + r1) co)) rfl dX3_layAcross_50 ?_
      refine z_iload C dX3_layAcross_53 0 rfl ?_
      refine z_iadd C dX3_layAcross_55 ?_
      refine z_iload_n C dX3_layAcross_56 4 rfl ?_
      refine z_not C dX3_layAcross_57 dX3_layAcross_60 dX3_layAcross_61 dX3_layAcross_64 ?_
      refine z_callV C (As := [vI r, vI ((mn (re + r1) co) + r2), vI (b2i (!d))]) (st := []) (c_X3_layTo l D cy tw a kd co mk al dz rd rw (pnC wo co r re (mn (re + r1) co) d) sa sz p3 bt ou bi dm pl (mn (re + r1) co) (decide (co < (re + r1)) || cu) r ((mn (re + r1) co) + r2) (!d)  (by omega) (by omega) (by omega) (by omega)) gX3_layAcross_X3_layTo kn_X3_layTo rfl ⟨rfl, rfl, Nat.le_of_ble_eq_true rfl, Nat.le_of_ble_eq_true rfl⟩ 8 rfl (ci := 5) rfl rfl (Nat.le_of_ble_eq_true rfl) ⟨Nat.le_of_ble_eq_true rfl, Nat.le_of_ble_eq_true rfl⟩ dX3_layAcross_65 (fun u6 hu6 => ?_)
      clear hu6; clear u6
      show V 0 0 (CW cy a kd co mk al dz rd rw (pnC (pnC wo co r re (mn (re + r1) co) d) co r (mn (re + r1) co) (mn ((mn (re + r1) co) + r2) co) (!d)) sa sz p3 bt ou bi dm pl (mn ((mn (re + r1) co) + r2) co) (decide (co < ((mn (re + r1) co) + r2)) || (decide (co < (re + r1)) || cu))) [(4, vI r2), (3, vI r1), (0, .ref (a 8)), (1, vI r), (2, vI (b2i d))] [] 68
      refine z_iconst C (z := 0) dX3_layAcross_68 ?_
      refine z_iret (x := 0) C dX3_layAcross_69 (0, p3, pnC (pnC wo co r re (mn (re + r1) co) d) co r (mn (re + r1) co) (mn ((mn (re + r1) co) + r2) co) (!d), mn ((mn (re + r1) co) + r2) co, decide (co < ((mn (re + r1) co) + r2)) || (decide (co < (re + r1)) || cu)) ?_ ?_ ?_ (by decide) (by decide)
      · exact rfl
      · rw [← er1, ← ep2, ← er2, ← ep3]; exact Or.inr (Or.inr ⟨by omega, by omega, rfl⟩)
      · exact rfl
    · refine z_iload C dX3_layAcross_44 0 rfl ?_
      refine z_iret (x := r2) C dX3_layAcross_46 (r2, p3, pnC wo co r re (mn (re + r1) co) d, mn (re + r1) co, decide (co < (re + r1)) || cu) ?_ ?_ ?_ (by decide) (by decide)
      · exact rfl
      · rw [← er1, ← ep2, ← er2, ← ep3]; exact Or.inr (Or.inl ⟨by omega, by omega, rfl⟩)
      · exact rfl
  · refine z_iload_n C dX3_layAcross_10 0 rfl ?_
    refine z_iret (x := r1) C dX3_layAcross_11 (r1, p2, wo, re, cu) ?_ ?_ ?_ (by decide) (by decide)
    · exact rfl
    · rw [← er1, ← ep2]; exact Or.inl ⟨by omega, rfl⟩
    · exact rfl
