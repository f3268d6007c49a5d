set_option maxHeartbeats 400000 in
set_option maxRecDepth 100000 in
theorem c_X7_toldX (l : Launch) (hl9 : l.stackTraces = false) (D : va_G) (cy : Nat → ClassId) (tw sr : Nat → Nat) (a : Nat → Nat) (kd : Int) (co : Int) (mk : Bool) (al : Bool) (dz : Bool) (rd : Bool) (rw : Int) (wo : Nat → BitVec 64) (sa : Nat → Int) (sz : Int) (ps : Int) (bt : Nat → Int) (ou : Nat → BitVec 64) (bi : Int) (dm : Int) (pl : Bool) (re : Int) (cu : Bool) (z : Int)  (hyz : -2147483648 ≤ z ∧ z < 2147483648) (hno : z < 0 ∨ 6 < z) : zMetX l yX7_told wsX7_told { frames := 6, cells := 1, slots := 6, locals := 82 } D (zT cy) tw sr (CW cy a kd co mk al dz rd rw wo sa sz ps bt ou bi dm pl re cu) [.ref (a 0), vI z] "java/lang/IllegalArgumentException" := by
  refine z_metX (cc := cX7_told) (nL := 2) (ret := some .int) (by decide +kernel) rfl (Nat.le_of_ble_eq_true rfl) (lv := [(0, .ref (a 0)), (1, vI z)]) rfl ?_
  intro V p_ e_ s_ m_ args_ below_ meth_ c_ A_ C X9
  have hw9 : ∀ w ∈ (vx_atS RX7 111 "java/lang/IllegalArgumentException" zxnI).filter goodWord, w ∈ wsX7_told := by decide +kernel
  have k0 : Cond.classLink RX7 107 "java/lang/IllegalArgumentException" ∈ wsX7_told := List.mem_of_getElem? (i := 1) rfl
  have k1 : Cond.initialized "java/lang/IllegalArgumentException" ∈ wsX7_told := List.mem_of_getElem? (i := 2) rfl
  refine z_iload_n C dX7_told_0 1 rfl ?_
  refine z_tabOut C (by omega) (tgt := 100) dX7_told_1 (by omega) (by decide) ?_
  exact z_throwI C hl9 X9 109 "what is told is 0 .. 6" (by decide +kernel) k0 k1 hw9 dX7_told_100 dX7_told_103 dX7_told_104 dX7_told_106 dX7_told_109 ⟨Nat.le_of_ble_eq_true rfl, Nat.le_of_ble_eq_true rfl, Nat.le_of_ble_eq_true rfl, Nat.le_of_ble_eq_true rfl⟩
set_option maxHeartbeats 400000 in
set_option maxRecDepth 100000 in
theorem c_X7_settingX (l : Launch) (hl9 : l.stackTraces = false) (D : va_G) (cy : Nat → ClassId) (tw sr : Nat → Nat) (a : Nat → Nat) (kd : Int) (co : Int) (mk : Bool) (al : Bool) (dz : Bool) (rd : Bool) (rw : Int) (wo : Nat → BitVec 64) (sa : Nat → Int) (sz : Int) (ps : Int) (bt : Nat → Int) (ou : Nat → BitVec 64) (bi : Int) (dm : Int) (pl : Bool) (re : Int) (cu : Bool) (z : Int) (d : Bool)  (hyz : -2147483648 ≤ z ∧ z < 2147483648) (hno : z < 0 ∨ 3 < z) : zMetX l yX7_setting wsX7_setting { frames := 6, cells := 1, slots := 6, locals := 82 } D (zT cy) tw sr (CW cy a kd co mk al dz rd rw wo sa sz ps bt ou bi dm pl re cu) [.ref (a 0), vI z, vI (b2i d)] "java/lang/IllegalArgumentException" := by
  refine z_metX (cc := cX7_setting) (nL := 3) (ret := none) (by decide +kernel) rfl (Nat.le_of_ble_eq_true rfl) (lv := [(0, .ref (a 0)), (1, vI z), (2, vI (b2i d))]) rfl ?_
  intro V p_ e_ s_ m_ args_ below_ meth_ c_ A_ C X9
  have hw9 : ∀ w ∈ (vx_atS RX7 111 "java/lang/IllegalArgumentException" zxnI).filter goodWord, w ∈ wsX7_setting := by decide +kernel
  have k0 : Cond.classLink RX7 107 "java/lang/IllegalArgumentException" ∈ wsX7_setting := List.mem_of_getElem? (i := 1) rfl
  have k1 : Cond.initialized "java/lang/IllegalArgumentException" ∈ wsX7_setting := List.mem_of_getElem? (i := 2) rfl
  refine z_iload_n C dX7_setting_0 1 rfl ?_
  refine z_tabOut C (by omega) (tgt := 76) dX7_setting_1 (by omega) (by decide) ?_
  exact z_throwI C hl9 X9 127 "a setting is 0 .. 3" (by decide +kernel) k0 k1 hw9 dX7_setting_76 dX7_setting_79 dX7_setting_80 dX7_setting_82 dX7_setting_85 ⟨Nat.le_of_ble_eq_true rfl, Nat.le_of_ble_eq_true rfl, Nat.le_of_ble_eq_true rfl, Nat.le_of_ble_eq_true rfl⟩
set_option maxHeartbeats 400000 in
set_option maxRecDepth 100000 in
theorem c_X7_readX (l : Launch) (hl9 : l.stackTraces = false) (D : va_G) (cy : Nat → ClassId) (tw sr : Nat → Nat) (a : Nat → Nat) (kd : Int) (co : Int) (mk : Bool) (al : Bool) (dz : Bool) (rd : Bool) (rw : Int) (wo : Nat → BitVec 64) (sa : Nat → Int) (sz : Int) (ps : Int) (bt : Nat → Int) (ou : Nat → BitVec 64) (bi : Int) (dm : Int) (pl : Bool) (re : Int) (cu : Bool) (z : Int)  (hyz : -2147483648 ≤ z ∧ z < 2147483648) (hno : z < 0 ∨ 24 < z) : zMetX l yX7_read wsX7_read { frames := 6, cells := 1, slots := 6, locals := 152 } D (zT cy) tw sr (CW cy a kd co mk al dz rd rw wo sa sz ps bt ou bi dm pl re cu) [.ref (a 0), vI z] "java/lang/IllegalArgumentException" := by
  refine z_metX (cc := cX7_read) (nL := 4) (ret := some .int) (by decide +kernel) rfl (Nat.le_of_ble_eq_true rfl) (lv := [(0, .ref (a 0)), (1, vI z)]) rfl ?_
  intro V p_ e_ s_ m_ args_ below_ meth_ c_ A_ C X9
  have hw9 : ∀ w ∈ (vx_atS RX7 111 "java/lang/IllegalArgumentException" zxnI).filter goodWord, w ∈ wsX7_read := by decide +kernel
  have k0 : Cond.classLink RX7 107 "java/lang/IllegalArgumentException" ∈ wsX7_read := List.mem_of_getElem? (i := 1) rfl
  have k1 : Cond.initialized "java/lang/IllegalArgumentException" ∈ wsX7_read := List.mem_of_getElem? (i := 2) rfl
  refine z_iload_n C dX7_read_0 1 rfl ?_
  refine z_if_lt C (by omega) (tgt := 10) dX7_read_1 (by decide) (fun hc_1 => ?_) (fun hc_1 => ?_)
  · exact z_throwI C hl9 X9 139 "rows to read are 0 .. 24" (by decide +kernel) k0 k1 hw9 dX7_read_10 dX7_read_13 dX7_read_14 dX7_read_16 dX7_read_19 ⟨Nat.le_of_ble_eq_true rfl, Nat.le_of_ble_eq_true rfl, Nat.le_of_ble_eq_true rfl, Nat.le_of_ble_eq_true rfl⟩
  · refine z_iload_n C dX7_read_4 1 rfl ?_
    refine z_bipush C (z := 24) dX7_read_5 (by decide) ?_
    refine z_icmp_le C (by omega) (by decide) (tgt := 20) dX7_read_7 (by decide) (fun hc_2 => ?_) (fun hc_2 => ?_)
    · exfalso; omega
    · exact z_throwI C hl9 X9 139 "rows to read are 0 .. 24" (by decide +kernel) k0 k1 hw9 dX7_read_10 dX7_read_13 dX7_read_14 dX7_read_16 dX7_read_19 ⟨Nat.le_of_ble_eq_true rfl, Nat.le_of_ble_eq_true rfl, Nat.le_of_ble_eq_true rfl, Nat.le_of_ble_eq_true rfl⟩
def wsX7_stateA : List Cond := wsX7_state ++ (vx_atS RX7 159 "java/lang/ArrayIndexOutOfBoundsException" zxnA).filter goodWord
theorem kn_X7_stateA : zKn yX7_state wsX7_stateA cX7_state 2 (some .int) 1 := ⟨⟨_, rfl⟩, by decide +kernel, by decide +kernel, by decide +kernel⟩
set_option maxHeartbeats 400000 in
set_option maxRecDepth 100000 in
theorem c_X7_stateX (l : Launch) (hl9 : l.stackTraces = false) (D : va_G) (cy : Nat → ClassId) (tw sr : Nat → Nat) (a : Nat → Nat) (kd : Int) (co : Int) (mk : Bool) (al : Bool) (dz : Bool) (rd : Bool) (rw : Int) (wo : Nat → BitVec 64) (sa : Nat → Int) (sz : Int) (ps : Int) (bt : Nat → Int) (ou : Nat → BitVec 64) (bi : Int) (dm : Int) (pl : Bool) (re : Int) (cu : Bool) (r : Int)  (hrw : 0 ≤ rw ∧ rw ≤ 24) (hyr : -2147483648 ≤ r ∧ r < 2147483648) (hno : ¬ (0 ≤ r ∧ r < rw)) : zMetX l yX7_state wsX7_stateA { frames := 7, cells := 1, slots := 6, locals := 95 } D (zT cy) tw sr (CW cy a kd co mk al dz rd rw wo sa sz ps bt ou bi dm pl re cu) [.ref (a 0), vI r] "java/lang/ArrayIndexOutOfBoundsException" := by
  refine z_metX (cc := cX7_state) (nL := 2) (ret := some .int) (by decide +kernel) rfl (Nat.le_of_ble_eq_true rfl) (lv := [(0, .ref (a 0)), (1, vI r)]) rfl ?_
  intro V p_ e_ s_ m_ args_ below_ meth_ c_ A_ C X9
  have hw9 : ∀ w ∈ (vx_atS RX7 159 "java/lang/ArrayIndexOutOfBoundsException" zxnA).filter goodWord, w ∈ wsX7_stateA := by decide +kernel
  have hinX7 : ∀ w ∈ u_ws RX7 TX7 8, w ∈ wsX7_stateA := by decide +kernel
  have k0 : Cond.fieldLink RX7 30 "FaxFilter" "picture" "LFaxFilter$Picture;" ∈ wsX7_stateA := List.mem_of_getElem? (i := 1) rfl
  have k1 : Cond.classLink RX7 155 "java/lang/ArrayIndexOutOfBoundsException" ∈ wsX7_stateA := List.mem_of_getElem? (i := 2) rfl
  have k2 : Cond.initialized "java/lang/ArrayIndexOutOfBoundsException" ∈ wsX7_stateA := List.mem_of_getElem? (i := 4) rfl
  refine z_aload_n C dX7_state_0 0 rfl ?_
  refine z_get C hinX7 (ci := 9) rfl 0 rfl 1 (by decide) k0 rfl (v := .ref (a 2)) rfl dX7_state_1 ?_
  refine z_iload_n C dX7_state_4 1 rfl ?_
  refine z_callV C (As := [vI r]) (st := []) (c_X2_has l D cy tw a kd co mk al dz rd rw wo sa sz ps bt ou bi dm pl re cu r  (by omega) (by omega)) (goodIn_mo (fun w hw => List.mem_append_left _ hw) gX7_state_X2_has) kn_X2_has rfl ⟨rfl, rfl, Nat.le_of_ble_eq_true rfl, Nat.le_of_ble_eq_true rfl⟩ 2 rfl (ci := 4) rfl rfl (Nat.le_of_ble_eq_true rfl) ⟨Nat.le_of_ble_eq_true rfl, Nat.le_of_ble_eq_true rfl⟩ dX7_state_5 (fun u1 hu1 => ?_)
  clear hu1; clear u1
  show V 0 0 (CW cy a kd co mk al dz rd rw wo sa sz ps bt ou bi dm pl re cu) [(0, .ref (a 0)), (1, vI r)] [vI (b2i (decide (0 ≤ r ∧ r < rw)))] 8
  refine z_ifnz C (tgt := 21) dX7_state_8 (by decide) (fun hc_2 => ?_) (fun hc_2 => ?_)
  · exfalso; exact hno (of_decide_eq_true hc_2)
  · exact z_throwA C hl9 X9 157 "no such row" (by decide +kernel) k1 k2 hw9 dX7_state_11 dX7_state_14 dX7_state_15 dX7_state_17 dX7_state_20 ⟨Nat.le_of_ble_eq_true rfl, Nat.le_of_ble_eq_true rfl, Nat.le_of_ble_eq_true rfl, Nat.le_of_ble_eq_true rfl⟩
set_option maxHeartbeats 400000 in
set_option maxRecDepth 100000 in
theorem c_X7_rowX (l : Launch) (hl9 : l.stackTraces = false) (D : va_G) (cy : Nat → ClassId) (tw sr : Nat → Nat) (a : Nat → Nat) (kd : Int) (co : Int) (mk : Bool) (al : Bool) (dz : Bool) (rd : Bool) (rw : Int) (wo : Nat → BitVec 64) (sa : Nat → Int) (sz : Int) (ps : Int) (bt : Nat → Int) (ou : Nat → BitVec 64) (bi : Int) (dm : Int) (pl : Bool) (re : Int) (cu : Bool)   (hrw : rw = 24) : zMetX l yX7_row wsX7_row { frames := 6, cells := 1, slots := 6, locals := 82 } D (zT cy) tw sr (CW cy a kd co mk al dz rd rw wo sa sz ps bt ou bi dm pl re cu) [.ref (a 0)] "java/lang/UnsupportedOperationException" := by
  refine z_metX (cc := cX7_row) (nL := 2) (ret := some .int) (by decide +kernel) rfl (Nat.le_of_ble_eq_true rfl) (lv := [(0, .ref (a 0))]) rfl ?_
  intro V p_ e_ s_ m_ args_ below_ meth_ c_ A_ C X9
  have hw9 : ∀ w ∈ (vx_atS RX7 167 "java/lang/UnsupportedOperationException" zxnU).filter goodWord, w ∈ wsX7_row := by decide +kernel
  have hinX2 : ∀ w ∈ u_ws RX2 TX2 5, w ∈ wsX7_row := by decide +kernel
  have hinX7 : ∀ w ∈ u_ws RX7 TX7 8, w ∈ wsX7_row := by decide +kernel
  have k0 : Cond.fieldLink RX7 30 "FaxFilter" "picture" "LFaxFilter$Picture;" ∈ wsX7_row := List.mem_of_getElem? (i := 3) rfl
  have k1 : Cond.fieldLink RX7 92 "FaxFilter$Picture" "rows" "I" ∈ wsX7_row := List.mem_of_getElem? (i := 4) rfl
  have k2 : Cond.classLink RX7 163 "java/lang/UnsupportedOperationException" ∈ wsX7_row := List.mem_of_getElem? (i := 1) rfl
  have k3 : Cond.initialized "java/lang/UnsupportedOperationException" ∈ wsX7_row := List.mem_of_getElem? (i := 2) rfl
  refine z_aload_n C dX7_row_0 0 rfl ?_
  refine z_get C hinX7 (ci := 9) rfl 0 rfl 1 (by decide) k0 rfl (v := .ref (a 2)) rfl dX7_row_1 ?_
  refine z_get C hinX2 (ci := 4) rfl 2 rfl 1 (by decide) k1 rfl (v := vI rw) rfl dX7_row_4 ?_
  refine z_istore_n C (lv' := [(1, vI rw), (0, .ref (a 0))]) dX7_row_7 rfl (by decide) rfl ?_
  refine z_iload_n C dX7_row_8 0 rfl ?_
  refine z_bipush C (z := 24) dX7_row_9 (by decide) ?_
  refine z_icmp_lt C (by omega) (by decide) (tgt := 24) dX7_row_11 (by decide) (fun hc_1 => ?_) (fun hc_1 => ?_)
  · exfalso; omega
  · exact z_throwU C hl9 X9 165 "there are 24 rows" (by decide +kernel) k2 k3 hw9 dX7_row_14 dX7_row_17 dX7_row_18 dX7_row_20 dX7_row_23 ⟨Nat.le_of_ble_eq_true rfl, Nat.le_of_ble_eq_true rfl, Nat.le_of_ble_eq_true rfl, Nat.le_of_ble_eq_true rfl⟩
def wsX7_putA : List Cond := wsX7_put ++ (vx_atS RX7 159 "java/lang/ArrayIndexOutOfBoundsException" zxnA).filter goodWord
theorem kn_X7_putA : zKn yX7_put wsX7_putA cX7_put 5 (none) 4 := ⟨⟨_, rfl⟩, by decide +kernel, by decide +kernel, by decide +kernel⟩
set_option maxHeartbeats 400000 in
set_option maxRecDepth 100000 in
theorem c_X7_putXA (l : Launch) (hl9 : l.stackTraces = false) (D : va_G) (cy : Nat → ClassId) (tw sr : Nat → Nat) (a : Nat → Nat) (kd : Int) (co : Int) (mk : Bool) (al : Bool) (dz : Bool) (rd : Bool) (rw : Int) (wo : Nat → BitVec 64) (sa : Nat → Int) (sz : Int) (ps : Int) (bt : Nat → Int) (ou : Nat → BitVec 64) (bi : Int) (dm : Int) (pl : Bool) (re : Int) (cu : Bool) (r : Int) (x : Int) (y : Int) (d : Bool)  (hrw : 0 ≤ rw ∧ rw ≤ 24) (hyr : -2147483648 ≤ r ∧ r < 2147483648) (hno : ¬ (0 ≤ r ∧ r < rw)) : zMetX l yX7_put wsX7_putA { frames := 7, cells := 1, slots := 6, locals := 95 } D (zT cy) tw sr (CW cy a kd co mk al dz rd rw wo sa sz ps bt ou bi dm pl re cu) [.ref (a 0), vI r, vI x, vI y, vI (b2i d)] "java/lang/ArrayIndexOutOfBoundsException" := by
  refine z_metX (cc := cX7_put) (nL := 5) (ret := none) (by decide +kernel) rfl (Nat.le_of_ble_eq_true rfl) (lv := [(0, .ref (a 0)), (1, vI r), (2, vI x), (3, vI y), (4, vI (b2i d))]) rfl ?_
  intro V p_ e_ s_ m_ args_ below_ meth_ c_ A_ C X9
  have hw9 : ∀ w ∈ (vx_atS RX7 159 "java/lang/ArrayIndexOutOfBoundsException" zxnA).filter goodWord, w ∈ wsX7_putA := by decide +kernel
  have hinX7 : ∀ w ∈ u_ws RX7 TX7 8, w ∈ wsX7_putA := by decide +kernel
  have k0 : Cond.fieldLink RX7 30 "FaxFilter" "picture" "LFaxFilter$Picture;" ∈ wsX7_putA := List.mem_of_getElem? (i := 3) rfl
  have k1 : Cond.classLink RX7 155 "java/lang/ArrayIndexOutOfBoundsException" ∈ wsX7_putA := List.mem_of_getElem? (i := 4) rfl
  have k2 : Cond.initialized "java/lang/ArrayIndexOutOfBoundsException" ∈ wsX7_putA := List.mem_of_getElem? (i := 6) rfl
  refine z_aload_n C dX7_put_0 0 rfl ?_
  refine z_get C hinX7 (ci := 9) rfl 0 rfl 1 (by decide) k0 rfl (v := .ref (a 2)) rfl dX7_put_1 ?_
  refine z_iload_n C dX7_put_4 1 rfl ?_
  refine z_callV C (As := [vI r]) (st := []) (c_X2_has l D cy tw a kd co mk al dz rd rw wo sa sz ps bt ou bi dm pl re cu r  (by omega) (by omega)) (goodIn_mo (fun w hw => List.mem_append_left _ hw) gX7_put_X2_has) kn_X2_has rfl ⟨rfl, rfl, Nat.le_of_ble_eq_true rfl, Nat.le_of_ble_eq_true rfl⟩ 2 rfl (ci := 4) rfl rfl (Nat.le_of_ble_eq_true rfl) ⟨Nat.le_of_ble_eq_true rfl, Nat.le_of_ble_eq_true rfl⟩ dX7_put_5 (fun u1 hu1 => ?_)
  clear hu1; clear u1
  show V 0 0 (CW cy a kd co mk al dz rd rw wo sa sz ps bt ou bi dm pl re cu) [(0, .ref (a 0)), (1, vI r), (2, vI x), (3, vI y), (4, vI (b2i d))] [vI (b2i (decide (0 ≤ r ∧ r < rw)))] 8
  refine z_ifnz C (tgt := 21) dX7_put_8 (by decide) (fun hc_2 => ?_) (fun hc_2 => ?_)
  · exfalso; exact hno (of_decide_eq_true hc_2)
  · exact z_throwA C hl9 X9 157 "no such row" (by decide +kernel) k1 k2 hw9 dX7_put_11 dX7_put_14 dX7_put_15 dX7_put_17 dX7_put_20 ⟨Nat.le_of_ble_eq_true rfl, Nat.le_of_ble_eq_true rfl, Nat.le_of_ble_eq_true rfl, Nat.le_of_ble_eq_true rfl⟩
set_option maxHeartbeats 400000 in
set_option maxRecDepth 100000 in
theorem c_X7_putXI (l : Launch) (hl9 : l.stackTraces = false) (D : va_G) (cy : Nat → ClassId) (tw sr : Nat → Nat) (a : Nat → Nat) (kd : Int) (co : Int) (mk : Bool) (al : Bool) (dz : Bool) (rd : Bool) (rw : Int) (wo : Nat → BitVec 64) (sa : Nat → Int) (sz : Int) (ps : Int) (bt : Nat → Int) (ou : Nat → BitVec 64) (bi : Int) (dm : Int) (pl : Bool) (re : Int) (cu : Bool) (r : Int) (x : Int) (y : Int) (d : Bool)  (hco : 1 ≤ co ∧ co ≤ 700) (hrw : 0 ≤ rw ∧ rw ≤ 24) (hyx : -2147483648 ≤ x ∧ x < 2147483648) (hyy : -2147483648 ≤ y ∧ y < 2147483648) (hin : 0 ≤ r ∧ r < rw) (hno : ¬ (0 ≤ x ∧ x < y ∧ y ≤ co)) : zMetX l yX7_put wsX7_put { frames := 6, cells := 1, slots := 6, locals := 82 } D (zT cy) tw sr (CW cy a kd co mk al dz rd rw wo sa sz ps bt ou bi dm pl re cu) [.ref (a 0), vI r, vI x, vI y, vI (b2i d)] "java/lang/IllegalArgumentException" := by
  refine z_metX (cc := cX7_put) (nL := 5) (ret := none) (by decide +kernel) rfl (Nat.le_of_ble_eq_true rfl) (lv := [(0, .ref (a 0)), (1, vI r), (2, vI x), (3, vI y), (4, vI (b2i d))]) rfl ?_
  intro V p_ e_ s_ m_ args_ below_ meth_ c_ A_ C X9
  have hw9 : ∀ w ∈ (vx_atS RX7 111 "java/lang/IllegalArgumentException" zxnI).filter goodWord, w ∈ wsX7_put := by decide +kernel
  have hinX2 : ∀ w ∈ u_ws RX2 TX2 5, w ∈ wsX7_put := by decide +kernel
  have hinX7 : ∀ w ∈ u_ws RX7 TX7 8, w ∈ wsX7_put := by decide +kernel
  have k0 : Cond.fieldLink RX7 30 "FaxFilter" "picture" "LFaxFilter$Picture;" ∈ wsX7_put := List.mem_of_getElem? (i := 3) rfl
  have k1 : Cond.classLink RX7 107 "java/lang/IllegalArgumentException" ∈ wsX7_put := List.mem_of_getElem? (i := 1) rfl
  have k2 : Cond.initialized "java/lang/IllegalArgumentException" ∈ wsX7_put := List.mem_of_getElem? (i := 2) rfl
  have k3 : Cond.fieldLink RX7 62 "FaxFilter$Picture" "columns" "I" ∈ wsX7_put := List.mem_of_getElem? (i := 7) rfl
  refine z_aload_n C dX7_put_0 0 rfl ?_
  refine z_get C hinX7 (ci := 9) rfl 0 rfl 1 (by decide) k0 rfl (v := .ref (a 2)) rfl dX7_put_1 ?_
  refine z_iload_n C dX7_put_4 1 rfl ?_
  refine z_callV C (As := [vI r]) (st := []) (c_X2_has l D cy tw a kd co mk al dz rd rw wo sa sz ps bt ou bi dm pl re cu r  (by omega) (by omega)) gX7_put_X2_has kn_X2_has rfl ⟨rfl, rfl, Nat.le_of_ble_eq_true rfl, Nat.le_of_ble_eq_true rfl⟩ 2 rfl (ci := 4) rfl rfl (Nat.le_of_ble_eq_true rfl) ⟨Nat.le_of_ble_eq_true rfl, Nat.le_of_ble_eq_true rfl⟩ dX7_put_5 (fun u1 hu1 => ?_)
  clear hu1; clear u1
  show V 0 0 (CW cy a kd co mk al dz rd rw wo sa sz ps bt ou bi dm pl re cu) [(0, .ref (a 0)), (1, vI r), (2, vI x), (3, vI y), (4, vI (b2i d))] [vI (b2i (decide (0 ≤ r ∧ r < rw)))] 8
  refine z_ifnz C (tgt := 21) dX7_put_8 (by decide) (fun hc_2 => ?_) (fun hc_2 => ?_)
  · refine z_iload_n C dX7_put_21 2 rfl ?_
    refine z_if_lt C (by omega) (tgt := 41) dX7_put_22 (by decide) (fun hc_3 => ?_) (fun hc_3 => ?_)
    · exact z_throwI C hl9 X9 174 "places are 0 <= x < to <= columns" (by decide +kernel) k1 k2 hw9 dX7_put_41 dX7_put_44 dX7_put_45 dX7_put_47 dX7_put_50 ⟨Nat.le_of_ble_eq_true rfl, Nat.le_of_ble_eq_true rfl, Nat.le_of_ble_eq_true rfl, Nat.le_of_ble_eq_true rfl⟩
    · refine z_iload_n C dX7_put_25 2 rfl ?_
      refine z_iload_n C dX7_put_26 3 rfl ?_
      refine z_icmp_ge C (by omega) (by omega) (tgt := 41) dX7_put_27 (by decide) (fun hc_4 => ?_) (fun hc_4 => ?_)
      · exact z_throwI C hl9 X9 174 "places are 0 <= x < to <= columns" (by decide +kernel) k1 k2 hw9 dX7_put_41 dX7_put_44 dX7_put_45 dX7_put_47 dX7_put_50 ⟨Nat.le_of_ble_eq_true rfl, Nat.le_of_ble_eq_true rfl, Nat.le_of_ble_eq_true rfl, Nat.le_of_ble_eq_true rfl⟩
      · refine z_iload_n C dX7_put_30 3 rfl ?_
        refine z_aload_n C dX7_put_31 0 rfl ?_
        refine z_get C hinX7 (ci := 9) rfl 0 rfl 1 (by decide) k0 rfl (v := .ref (a 2)) rfl dX7_put_32 ?_
        refine z_get C hinX2 (ci := 4) rfl 2 rfl 0 (by decide) k3 rfl (v := vI co) rfl dX7_put_35 ?_
        refine z_icmp_le C (by omega) (by omega) (tgt := 51) dX7_put_38 (by decide) (fun hc_5 => ?_) (fun hc_5 => ?_)
        · exfalso; omega
        · exact z_throwI C hl9 X9 174 "places are 0 <= x < to <= columns" (by decide +kernel) k1 k2 hw9 dX7_put_41 dX7_put_44 dX7_put_45 dX7_put_47 dX7_put_50 ⟨Nat.le_of_ble_eq_true rfl, Nat.le_of_ble_eq_true rfl, Nat.le_of_ble_eq_true rfl, Nat.le_of_ble_eq_true rfl⟩
  · exfalso; exact absurd (of_decide_eq_false hc_2) (fun y => y hin)
def wsX7_bitA : List Cond := wsX7_bit ++ (vx_atS RX7 159 "java/lang/ArrayIndexOutOfBoundsException" zxnA).filter goodWord
theorem kn_X7_bitA : zKn yX7_bit wsX7_bitA cX7_bit 3 (some .int) 2 := ⟨⟨_, rfl⟩, by decide +kernel, by decide +kernel, by decide +kernel⟩
set_option maxHeartbeats 400000 in
set_option maxRecDepth 100000 in
theorem c_X7_bitX (l : Launch) (hl9 : l.stackTraces = false) (D : va_G) (cy : Nat → ClassId) (tw sr : Nat → Nat) (a : Nat → Nat) (kd : Int) (co : Int) (mk : Bool) (al : Bool) (dz : Bool) (rd : Bool) (rw : Int) (wo : Nat → BitVec 64) (sa : Nat → Int) (sz : Int) (ps : Int) (bt : Nat → Int) (ou : Nat → BitVec 64) (bi : Int) (dm : Int) (pl : Bool) (re : Int) (cu : Bool) (r : Int) (x : Int)  (hco : 1 ≤ co ∧ co ≤ 700) (hrw : 0 ≤ rw ∧ rw ≤ 24) (hyr : -2147483648 ≤ r ∧ r < 2147483648) (hyx : -2147483648 ≤ x ∧ x < 2147483648) (hno : ¬ (0 ≤ r ∧ r < rw ∧ 0 ≤ x ∧ x < co)) : zMetX l yX7_bit wsX7_bitA { frames := 7, cells := 1, slots := 6, locals := 95 } D (zT cy) tw sr (CW cy a kd co mk al dz rd rw wo sa sz ps bt ou bi dm pl re cu) [.ref (a 0), vI r, vI x] "java/lang/ArrayIndexOutOfBoundsException" := by
  refine z_metX (cc := cX7_bit) (nL := 3) (ret := some .int) (by decide +kernel) rfl (Nat.le_of_ble_eq_true rfl) (lv := [(0, .ref (a 0)), (1, vI r), (2, vI x)]) rfl ?_
  intro V p_ e_ s_ m_ args_ below_ meth_ c_ A_ C X9
  have hw9 : ∀ w ∈ (vx_atS RX7 159 "java/lang/ArrayIndexOutOfBoundsException" zxnA).filter goodWord, w ∈ wsX7_bitA := by decide +kernel
  have hinX2 : ∀ w ∈ u_ws RX2 TX2 5, w ∈ wsX7_bitA := by decide +kernel
  have hinX7 : ∀ w ∈ u_ws RX7 TX7 8, w ∈ wsX7_bitA := by decide +kernel
  have k0 : Cond.fieldLink RX7 30 "FaxFilter" "picture" "LFaxFilter$Picture;" ∈ wsX7_bitA := List.mem_of_getElem? (i := 1) rfl
  have k1 : Cond.classLink RX7 155 "java/lang/ArrayIndexOutOfBoundsException" ∈ wsX7_bitA := List.mem_of_getElem? (i := 3) rfl
  have k2 : Cond.initialized "java/lang/ArrayIndexOutOfBoundsException" ∈ wsX7_bitA := List.mem_of_getElem? (i := 5) rfl
  have k3 : Cond.fieldLink RX7 62 "FaxFilter$Picture" "columns" "I" ∈ wsX7_bitA := List.mem_of_getElem? (i := 2) rfl
  refine z_aload_n C dX7_bit_0 0 rfl ?_
  refine z_get C hinX7 (ci := 9) rfl 0 rfl 1 (by decide) k0 rfl (v := .ref (a 2)) rfl dX7_bit_1 ?_
  refine z_iload_n C dX7_bit_4 1 rfl ?_
  refine z_callV C (As := [vI r]) (st := []) (c_X2_has l D cy tw a kd co mk al dz rd rw wo sa sz ps bt ou bi dm pl re cu r  (by omega) (by omega)) (goodIn_mo (fun w hw => List.mem_append_left _ hw) gX7_bit_X2_has) kn_X2_has rfl ⟨rfl, rfl, Nat.le_of_ble_eq_true rfl, Nat.le_of_ble_eq_true rfl⟩ 2 rfl (ci := 4) rfl rfl (Nat.le_of_ble_eq_true rfl) ⟨Nat.le_of_ble_eq_true rfl, Nat.le_of_ble_eq_true rfl⟩ dX7_bit_5 (fun u1 hu1 => ?_)
  clear hu1; clear u1
  show V 0 0 (CW cy a kd co mk al dz rd rw wo sa sz ps bt ou bi dm pl re cu) [(0, .ref (a 0)), (1, vI r), (2, vI x)] [vI (b2i (decide (0 ≤ r ∧ r < rw)))] 8
  refine z_ifz C (tgt := 26) dX7_bit_8 (by decide) (fun hc_2 => ?_) (fun hc_2 => ?_)
  · exact z_throwA C hl9 X9 183 "no such row or place" (by decide +kernel) k1 k2 hw9 dX7_bit_26 dX7_bit_29 dX7_bit_30 dX7_bit_32 dX7_bit_35 ⟨Nat.le_of_ble_eq_true rfl, Nat.le_of_ble_eq_true rfl, Nat.le_of_ble_eq_true rfl, Nat.le_of_ble_eq_true rfl⟩
  · have hi9 := of_decide_eq_true hc_2
    refine z_iload_n C dX7_bit_11 2 rfl ?_
    refine z_if_lt C (by omega) (tgt := 26) dX7_bit_12 (by decide) (fun hc_3 => ?_) (fun hc_3 => ?_)
    · exact z_throwA C hl9 X9 183 "no such row or place" (by decide +kernel) k1 k2 hw9 dX7_bit_26 dX7_bit_29 dX7_bit_30 dX7_bit_32 dX7_bit_35 ⟨Nat.le_of_ble_eq_true rfl, Nat.le_of_ble_eq_true rfl, Nat.le_of_ble_eq_true rfl, Nat.le_of_ble_eq_true rfl⟩
    · refine z_iload_n C dX7_bit_15 2 rfl ?_
      refine z_aload_n C dX7_bit_16 0 rfl ?_
      refine z_get C hinX7 (ci := 9) rfl 0 rfl 1 (by decide) k0 rfl (v := .ref (a 2)) rfl dX7_bit_17 ?_
      refine z_get C hinX2 (ci := 4) rfl 2 rfl 0 (by decide) k3 rfl (v := vI co) rfl dX7_bit_20 ?_
      refine z_icmp_lt C (by omega) (by omega) (tgt := 36) dX7_bit_23 (by decide) (fun hc_4 => ?_) (fun hc_4 => ?_)
      · exfalso; omega
      · exact z_throwA C hl9 X9 183 "no such row or place" (by decide +kernel) k1 k2 hw9 dX7_bit_26 dX7_bit_29 dX7_bit_30 dX7_bit_32 dX7_bit_35 ⟨Nat.le_of_ble_eq_true rfl, Nat.le_of_ble_eq_true rfl, Nat.le_of_ble_eq_true rfl, Nat.le_of_ble_eq_true rfl⟩
def wsX7_runA : List Cond := wsX7_run ++ (vx_atS RX7 159 "java/lang/ArrayIndexOutOfBoundsException" zxnA).filter goodWord
theorem kn_X7_runA : zKn yX7_run wsX7_runA cX7_run 4 (some .int) 2 := ⟨⟨_, rfl⟩, by decide +kernel, by decide +kernel, by decide +kernel⟩
set_option maxHeartbeats 400000 in
set_option maxRecDepth 100000 in
theorem c_X7_runX (l : Launch) (hl9 : l.stackTraces = false) (D : va_G) (cy : Nat → ClassId) (tw sr : Nat → Nat) (a : Nat → Nat) (kd : Int) (co : Int) (mk : Bool) (al : Bool) (dz : Bool) (rd : Bool) (rw : Int) (wo : Nat → BitVec 64) (sa : Nat → Int) (sz : Int) (ps : Int) (bt : Nat → Int) (ou : Nat → BitVec 64) (bi : Int) (dm : Int) (pl : Bool) (re : Int) (cu : Bool) (r : Int) (i : Int)  (hco : 1 ≤ co ∧ co ≤ 700) (hrw : 0 ≤ rw ∧ rw ≤ 24) (hyr : -2147483648 ≤ r ∧ r < 2147483648) (hyi : -2147483648 ≤ i ∧ i < 2147483648) (hno : ¬ (0 ≤ r ∧ r < rw) ∨ (-2147483648 ≤ lrun (px wo co r) co i (co + 1).toNat 0 0 false ∧ lrun (px wo co r) co i (co + 1).toNat 0 0 false < 0)) : zMetX l yX7_run wsX7_runA { frames := 7, cells := 1, slots := 6, locals := 101 } D (zT cy) tw sr (CW cy a kd co mk al dz rd rw wo sa sz ps bt ou bi dm pl re cu) [.ref (a 0), vI r, vI i] "java/lang/ArrayIndexOutOfBoundsException" := by
  refine z_metX (cc := cX7_run) (nL := 4) (ret := some .int) (by decide +kernel) rfl (Nat.le_of_ble_eq_true rfl) (lv := [(0, .ref (a 0)), (1, vI r), (2, vI i)]) rfl ?_
  intro V p_ e_ s_ m_ args_ below_ meth_ c_ A_ C X9
  have hw9 : ∀ w ∈ (vx_atS RX7 159 "java/lang/ArrayIndexOutOfBoundsException" zxnA).filter goodWord, w ∈ wsX7_runA := by decide +kernel
  have hinX7 : ∀ w ∈ u_ws RX7 TX7 8, w ∈ wsX7_runA := by decide +kernel
  have k0 : Cond.fieldLink RX7 30 "FaxFilter" "picture" "LFaxFilter$Picture;" ∈ wsX7_runA := List.mem_of_getElem? (i := 1) rfl
  have k1 : Cond.classLink RX7 155 "java/lang/ArrayIndexOutOfBoundsException" ∈ wsX7_runA := List.mem_of_getElem? (i := 2) rfl
  have k2 : Cond.initialized "java/lang/ArrayIndexOutOfBoundsException" ∈ wsX7_runA := List.mem_of_getElem? (i := 4) rfl
  refine z_aload_n C dX7_run_0 0 rfl ?_
  refine z_get C hinX7 (ci := 9) rfl 0 rfl 1 (by decide) k0 rfl (v := .ref (a 2)) rfl dX7_run_1 ?_
  refine z_iload_n C dX7_run_4 1 rfl ?_
  refine z_callV C (As := [vI r]) (st := []) (c_X2_has l D cy tw a kd co mk al dz rd rw wo sa sz ps bt ou bi dm pl re cu r  (by omega) (by omega)) (goodIn_mo (fun w hw => List.mem_append_left _ hw) gX7_run_X2_has) kn_X2_has rfl ⟨rfl, rfl, Nat.le_of_ble_eq_true rfl, Nat.le_of_ble_eq_true rfl⟩ 2 rfl (ci := 4) rfl rfl (Nat.le_of_ble_eq_true rfl) ⟨Nat.le_of_ble_eq_true rfl, Nat.le_of_ble_eq_true rfl⟩ dX7_run_5 (fun u1 hu1 => ?_)
  clear hu1; clear u1
  show V 0 0 (CW cy a kd co mk al dz rd rw wo sa sz ps bt ou bi dm pl re cu) [(0, .ref (a 0)), (1, vI r), (2, vI i)] [vI (b2i (decide (0 ≤ r ∧ r < rw)))] 8
  refine z_ifz C (tgt := 23) dX7_run_8 (by decide) (fun hc_2 => ?_) (fun hc_2 => ?_)
  · have hi9 := of_decide_eq_false hc_2
    refine z_bipush C (z := (-2)) dX7_run_23 (by decide) ?_
    refine z_nmI (fun lv9 elv9 => ?_)
    refine z_istore_n C (lv' := [(3, vI lv9), (0, .ref (a 0)), (1, vI r), (2, vI i)]) dX7_run_25 rfl (by decide) rfl ?_
    refine z_iload_n C dX7_run_26 0 rfl ?_
    refine z_if_ge C (by omega) (tgt := 40) dX7_run_27 (by decide) (fun hc_3 => ?_) (fun hc_3 => ?_)
    · exfalso; omega
    · exact z_throwA C hl9 X9 192 "no such row or run" (by decide +kernel) k1 k2 hw9 dX7_run_30 dX7_run_33 dX7_run_34 dX7_run_36 dX7_run_39 ⟨Nat.le_of_ble_eq_true rfl, Nat.le_of_ble_eq_true rfl, Nat.le_of_ble_eq_true rfl, Nat.le_of_ble_eq_true rfl⟩
  · have hi9 := of_decide_eq_true hc_2
    refine z_aload_n C dX7_run_11 0 rfl ?_
    refine z_get C hinX7 (ci := 9) rfl 0 rfl 1 (by decide) k0 rfl (v := .ref (a 2)) rfl dX7_run_12 ?_
    refine z_iload_n C dX7_run_15 1 rfl ?_
    refine z_iload_n C dX7_run_16 2 rfl ?_
    refine z_callV C (As := [vI r, vI i]) (st := []) (c_X2_lengthOfRun l D cy tw a kd co mk al dz rd rw wo sa sz ps bt ou bi dm pl re cu r i  (by omega) (by omega) (by omega)) (goodIn_mo (fun w hw => List.mem_append_left _ hw) gX7_run_X2_lengthOfRun) kn_X2_lengthOfRun rfl ⟨rfl, rfl, Nat.le_of_ble_eq_true rfl, Nat.le_of_ble_eq_true rfl⟩ 2 rfl (ci := 4) rfl rfl (Nat.le_of_ble_eq_true rfl) ⟨Nat.le_of_ble_eq_true rfl, Nat.le_of_ble_eq_true rfl⟩ dX7_run_17 (fun u4 hu4 => ?_)
    clear hu4; clear u4
    show V 0 0 (CW cy a kd co mk al dz rd rw wo sa sz ps bt ou bi dm pl re cu) [(0, .ref (a 0)), (1, vI r), (2, vI i)] [vI (lrun (px wo co r) co i (co + 1).toNat 0 0 false)] 20
    refine z_goto C (tgt := 25) dX7_run_20 (by decide) ?_
    refine z_nmI (fun lv9 elv9 => ?_)
    refine z_istore_n C (lv' := [(3, vI lv9), (0, .ref (a 0)), (1, vI r), (2, vI i)]) dX7_run_25 rfl (by decide) rfl ?_
    refine z_iload_n C dX7_run_26 0 rfl ?_
    refine z_if_ge C (by omega) (tgt := 40) dX7_run_27 (by decide) (fun hc_5 => ?_) (fun hc_5 => ?_)
    · exfalso; omega
    · exact z_throwA C hl9 X9 192 "no such row or run" (by decide +kernel) k1 k2 hw9 dX7_run_30 dX7_run_33 dX7_run_34 dX7_run_36 dX7_run_39 ⟨Nat.le_of_ble_eq_true rfl, Nat.le_of_ble_eq_true rfl, Nat.le_of_ble_eq_true rfl, Nat.le_of_ble_eq_true rfl⟩
def wsX7_runsA : List Cond := wsX7_runs ++ (vx_atS RX7 159 "java/lang/ArrayIndexOutOfBoundsException" zxnA).filter goodWord
theorem kn_X7_runsA : zKn yX7_runs wsX7_runsA cX7_runs 2 (some .int) 1 := ⟨⟨_, rfl⟩, by decide +kernel, by decide +kernel, by decide +kernel⟩
set_option maxHeartbeats 400000 in
set_option maxRecDepth 100000 in
theorem c_X7_runsX (l : Launch) (hl9 : l.stackTraces = false) (D : va_G) (cy : Nat → ClassId) (tw sr : Nat → Nat) (a : Nat → Nat) (kd : Int) (co : Int) (mk : Bool) (al : Bool) (dz : Bool) (rd : Bool) (rw : Int) (wo : Nat → BitVec 64) (sa : Nat → Int) (sz : Int) (ps : Int) (bt : Nat → Int) (ou : Nat → BitVec 64) (bi : Int) (dm : Int) (pl : Bool) (re : Int) (cu : Bool) (r : Int)  (hrw : 0 ≤ rw ∧ rw ≤ 24) (hyr : -2147483648 ≤ r ∧ r < 2147483648) (hno : ¬ (0 ≤ r ∧ r < rw)) : zMetX l yX7_runs wsX7_runsA { frames := 7, cells := 1, slots := 6, locals := 99 } D (zT cy) tw sr (CW cy a kd co mk al dz rd rw wo sa sz ps bt ou bi dm pl re cu) [.ref (a 0), vI r] "java/lang/ArrayIndexOutOfBoundsException" := by
  refine z_metX (cc := cX7_runs) (nL := 2) (ret := some .int) (by decide +kernel) rfl (Nat.le_of_ble_eq_true rfl) (lv := [(0, .ref (a 0)), (1, vI r)]) rfl ?_
  intro V p_ e_ s_ m_ args_ below_ meth_ c_ A_ C X9
  have hw9 : ∀ w ∈ (vx_atS RX7 159 "java/lang/ArrayIndexOutOfBoundsException" zxnA).filter goodWord, w ∈ wsX7_runsA := by decide +kernel
  have hinX7 : ∀ w ∈ u_ws RX7 TX7 8, w ∈ wsX7_runsA := by decide +kernel
  have k0 : Cond.fieldLink RX7 30 "FaxFilter" "picture" "LFaxFilter$Picture;" ∈ wsX7_runsA := List.mem_of_getElem? (i := 1) rfl
  have k1 : Cond.classLink RX7 155 "java/lang/ArrayIndexOutOfBoundsException" ∈ wsX7_runsA := List.mem_of_getElem? (i := 2) rfl
  have k2 : Cond.initialized "java/lang/ArrayIndexOutOfBoundsException" ∈ wsX7_runsA := List.mem_of_getElem? (i := 4) rfl
  refine z_aload_n C dX7_runs_0 0 rfl ?_
  refine z_get C hinX7 (ci := 9) rfl 0 rfl 1 (by decide) k0 rfl (v := .ref (a 2)) rfl dX7_runs_1 ?_
  refine z_iload_n C dX7_runs_4 1 rfl ?_
  refine z_callV C (As := [vI r]) (st := []) (c_X2_has l D cy tw a kd co mk al dz rd rw wo sa sz ps bt ou bi dm pl re cu r  (by omega) (by omega)) (goodIn_mo (fun w hw => List.mem_append_left _ hw) gX7_runs_X2_has) kn_X2_has rfl ⟨rfl, rfl, Nat.le_of_ble_eq_true rfl, Nat.le_of_ble_eq_true rfl⟩ 2 rfl (ci := 4) rfl rfl (Nat.le_of_ble_eq_true rfl) ⟨Nat.le_of_ble_eq_true rfl, Nat.le_of_ble_eq_true rfl⟩ dX7_runs_5 (fun u1 hu1 => ?_)
  clear hu1; clear u1
  show V 0 0 (CW cy a kd co mk al dz rd rw wo sa sz ps bt ou bi dm pl re cu) [(0, .ref (a 0)), (1, vI r)] [vI (b2i (decide (0 ≤ r ∧ r < rw)))] 8
  refine z_ifnz C (tgt := 21) dX7_runs_8 (by decide) (fun hc_2 => ?_) (fun hc_2 => ?_)
  · exfalso; exact hno (of_decide_eq_true hc_2)
  · exact z_throwA C hl9 X9 157 "no such row" (by decide +kernel) k1 k2 hw9 dX7_runs_11 dX7_runs_14 dX7_runs_15 dX7_runs_17 dX7_runs_20 ⟨Nat.le_of_ble_eq_true rfl, Nat.le_of_ble_eq_true rfl, Nat.le_of_ble_eq_true rfl, Nat.le_of_ble_eq_true rfl⟩
def wsX7_octetA : List Cond := wsX7_octet ++ (vx_atS RX7 159 "java/lang/ArrayIndexOutOfBoundsException" zxnA).filter goodWord
theorem kn_X7_octetA : zKn yX7_octet wsX7_octetA cX7_octet 2 (some .int) 1 := ⟨⟨_, rfl⟩, by decide +kernel, by decide +kernel, by decide +kernel⟩
set_option maxHeartbeats 400000 in
set_option maxRecDepth 100000 in
theorem c_X7_octetX (l : Launch) (hl9 : l.stackTraces = false) (D : va_G) (cy : Nat → ClassId) (tw sr : Nat → Nat) (a : Nat → Nat) (kd : Int) (co : Int) (mk : Bool) (al : Bool) (dz : Bool) (rd : Bool) (rw : Int) (wo : Nat → BitVec 64) (sa : Nat → Int) (sz : Int) (ps : Int) (bt : Nat → Int) (ou : Nat → BitVec 64) (bi : Int) (dm : Int) (pl : Bool) (re : Int) (cu : Bool) (i : Int)  (hyi : -2147483648 ≤ i ∧ i < 2147483648) (h0 : 0 ≤ bi ∧ bi ≤ 200000) (hno : i < 0 ∨ (bi + 7) / 8 ≤ i) : zMetX l yX7_octet wsX7_octetA { frames := 7, cells := 1, slots := 6, locals := 95 } D (zT cy) tw sr (CW cy a kd co mk al dz rd rw wo sa sz ps bt ou bi dm pl re cu) [.ref (a 0), vI i] "java/lang/ArrayIndexOutOfBoundsException" := by
  refine z_metX (cc := cX7_octet) (nL := 2) (ret := some .int) (by decide +kernel) rfl (Nat.le_of_ble_eq_true rfl) (lv := [(0, .ref (a 0)), (1, vI i)]) rfl ?_
  intro V p_ e_ s_ m_ args_ below_ meth_ c_ A_ C X9
  have hw9 : ∀ w ∈ (vx_atS RX7 159 "java/lang/ArrayIndexOutOfBoundsException" zxnA).filter goodWord, w ∈ wsX7_octetA := by decide +kernel
  have hinX7 : ∀ w ∈ u_ws RX7 TX7 8, w ∈ wsX7_octetA := by decide +kernel
  have k0 : Cond.classLink RX7 155 "java/lang/ArrayIndexOutOfBoundsException" ∈ wsX7_octetA := List.mem_of_getElem? (i := 2) rfl
  have k1 : Cond.initialized "java/lang/ArrayIndexOutOfBoundsException" ∈ wsX7_octetA := List.mem_of_getElem? (i := 4) rfl
  have k2 : Cond.fieldLink RX7 67 "FaxFilter" "written" "LFaxFilter$BitsOut;" ∈ wsX7_octetA := List.mem_of_getElem? (i := 1) rfl
  refine z_iload_n C dX7_octet_0 1 rfl ?_
  refine z_if_lt C (by omega) (tgt := 15) dX7_octet_1 (by decide) (fun hc_1 => ?_) (fun hc_1 => ?_)
  · exact z_throwA C hl9 X9 200 "no such byte" (by decide +kernel) k0 k1 hw9 dX7_octet_15 dX7_octet_18 dX7_octet_19 dX7_octet_21 dX7_octet_24 ⟨Nat.le_of_ble_eq_true rfl, Nat.le_of_ble_eq_true rfl, Nat.le_of_ble_eq_true rfl, Nat.le_of_ble_eq_true rfl⟩
  · refine z_iload_n C dX7_octet_4 1 rfl ?_
    refine z_aload_n C dX7_octet_5 0 rfl ?_
    refine z_get C hinX7 (ci := 9) rfl 0 rfl 5 (by decide) k2 rfl (v := .ref (a 6)) rfl dX7_octet_6 ?_
    refine z_callV C (As := []) (st := [vI i]) (c_X1_size l D cy tw a kd co mk al dz rd rw wo sa sz ps bt ou bi dm pl re cu   (by omega)) (goodIn_mo (fun w hw => List.mem_append_left _ hw) gX7_octet_X1_size) kn_X1_size rfl ⟨rfl, rfl, Nat.le_of_ble_eq_true rfl, Nat.le_of_ble_eq_true rfl⟩ 6 rfl (ci := 3) rfl rfl (Nat.le_of_ble_eq_true rfl) ⟨Nat.le_of_ble_eq_true rfl, Nat.le_of_ble_eq_true rfl⟩ dX7_octet_9 (fun u2 hu2 => ?_)
    clear hu2; clear u2
    show V 0 0 (CW cy a kd co mk al dz rd rw wo sa sz ps bt ou bi dm pl re cu) [(0, .ref (a 0)), (1, vI i)] [vI ((bi + 7) / 8), vI i] 12
    refine z_icmp_lt C (by omega) (by omega) (tgt := 25) dX7_octet_12 (by decide) (fun hc_3 => ?_) (fun hc_3 => ?_)
    · exfalso; omega
    · exact z_throwA C hl9 X9 200 "no such byte" (by decide +kernel) k0 k1 hw9 dX7_octet_15 dX7_octet_18 dX7_octet_19 dX7_octet_21 dX7_octet_24 ⟨Nat.le_of_ble_eq_true rfl, Nat.le_of_ble_eq_true rfl, Nat.le_of_ble_eq_true rfl, Nat.le_of_ble_eq_true rfl⟩
set_option maxHeartbeats 400000 in
set_option maxRecDepth 100000 in
theorem c_X7_codeX (l : Launch) (hl9 : l.stackTraces = false) (D : va_G) (cy : Nat → ClassId) (tw sr : Nat → Nat) (a : Nat → Nat) (kd : Int) (co : Int) (mk : Bool) (al : Bool) (dz : Bool) (rd : Bool) (rw : Int) (wo : Nat → BitVec 64) (sa : Nat → Int) (sz : Int) (ps : Int) (bt : Nat → Int) (ou : Nat → BitVec 64) (bi : Int) (dm : Int) (pl : Bool) (re : Int) (cu : Bool) (d : Bool) (z : Int)  (hyz : -2147483648 ≤ z ∧ z < 2147483648) (hno : -10 ≤ sltC z ∧ sltC z < 0) : zMetX l yX7_code wsX7_code { frames := 6, cells := 1, slots := 6, locals := 82 } D (zT cy) tw sr (CW cy a kd co mk al dz rd rw wo sa sz ps bt ou bi dm pl re cu) [.ref (a 0), vI (b2i d), vI z] "java/lang/IllegalArgumentException" := by
  refine z_metX (cc := cX7_code) (nL := 5) (ret := some .int) (by decide +kernel) rfl (Nat.le_of_ble_eq_true rfl) (lv := [(0, .ref (a 0)), (1, vI (b2i d)), (2, vI z)]) rfl ?_
  intro V p_ e_ s_ m_ args_ below_ meth_ c_ A_ C X9
  have hw9 : ∀ w ∈ (vx_atS RX7 111 "java/lang/IllegalArgumentException" zxnI).filter goodWord, w ∈ wsX7_code := by decide +kernel
  have k0 : Cond.classLink RX7 107 "java/lang/IllegalArgumentException" ∈ wsX7_code := List.mem_of_getElem? (i := 1) rfl
  have k1 : Cond.initialized "java/lang/IllegalArgumentException" ∈ wsX7_code := List.mem_of_getElem? (i := 2) rfl
  refine z_iload_n C dX7_code_0 2 rfl ?_
  refine z_callS C (As := [vI z]) (st := []) (c_X6_slotOf l D cy tw a kd co mk al dz rd rw wo sa sz ps bt ou bi dm pl re cu z  (by omega)) gX7_code_X6_slotOf kn_X6_slotOf ⟨rfl, rfl, Nat.le_of_ble_eq_true rfl, Nat.le_of_ble_eq_true rfl⟩ rfl (Nat.le_of_ble_eq_true rfl) ⟨Nat.le_of_ble_eq_true rfl, Nat.le_of_ble_eq_true rfl⟩ dX7_code_1 (fun u1 hu1 => ?_)
  clear hu1; clear u1
  show V 0 0 (CW cy a kd co mk al dz rd rw wo sa sz ps bt ou bi dm pl re cu) [(0, .ref (a 0)), (1, vI (b2i d)), (2, vI z)] [vI (sltC z)] 4
  refine z_istore_n C (lv' := [(3, vI (sltC z)), (0, .ref (a 0)), (1, vI (b2i d)), (2, vI z)]) dX7_code_4 rfl (by decide) rfl ?_
  refine z_iload_n C dX7_code_5 0 rfl ?_
  refine z_if_ge C (by omega) (tgt := 19) dX7_code_6 (by decide) (fun hc_2 => ?_) (fun hc_2 => ?_)
  · exfalso; omega
  · exact z_throwI C hl9 X9 205 "a code is of 0 .. 63, or of 64, 128, .. 640" (by decide +kernel) k0 k1 hw9 dX7_code_9 dX7_code_12 dX7_code_13 dX7_code_15 dX7_code_18 ⟨Nat.le_of_ble_eq_true rfl, Nat.le_of_ble_eq_true rfl, Nat.le_of_ble_eq_true rfl, Nat.le_of_ble_eq_true rfl⟩
