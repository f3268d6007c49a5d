theorem kn_X7_told : zKn yX7_told wsX7_told cX7_told 2 (some .int) 1 := ⟨⟨_, rfl⟩, by decide +kernel, by decide +kernel, by decide +kernel⟩
set_option maxHeartbeats 400000 in
set_option maxRecDepth 100000 in
theorem c_X7_told (l : Launch) (D : va_G) (cy : Nat → ClassId) (tw : Nat → Nat) (a : Nat → Nat) (kd : Int) (co : Int) (mk : Bool) (al : Bool) (dz : Bool) (rd : Bool) (rw : Int) (wo : Nat → BitVec 64) (sa : Nat → Int) (sz : Int) (ps : Int) (bt : Nat → Int) (ou : Nat → BitVec 64) (bi : Int) (dm : Int) (pl : Bool) (re : Int) (cu : Bool) (z : Int)  (hz : 0 ≤ z ∧ z ≤ 6) (h0 : 0 ≤ bi ∧ bi ≤ 200000) : zMet l yX7_told wsX7_told { frames := 1, cells := 0, slots := 0, locals := 20 } D (zT cy) tw (CW cy a kd co mk al dz rd rw wo sa sz ps bt ou bi dm pl re cu) [.ref (a 0), vI z] 0 0 (S := Unit) (fun _ => some (vI (if z = 0 then kd else if z = 1 then co else if z = 2 then rw else if z = 3 then sz else if z = 4 then (bi + 7) / 8 else if z = 5 then ps else dm))) (fun _ => CW cy a kd co mk al dz rd rw wo sa sz ps bt ou bi dm pl re cu) (fun _ => True) := by
  refine z_met (cc := cX7_told) (nL := 2) (ret := some .int) (by decide +kernel) rfl (Nat.le_of_ble_eq_true rfl) (lv := [(0, .ref (a 0)), (1, vI z)]) rfl ?_
  intro V p_ e_ s_ m_ args_ below_ meth_ c_ A_ C hmn
  have hinX0 : ∀ w ∈ u_ws RX0 TX0 3, w ∈ wsX7_told := by decide +kernel
  have hinX2 : ∀ w ∈ u_ws RX2 TX2 5, w ∈ wsX7_told := by decide +kernel
  have hinX3 : ∀ w ∈ u_ws RX3 TX3 9, w ∈ wsX7_told := by decide +kernel
  have hinX5 : ∀ w ∈ u_ws RX5 TX5 5, w ∈ wsX7_told := by decide +kernel
  have hinX7 : ∀ w ∈ u_ws RX7 TX7 8, w ∈ wsX7_told := by decide +kernel
  have k0 : Cond.fieldLink RX7 23 "FaxFilter" "settings" "LFaxFilter$Settings;" ∈ wsX7_told := List.mem_of_getElem? (i := 3) rfl
  have k1 : Cond.fieldLink RX7 89 "FaxFilter$Settings" "kind" "I" ∈ wsX7_told := List.mem_of_getElem? (i := 4) rfl
  have k2 : Cond.fieldLink RX7 30 "FaxFilter" "picture" "LFaxFilter$Picture;" ∈ wsX7_told := List.mem_of_getElem? (i := 5) rfl
  have k3 : Cond.fieldLink RX7 62 "FaxFilter$Picture" "columns" "I" ∈ wsX7_told := List.mem_of_getElem? (i := 6) rfl
  have k4 : Cond.fieldLink RX7 92 "FaxFilter$Picture" "rows" "I" ∈ wsX7_told := List.mem_of_getElem? (i := 7) rfl
  have k5 : Cond.fieldLink RX7 56 "FaxFilter" "collected" "LFaxFilter$BitsIn;" ∈ wsX7_told := List.mem_of_getElem? (i := 8) rfl
  have k6 : Cond.fieldLink RX7 95 "FaxFilter$BitsIn" "size" "I" ∈ wsX7_told := List.mem_of_getElem? (i := 9) rfl
  have k7 : Cond.fieldLink RX7 67 "FaxFilter" "written" "LFaxFilter$BitsOut;" ∈ wsX7_told := List.mem_of_getElem? (i := 10) rfl
  have k8 : Cond.fieldLink RX7 101 "FaxFilter$BitsIn" "passed" "I" ∈ wsX7_told := List.mem_of_getElem? (i := 11) rfl
  have k9 : Cond.fieldLink RX7 85 "FaxFilter" "receiver" "LFaxFilter$Receiver;" ∈ wsX7_told := List.mem_of_getElem? (i := 12) rfl
  have k10 : Cond.fieldLink RX7 104 "FaxFilter$Receiver" "damaged" "I" ∈ wsX7_told := List.mem_of_getElem? (i := 13) rfl
  refine z_iload_n C dX7_told_0 1 rfl ?_
  rcases (by omega : z = 0 ∨ z = 1 ∨ z = 2 ∨ z = 3 ∨ z = 4 ∨ z = 5 ∨ z = 6) with hq9 | hq9 | hq9 | hq9 | hq9 | hq9 | hq9
  · refine z_tabIn C (by omega) (off := 43) (tgt := 44) dX7_told_1 (by omega) (by omega) (by rw [hq9]; rfl) (by decide) ?_
    refine z_aload_n C dX7_told_44 0 rfl ?_
    refine z_get C hinX7 (ci := 9) rfl 0 rfl 0 (by decide) k0 rfl (v := .ref (a 1)) rfl dX7_told_45 ?_
    refine z_get C hinX5 (ci := 7) rfl 1 rfl 0 (by decide) k1 rfl (v := vI kd) rfl dX7_told_48 ?_
    refine z_iret (x := kd) C dX7_told_51 () ?_ ?_ ?_ (by decide) (by decide)
    · (repeat (first | rw [if_pos (by omega)] | rw [if_neg (by omega)]))
    · exact trivial
    · exact rfl
  · refine z_tabIn C (by omega) (off := 51) (tgt := 52) dX7_told_1 (by omega) (by omega) (by rw [hq9]; rfl) (by decide) ?_
    refine z_aload_n C dX7_told_52 0 rfl ?_
    refine z_get C hinX7 (ci := 9) rfl 0 rfl 1 (by decide) k2 rfl (v := .ref (a 2)) rfl dX7_told_53 ?_
    refine z_get C hinX2 (ci := 4) rfl 2 rfl 0 (by decide) k3 rfl (v := vI co) rfl dX7_told_56 ?_
    refine z_iret (x := co) C dX7_told_59 () ?_ ?_ ?_ (by decide) (by decide)
    · (repeat (first | rw [if_pos (by omega)] | rw [if_neg (by omega)]))
    · exact trivial
    · exact rfl
  · refine z_tabIn C (by omega) (off := 59) (tgt := 60) dX7_told_1 (by omega) (by omega) (by rw [hq9]; rfl) (by decide) ?_
    refine z_aload_n C dX7_told_60 0 rfl ?_
    refine z_get C hinX7 (ci := 9) rfl 0 rfl 1 (by decide) k2 rfl (v := .ref (a 2)) rfl dX7_told_61 ?_
    refine z_get C hinX2 (ci := 4) rfl 2 rfl 1 (by decide) k4 rfl (v := vI rw) rfl dX7_told_64 ?_
    refine z_iret (x := rw) C dX7_told_67 () ?_ ?_ ?_ (by decide) (by decide)
    · (repeat (first | rw [if_pos (by omega)] | rw [if_neg (by omega)]))
    · exact trivial
    · exact rfl
  · refine z_tabIn C (by omega) (off := 67) (tgt := 68) dX7_told_1 (by omega) (by omega) (by rw [hq9]; rfl) (by decide) ?_
    refine z_aload_n C dX7_told_68 0 rfl ?_
    refine z_get C hinX7 (ci := 9) rfl 0 rfl 4 (by decide) k5 rfl (v := .ref (a 5)) rfl dX7_told_69 ?_
    refine z_get C hinX0 (ci := 2) rfl 5 rfl 0 (by decide) k6 rfl (v := vI sz) rfl dX7_told_72 ?_
    refine z_iret (x := sz) C dX7_told_75 () ?_ ?_ ?_ (by decide) (by decide)
    · (repeat (first | rw [if_pos (by omega)] | rw [if_neg (by omega)]))
    · exact trivial
    · exact rfl
  · refine z_tabIn C (by omega) (off := 75) (tgt := 76) dX7_told_1 (by omega) (by omega) (by rw [hq9]; rfl) (by decide) ?_
    refine z_aload_n C dX7_told_76 0 rfl ?_
    refine z_get C hinX7 (ci := 9) rfl 0 rfl 5 (by decide) k7 rfl (v := .ref (a 6)) rfl dX7_told_77 ?_
    refine z_callV C (As := []) (st := []) (c_X1_size l D cy tw a kd co mk al dz rd rw wo sa sz ps bt ou bi dm pl re cu   (by omega)) gX7_told_X1_size kn_X1_size rfl ⟨rfl, rfl, Nat.le_of_ble_eq_true rfl, Nat.le_of_ble_eq_true rfl⟩ 6 rfl (ci := 3) rfl rfl (Nat.le_of_ble_eq_true rfl) ⟨Nat.le_of_ble_eq_true rfl, Nat.le_of_ble_eq_true rfl⟩ dX7_told_80 (fun u1 hu1 => ?_)
    clear hu1; clear u1
    show V 0 0 (CW cy a kd co mk al dz rd rw wo sa sz ps bt ou bi dm pl re cu) [(0, .ref (a 0)), (1, vI z)] [vI ((bi + 7) / 8)] 83
    refine z_iret (x := ((bi + 7) / 8)) C dX7_told_83 () ?_ ?_ ?_ (by decide) (by decide)
    · (repeat (first | rw [if_pos (by omega)] | rw [if_neg (by omega)]))
    · exact trivial
    · exact rfl
  · refine z_tabIn C (by omega) (off := 83) (tgt := 84) dX7_told_1 (by omega) (by omega) (by rw [hq9]; rfl) (by decide) ?_
    refine z_aload_n C dX7_told_84 0 rfl ?_
    refine z_get C hinX7 (ci := 9) rfl 0 rfl 4 (by decide) k5 rfl (v := .ref (a 5)) rfl dX7_told_85 ?_
    refine z_get C hinX0 (ci := 2) rfl 5 rfl 1 (by decide) k8 rfl (v := vI ps) rfl dX7_told_88 ?_
    refine z_iret (x := ps) C dX7_told_91 () ?_ ?_ ?_ (by decide) (by decide)
    · (repeat (first | rw [if_pos (by omega)] | rw [if_neg (by omega)]))
    · exact trivial
    · exact rfl
  · refine z_tabIn C (by omega) (off := 91) (tgt := 92) dX7_told_1 (by omega) (by omega) (by rw [hq9]; rfl) (by decide) ?_
    refine z_aload_n C dX7_told_92 0 rfl ?_
    refine z_get C hinX7 (ci := 9) rfl 0 rfl 7 (by decide) k9 rfl (v := .ref (a 8)) rfl dX7_told_93 ?_
    refine z_get C hinX3 (ci := 5) rfl 8 rfl 0 (by decide) k10 rfl (v := vI dm) rfl dX7_told_96 ?_
    refine z_iret (x := dm) C dX7_told_99 () ?_ ?_ ?_ (by decide) (by decide)
    · (repeat (first | rw [if_pos (by omega)] | rw [if_neg (by omega)]))
    · exact trivial
    · exact rfl
theorem kn_X7_setting : zKn yX7_setting wsX7_setting cX7_setting 3 (none) 2 := ⟨⟨_, rfl⟩, by decide +kernel, by decide +kernel, by decide +kernel⟩
set_option maxHeartbeats 400000 in
set_option maxRecDepth 100000 in
theorem c_X7_setting (l : Launch) (D : va_G) (cy : Nat → ClassId) (tw : Nat → Nat) (a : Nat → Nat) (kd : Int) (co : Int) (mk : Bool) (al : Bool) (dz : Bool) (rd : Bool) (rw : Int) (wo : Nat → BitVec 64) (sa : Nat → Int) (sz : Int) (ps : Int) (bt : Nat → Int) (ou : Nat → BitVec 64) (bi : Int) (dm : Int) (pl : Bool) (re : Int) (cu : Bool) (z : Int) (d : Bool)  (hz : 0 ≤ z ∧ z ≤ 3) : zMet l yX7_setting wsX7_setting { frames := 0, cells := 0, slots := 0, locals := 0 } D (zT cy) tw (CW cy a kd co mk al dz rd rw wo sa sz ps bt ou bi dm pl re cu) [.ref (a 0), vI z, vI (b2i d)] 0 0 (S := Unit) (fun _ => none) (fun _ => CW cy a kd co (if z = 0 then d else mk) (if z = 1 then d else al) (if z = 2 then d else dz) (if z = 3 then d else rd) rw wo sa sz ps bt ou bi dm pl re cu) (fun _ => True) := by
  refine z_met (cc := cX7_setting) (nL := 3) (ret := none) (by decide +kernel) rfl (Nat.le_of_ble_eq_true rfl) (lv := [(0, .ref (a 0)), (1, vI z), (2, vI (b2i d))]) rfl ?_
  intro V p_ e_ s_ m_ args_ below_ meth_ c_ A_ C hmn
  have hinX5 : ∀ w ∈ u_ws RX5 TX5 5, w ∈ wsX7_setting := by decide +kernel
  have hinX7 : ∀ w ∈ u_ws RX7 TX7 8, w ∈ wsX7_setting := by decide +kernel
  have k0 : Cond.fieldLink RX7 23 "FaxFilter" "settings" "LFaxFilter$Settings;" ∈ wsX7_setting := List.mem_of_getElem? (i := 3) rfl
  have k1 : Cond.fieldLink RX7 114 "FaxFilter$Settings" "marks" "Z" ∈ wsX7_setting := List.mem_of_getElem? (i := 4) rfl
  have k2 : Cond.fieldLink RX7 118 "FaxFilter$Settings" "aligned" "Z" ∈ wsX7_setting := List.mem_of_getElem? (i := 5) rfl
  have k3 : Cond.fieldLink RX7 121 "FaxFilter$Settings" "darkIsZero" "Z" ∈ wsX7_setting := List.mem_of_getElem? (i := 6) rfl
  have k4 : Cond.fieldLink RX7 124 "FaxFilter$Settings" "repeatDamaged" "Z" ∈ wsX7_setting := List.mem_of_getElem? (i := 7) rfl
  refine z_iload_n C dX7_setting_0 1 rfl ?_
  rcases (by omega : z = 0 ∨ z = 1 ∨ z = 2 ∨ z = 3) with hq9 | hq9 | hq9 | hq9
  · refine z_tabIn C (by omega) (off := 31) (tgt := 32) dX7_setting_1 (by omega) (by omega) (by rw [hq9]; rfl) (by decide) ?_
    refine z_aload_n C dX7_setting_32 0 rfl ?_
    refine z_get C hinX7 (ci := 9) rfl 0 rfl 0 (by decide) k0 rfl (v := .ref (a 1)) rfl dX7_setting_33 ?_
    refine z_iload_n C dX7_setting_36 2 rfl ?_
    refine z_put C hinX5 tyX5 tyX5_ok nmX5 (ci := 7) rfl 1 rfl 1 (by decide) k1 rfl rfl (z_narZ d).1 (z_narZ d).2 (Nat.le_of_ble_eq_true rfl) dX7_setting_37 (ws' := CW cy a kd co d al dz rd rw wo sa sz ps bt ou bi dm pl re cu) rfl ?_
    refine z_goto C (tgt := 86) dX7_setting_40 (by decide) ?_
    refine z_vret C dX7_setting_86 () ?_ ?_ ?_ (by decide) (by decide)
    · exact rfl
    · exact trivial
    · (repeat (first | rw [if_pos (by omega)] | rw [if_neg (by omega)]))
  · refine z_tabIn C (by omega) (off := 42) (tgt := 43) dX7_setting_1 (by omega) (by omega) (by rw [hq9]; rfl) (by decide) ?_
    refine z_aload_n C dX7_setting_43 0 rfl ?_
    refine z_get C hinX7 (ci := 9) rfl 0 rfl 0 (by decide) k0 rfl (v := .ref (a 1)) rfl dX7_setting_44 ?_
    refine z_iload_n C dX7_setting_47 2 rfl ?_
    refine z_put C hinX5 tyX5 tyX5_ok nmX5 (ci := 7) rfl 1 rfl 2 (by decide) k2 rfl rfl (z_narZ d).1 (z_narZ d).2 (Nat.le_of_ble_eq_true rfl) dX7_setting_48 (ws' := CW cy a kd co mk d dz rd rw wo sa sz ps bt ou bi dm pl re cu) rfl ?_
    refine z_goto C (tgt := 86) dX7_setting_51 (by decide) ?_
    refine z_vret C dX7_setting_86 () ?_ ?_ ?_ (by decide) (by decide)
    · exact rfl
    · exact trivial
    · (repeat (first | rw [if_pos (by omega)] | rw [if_neg (by omega)]))
  · refine z_tabIn C (by omega) (off := 53) (tgt := 54) dX7_setting_1 (by omega) (by omega) (by rw [hq9]; rfl) (by decide) ?_
    refine z_aload_n C dX7_setting_54 0 rfl ?_
    refine z_get C hinX7 (ci := 9) rfl 0 rfl 0 (by decide) k0 rfl (v := .ref (a 1)) rfl dX7_setting_55 ?_
    refine z_iload_n C dX7_setting_58 2 rfl ?_
    refine z_put C hinX5 tyX5 tyX5_ok nmX5 (ci := 7) rfl 1 rfl 3 (by decide) k3 rfl rfl (z_narZ d).1 (z_narZ d).2 (Nat.le_of_ble_eq_true rfl) dX7_setting_59 (ws' := CW cy a kd co mk al d rd rw wo sa sz ps bt ou bi dm pl re cu) rfl ?_
    refine z_goto C (tgt := 86) dX7_setting_62 (by decide) ?_
    refine z_vret C dX7_setting_86 () ?_ ?_ ?_ (by decide) (by decide)
    · exact rfl
    · exact trivial
    · (repeat (first | rw [if_pos (by omega)] | rw [if_neg (by omega)]))
  · refine z_tabIn C (by omega) (off := 64) (tgt := 65) dX7_setting_1 (by omega) (by omega) (by rw [hq9]; rfl) (by decide) ?_
    refine z_aload_n C dX7_setting_65 0 rfl ?_
    refine z_get C hinX7 (ci := 9) rfl 0 rfl 0 (by decide) k0 rfl (v := .ref (a 1)) rfl dX7_setting_66 ?_
    refine z_iload_n C dX7_setting_69 2 rfl ?_
    refine z_put C hinX5 tyX5 tyX5_ok nmX5 (ci := 7) rfl 1 rfl 4 (by decide) k4 rfl rfl (z_narZ d).1 (z_narZ d).2 (Nat.le_of_ble_eq_true rfl) dX7_setting_70 (ws' := CW cy a kd co mk al dz d rw wo sa sz ps bt ou bi dm pl re cu) rfl ?_
    refine z_goto C (tgt := 86) dX7_setting_73 (by decide) ?_
    refine z_vret C dX7_setting_86 () ?_ ?_ ?_ (by decide) (by decide)
    · exact rfl
    · exact trivial
    · (repeat (first | rw [if_pos (by omega)] | rw [if_neg (by omega)]))
theorem kn_X7_state : zKn yX7_state wsX7_state cX7_state 2 (some .int) 1 := ⟨⟨_, rfl⟩, by decide +kernel, by decide +kernel, by decide +kernel⟩
set_option maxHeartbeats 400000 in
set_option maxRecDepth 100000 in
theorem c_X7_state (l : Launch) (D : va_G) (cy : Nat → ClassId) (tw : Nat → Nat) (a : Nat → Nat) (kd : Int) (co : Int) (mk : Bool) (al : Bool) (dz : Bool) (rd : Bool) (rw : Int) (wo : Nat → BitVec 64) (sa : Nat → Int) (sz : Int) (ps : Int) (bt : Nat → Int) (ou : Nat → BitVec 64) (bi : Int) (dm : Int) (pl : Bool) (re : Int) (cu : Bool) (r : Int)  (hrw : 0 ≤ rw ∧ rw ≤ 24) (hin : 0 ≤ r ∧ r < rw) : zMet l yX7_state wsX7_state { frames := 1, cells := 0, slots := 0, locals := 21 } D (zT cy) tw (CW cy a kd co mk al dz rd rw wo sa sz ps bt ou bi dm pl re cu) [.ref (a 0), vI r] 0 0 (S := Unit) (fun _ => some (vI (sa (r : Int).toNat))) (fun _ => CW cy a kd co mk al dz rd rw wo sa sz ps bt ou bi dm pl re cu) (fun _ => True) := by
  refine z_met (cc := cX7_state) (nL := 2) (ret := some .int) (by decide +kernel) rfl (Nat.le_of_ble_eq_true rfl) (lv := [(0, .ref (a 0)), (1, vI r)]) rfl ?_
  intro V p_ e_ s_ m_ args_ below_ meth_ c_ A_ C hmn
  have hinX7 : ∀ w ∈ u_ws RX7 TX7 8, w ∈ wsX7_state := by decide +kernel
  have k0 : Cond.fieldLink RX7 30 "FaxFilter" "picture" "LFaxFilter$Picture;" ∈ wsX7_state := List.mem_of_getElem? (i := 1) rfl
  refine z_aload_n C dX7_state_0 0 rfl ?_
  refine z_get C hinX7 (ci := 9) rfl 0 rfl 1 (by decide) k0 rfl (v := .ref (a 2)) rfl dX7_state_1 ?_
  refine z_iload_n C dX7_state_4 1 rfl ?_
  refine z_callV C (As := [vI r]) (st := []) (c_X2_has l D cy tw a kd co mk al dz rd rw wo sa sz ps bt ou bi dm pl re cu r  (by omega) (by omega)) gX7_state_X2_has kn_X2_has rfl ⟨rfl, rfl, Nat.le_of_ble_eq_true rfl, Nat.le_of_ble_eq_true rfl⟩ 2 rfl (ci := 4) rfl rfl (Nat.le_of_ble_eq_true rfl) ⟨Nat.le_of_ble_eq_true rfl, Nat.le_of_ble_eq_true rfl⟩ dX7_state_5 (fun u1 hu1 => ?_)
  clear hu1; clear u1
  show V 0 0 (CW cy a kd co mk al dz rd rw wo sa sz ps bt ou bi dm pl re cu) [(0, .ref (a 0)), (1, vI r)] [vI (b2i (decide (0 ≤ r ∧ r < rw)))] 8
  refine z_ifnz C (tgt := 21) dX7_state_8 (by decide) (fun hc_2 => ?_) (fun hc_2 => ?_)
  · refine z_aload_n C dX7_state_21 0 rfl ?_
    refine z_get C hinX7 (ci := 9) rfl 0 rfl 1 (by decide) k0 rfl (v := .ref (a 2)) rfl dX7_state_22 ?_
    refine z_iload_n C dX7_state_25 1 rfl ?_
    refine z_callV C (As := [vI r]) (st := []) (c_X2_stateOf l D cy tw a kd co mk al dz rd rw wo sa sz ps bt ou bi dm pl re cu r  (by omega)) gX7_state_X2_stateOf kn_X2_stateOf rfl ⟨rfl, rfl, Nat.le_of_ble_eq_true rfl, Nat.le_of_ble_eq_true rfl⟩ 2 rfl (ci := 4) rfl rfl (Nat.le_of_ble_eq_true rfl) ⟨Nat.le_of_ble_eq_true rfl, Nat.le_of_ble_eq_true rfl⟩ dX7_state_26 (fun u3 hu3 => ?_)
    clear hu3; clear u3
    show V 0 0 (CW cy a kd co mk al dz rd rw wo sa sz ps bt ou bi dm pl re cu) [(0, .ref (a 0)), (1, vI r)] [vI (sa (r : Int).toNat)] 29
    refine z_iret (x := (sa (r : Int).toNat)) C dX7_state_29 () ?_ ?_ ?_ (by decide) (by decide)
    · exact rfl
    · exact trivial
    · exact rfl
  · exfalso; exact absurd (of_decide_eq_false hc_2) (fun z => z hin)
theorem kn_X7_row : zKn yX7_row wsX7_row cX7_row 2 (some .int) 0 := ⟨⟨_, rfl⟩, by decide +kernel, by decide +kernel, by decide +kernel⟩
set_option maxHeartbeats 400000 in
set_option maxRecDepth 100000 in
theorem c_X7_row (l : Launch) (D : va_G) (cy : Nat → ClassId) (tw : Nat → Nat) (a : Nat → Nat) (kd : Int) (co : Int) (mk : Bool) (al : Bool) (dz : Bool) (rd : Bool) (rw : Int) (wo : Nat → BitVec 64) (sa : Nat → Int) (sz : Int) (ps : Int) (bt : Nat → Int) (ou : Nat → BitVec 64) (bi : Int) (dm : Int) (pl : Bool) (re : Int) (cu : Bool)   (hco : 1 ≤ co ∧ co ≤ 700) (hrw : 0 ≤ rw ∧ rw < 24) : zMet l yX7_row wsX7_row { frames := 3, cells := 0, slots := 0, locals := 76 } D (zT cy) tw (CW cy a kd co mk al dz rd rw wo sa sz ps bt ou bi dm pl re cu) [.ref (a 0)] 0 0 (S := Unit) (fun _ => some (vI rw)) (fun _ => CW cy a kd co mk al dz rd (rw + 1) (pnC wo co rw 0 co false) (va_up sa (rw : Int).toNat 0) sz ps bt ou bi dm pl re cu) (fun _ => True) := by
  refine z_met (cc := cX7_row) (nL := 2) (ret := some .int) (by decide +kernel) rfl (Nat.le_of_ble_eq_true rfl) (lv := [(0, .ref (a 0))]) rfl ?_
  intro V p_ e_ s_ m_ args_ below_ meth_ c_ A_ C hmn
  have hinX2 : ∀ w ∈ u_ws RX2 TX2 5, w ∈ wsX7_row := by decide +kernel
  have hinX7 : ∀ w ∈ u_ws RX7 TX7 8, w ∈ wsX7_row := by decide +kernel
  have k0 : Cond.fieldLink RX7 30 "FaxFilter" "picture" "LFaxFilter$Picture;" ∈ wsX7_row := List.mem_of_getElem? (i := 3) rfl
  have k1 : Cond.fieldLink RX7 92 "FaxFilter$Picture" "rows" "I" ∈ wsX7_row := List.mem_of_getElem? (i := 4) rfl
  refine z_aload_n C dX7_row_0 0 rfl ?_
  refine z_get C hinX7 (ci := 9) rfl 0 rfl 1 (by decide) k0 rfl (v := .ref (a 2)) rfl dX7_row_1 ?_
  refine z_get C hinX2 (ci := 4) rfl 2 rfl 1 (by decide) k1 rfl (v := vI rw) rfl dX7_row_4 ?_
  refine z_istore_n C (lv' := [(1, vI rw), (0, .ref (a 0))]) dX7_row_7 rfl (by decide) rfl ?_
  refine z_iload_n C dX7_row_8 0 rfl ?_
  refine z_bipush C (z := 24) dX7_row_9 (by decide) ?_
  refine z_icmp_lt C (by omega) (by decide) (tgt := 24) dX7_row_11 (by decide) (fun hc_1 => ?_) (fun hc_1 => ?_)
  · refine z_aload_n C dX7_row_24 1 rfl ?_
    refine z_get C hinX7 (ci := 9) rfl 0 rfl 1 (by decide) k0 rfl (v := .ref (a 2)) rfl dX7_row_25 ?_
    refine z_iload_n C dX7_row_28 0 rfl ?_
    refine z_callV C (As := [vI rw]) (st := []) (c_X2_whiten l D cy tw a kd co mk al dz rd rw wo sa sz ps bt ou bi dm pl re cu rw  (by omega) (by omega)) gX7_row_X2_whiten kn_X2_whiten rfl ⟨rfl, rfl, Nat.le_of_ble_eq_true rfl, Nat.le_of_ble_eq_true rfl⟩ 2 rfl (ci := 4) rfl rfl (Nat.le_of_ble_eq_true rfl) ⟨Nat.le_of_ble_eq_true rfl, Nat.le_of_ble_eq_true rfl⟩ dX7_row_29 (fun u2 hu2 => ?_)
    clear hu2; clear u2
    show V 0 0 (CW cy a kd co mk al dz rd rw (pnC wo co rw 0 co false) sa sz ps bt ou bi dm pl re cu) [(1, vI rw), (0, .ref (a 0))] [] 32
    refine z_aload_n C dX7_row_32 1 rfl ?_
    refine z_get C hinX7 (ci := 9) rfl 0 rfl 1 (by decide) k0 rfl (v := .ref (a 2)) rfl dX7_row_33 ?_
    refine z_iconst C (z := 0) dX7_row_36 ?_
    refine z_callV C (As := [vI 0]) (st := []) (c_X2_keep l D cy tw a kd co mk al dz rd rw (pnC wo co rw 0 co false) sa sz ps bt ou bi dm pl re cu 0  (by omega)) gX7_row_X2_keep kn_X2_keep rfl ⟨rfl, rfl, Nat.le_of_ble_eq_true rfl, Nat.le_of_ble_eq_true rfl⟩ 2 rfl (ci := 4) rfl rfl (Nat.le_of_ble_eq_true rfl) ⟨Nat.le_of_ble_eq_true rfl, Nat.le_of_ble_eq_true rfl⟩ dX7_row_37 (fun u3 hu3 => ?_)
    clear hu3; clear u3
    show V 0 0 (CW cy a kd co mk al dz rd (rw + 1) (pnC wo co rw 0 co false) (va_up sa (rw : Int).toNat 0) sz ps bt ou bi dm pl re cu) [(1, vI rw), (0, .ref (a 0))] [] 40
    refine z_iload_n C dX7_row_40 0 rfl ?_
    refine z_iret (x := rw) C dX7_row_41 () ?_ ?_ ?_ (by decide) (by decide)
    · exact rfl
    · exact trivial
    · exact rfl
  · exfalso; omega
theorem kn_X7_put : zKn yX7_put wsX7_put cX7_put 5 (none) 4 := ⟨⟨_, rfl⟩, by decide +kernel, by decide +kernel, by decide +kernel⟩
set_option maxHeartbeats 400000 in
set_option maxRecDepth 100000 in
theorem c_X7_put (l : Launch) (D : va_G) (cy : Nat → ClassId) (tw : Nat → Nat) (a : Nat → Nat) (kd : Int) (co : Int) (mk : Bool) (al : Bool) (dz : Bool) (rd : Bool) (rw : Int) (wo : Nat → BitVec 64) (sa : Nat → Int) (sz : Int) (ps : Int) (bt : Nat → Int) (ou : Nat → BitVec 64) (bi : Int) (dm : Int) (pl : Bool) (re : Int) (cu : Bool) (r : Int) (x : Int) (y : Int) (d : Bool)  (hco : 1 ≤ co ∧ co ≤ 700) (hrw : 0 ≤ rw ∧ rw ≤ 24) (hin : 0 ≤ r ∧ r < rw) (hx : 0 ≤ x ∧ x < y ∧ y ≤ co) : zMet l yX7_put wsX7_put { frames := 2, cells := 0, slots := 0, locals := 55 } D (zT cy) tw (CW cy a kd co mk al dz rd rw wo sa sz ps bt ou bi dm pl re cu) [.ref (a 0), vI r, vI x, vI y, vI (b2i d)] 0 0 (S := Unit) (fun _ => none) (fun _ => CW cy a kd co mk al dz rd rw (pnC wo co r x y d) (va_up sa (r : Int).toNat 0) sz ps bt ou bi dm pl re cu) (fun _ => True) := by
  refine z_met (cc := cX7_put) (nL := 5) (ret := none) (by decide +kernel) rfl (Nat.le_of_ble_eq_true rfl) (lv := [(0, .ref (a 0)), (1, vI r), (2, vI x), (3, vI y), (4, vI (b2i d))]) rfl ?_
  intro V p_ e_ s_ m_ args_ below_ meth_ c_ A_ C hmn
  have hinX2 : ∀ w ∈ u_ws RX2 TX2 5, w ∈ wsX7_put := by decide +kernel
  have hinX7 : ∀ w ∈ u_ws RX7 TX7 8, w ∈ wsX7_put := by decide +kernel
  have k0 : Cond.fieldLink RX7 30 "FaxFilter" "picture" "LFaxFilter$Picture;" ∈ wsX7_put := List.mem_of_getElem? (i := 3) rfl
  have k1 : Cond.fieldLink RX7 62 "FaxFilter$Picture" "columns" "I" ∈ wsX7_put := List.mem_of_getElem? (i := 7) rfl
  refine z_aload_n C dX7_put_0 0 rfl ?_
  refine z_get C hinX7 (ci := 9) rfl 0 rfl 1 (by decide) k0 rfl (v := .ref (a 2)) rfl dX7_put_1 ?_
  refine z_iload_n C dX7_put_4 1 rfl ?_
  refine z_callV C (As := [vI r]) (st := []) (c_X2_has l D cy tw a kd co mk al dz rd rw wo sa sz ps bt ou bi dm pl re cu r  (by omega) (by omega)) gX7_put_X2_has kn_X2_has rfl ⟨rfl, rfl, Nat.le_of_ble_eq_true rfl, Nat.le_of_ble_eq_true rfl⟩ 2 rfl (ci := 4) rfl rfl (Nat.le_of_ble_eq_true rfl) ⟨Nat.le_of_ble_eq_true rfl, Nat.le_of_ble_eq_true rfl⟩ dX7_put_5 (fun u1 hu1 => ?_)
  clear hu1; clear u1
  show V 0 0 (CW cy a kd co mk al dz rd rw wo sa sz ps bt ou bi dm pl re cu) [(0, .ref (a 0)), (1, vI r), (2, vI x), (3, vI y), (4, vI (b2i d))] [vI (b2i (decide (0 ≤ r ∧ r < rw)))] 8
  refine z_ifnz C (tgt := 21) dX7_put_8 (by decide) (fun hc_2 => ?_) (fun hc_2 => ?_)
  · refine z_iload_n C dX7_put_21 2 rfl ?_
    refine z_if_lt C (by omega) (tgt := 41) dX7_put_22 (by decide) (fun hc_3 => ?_) (fun hc_3 => ?_)
    · exfalso; omega
    · refine z_iload_n C dX7_put_25 2 rfl ?_
      refine z_iload_n C dX7_put_26 3 rfl ?_
      refine z_icmp_ge C (by omega) (by omega) (tgt := 41) dX7_put_27 (by decide) (fun hc_4 => ?_) (fun hc_4 => ?_)
      · exfalso; omega
      · refine z_iload_n C dX7_put_30 3 rfl ?_
        refine z_aload_n C dX7_put_31 0 rfl ?_
        refine z_get C hinX7 (ci := 9) rfl 0 rfl 1 (by decide) k0 rfl (v := .ref (a 2)) rfl dX7_put_32 ?_
        refine z_get C hinX2 (ci := 4) rfl 2 rfl 0 (by decide) k1 rfl (v := vI co) rfl dX7_put_35 ?_
        refine z_icmp_le C (by omega) (by omega) (tgt := 51) dX7_put_38 (by decide) (fun hc_5 => ?_) (fun hc_5 => ?_)
        · refine z_aload_n C dX7_put_51 0 rfl ?_
          refine z_get C hinX7 (ci := 9) rfl 0 rfl 1 (by decide) k0 rfl (v := .ref (a 2)) rfl dX7_put_52 ?_
          refine z_iload_n C dX7_put_55 1 rfl ?_
          refine z_iload_n C dX7_put_56 2 rfl ?_
          refine z_iload_n C dX7_put_57 3 rfl ?_
          refine z_iload C dX7_put_58 4 rfl ?_
          refine z_callV C (As := [vI r, vI x, vI y, vI (b2i d)]) (st := []) (c_X2_paint l D cy tw a kd co mk al dz rd rw wo sa sz ps bt ou bi dm pl re cu r x y d  (by omega) (by omega) (by omega) (by omega)) gX7_put_X2_paint kn_X2_paint rfl ⟨rfl, rfl, Nat.le_of_ble_eq_true rfl, Nat.le_of_ble_eq_true rfl⟩ 2 rfl (ci := 4) rfl rfl (Nat.le_of_ble_eq_true rfl) ⟨Nat.le_of_ble_eq_true rfl, Nat.le_of_ble_eq_true rfl⟩ dX7_put_60 (fun u6 hu6 => ?_)
          clear hu6; clear u6
          show V 0 0 (CW cy a kd co mk al dz rd rw (pnC wo co r x y d) sa sz ps bt ou bi dm pl re cu) [(0, .ref (a 0)), (1, vI r), (2, vI x), (3, vI y), (4, vI (b2i d))] [] 63
          refine z_aload_n C dX7_put_63 0 rfl ?_
          refine z_get C hinX7 (ci := 9) rfl 0 rfl 1 (by decide) k0 rfl (v := .ref (a 2)) rfl dX7_put_64 ?_
          refine z_iload_n C dX7_put_67 1 rfl ?_
          refine z_callV C (As := [vI r]) (st := []) (c_X2_mend l D cy tw a kd co mk al dz rd rw (pnC wo co r x y d) sa sz ps bt ou bi dm pl re cu r  (by omega)) gX7_put_X2_mend kn_X2_mend rfl ⟨rfl, rfl, Nat.le_of_ble_eq_true rfl, Nat.le_of_ble_eq_true rfl⟩ 2 rfl (ci := 4) rfl rfl (Nat.le_of_ble_eq_true rfl) ⟨Nat.le_of_ble_eq_true rfl, Nat.le_of_ble_eq_true rfl⟩ dX7_put_68 (fun u7 hu7 => ?_)
          clear hu7; clear u7
          show V 0 0 (CW cy a kd co mk al dz rd rw (pnC wo co r x y d) (va_up sa (r : Int).toNat 0) sz ps bt ou bi dm pl re cu) [(0, .ref (a 0)), (1, vI r), (2, vI x), (3, vI y), (4, vI (b2i d))] [] 71
          refine z_vret C dX7_put_71 () ?_ ?_ ?_ (by decide) (by decide)
          · exact rfl
          · exact trivial
          · exact rfl
        · exfalso; omega
  · exfalso; exact absurd (of_decide_eq_false hc_2) (fun z => z hin)
theorem kn_X7_bit : zKn yX7_bit wsX7_bit cX7_bit 3 (some .int) 2 := ⟨⟨_, rfl⟩, by decide +kernel, by decide +kernel, by decide +kernel⟩
set_option maxHeartbeats 400000 in
set_option maxRecDepth 100000 in
theorem c_X7_bit (l : Launch) (D : va_G) (cy : Nat → ClassId) (tw : Nat → Nat) (a : Nat → Nat) (kd : Int) (co : Int) (mk : Bool) (al : Bool) (dz : Bool) (rd : Bool) (rw : Int) (wo : Nat → BitVec 64) (sa : Nat → Int) (sz : Int) (ps : Int) (bt : Nat → Int) (ou : Nat → BitVec 64) (bi : Int) (dm : Int) (pl : Bool) (re : Int) (cu : Bool) (r : Int) (x : Int)  (hco : 1 ≤ co ∧ co ≤ 700) (hrw : 0 ≤ rw ∧ rw ≤ 24) (hin : 0 ≤ r ∧ r < rw) (hx : 0 ≤ x ∧ x < co) : zMet l yX7_bit wsX7_bit { frames := 3, cells := 0, slots := 0, locals := 68 } D (zT cy) tw (CW cy a kd co mk al dz rd rw wo sa sz ps bt ou bi dm pl re cu) [.ref (a 0), vI r, vI x] 0 0 (S := Unit) (fun _ => some (vI (if px wo co r x = dz then 0 else 1))) (fun _ => CW cy a kd co mk al dz rd rw wo sa sz ps bt ou bi dm pl re cu) (fun _ => True) := by
  refine z_met (cc := cX7_bit) (nL := 3) (ret := some .int) (by decide +kernel) rfl (Nat.le_of_ble_eq_true rfl) (lv := [(0, .ref (a 0)), (1, vI r), (2, vI x)]) rfl ?_
  intro V p_ e_ s_ m_ args_ below_ meth_ c_ A_ C hmn
  have hinX2 : ∀ w ∈ u_ws RX2 TX2 5, w ∈ wsX7_bit := by decide +kernel
  have hinX5 : ∀ w ∈ u_ws RX5 TX5 5, w ∈ wsX7_bit := by decide +kernel
  have hinX7 : ∀ w ∈ u_ws RX7 TX7 8, w ∈ wsX7_bit := by decide +kernel
  have k0 : Cond.fieldLink RX7 30 "FaxFilter" "picture" "LFaxFilter$Picture;" ∈ wsX7_bit := List.mem_of_getElem? (i := 1) rfl
  have k1 : Cond.fieldLink RX7 62 "FaxFilter$Picture" "columns" "I" ∈ wsX7_bit := List.mem_of_getElem? (i := 2) rfl
  have k2 : Cond.fieldLink RX7 23 "FaxFilter" "settings" "LFaxFilter$Settings;" ∈ wsX7_bit := List.mem_of_getElem? (i := 6) rfl
  have k3 : Cond.fieldLink RX7 121 "FaxFilter$Settings" "darkIsZero" "Z" ∈ wsX7_bit := List.mem_of_getElem? (i := 7) rfl
  refine z_aload_n C dX7_bit_0 0 rfl ?_
  refine z_get C hinX7 (ci := 9) rfl 0 rfl 1 (by decide) k0 rfl (v := .ref (a 2)) rfl dX7_bit_1 ?_
  refine z_iload_n C dX7_bit_4 1 rfl ?_
  refine z_callV C (As := [vI r]) (st := []) (c_X2_has l D cy tw a kd co mk al dz rd rw wo sa sz ps bt ou bi dm pl re cu r  (by omega) (by omega)) gX7_bit_X2_has kn_X2_has rfl ⟨rfl, rfl, Nat.le_of_ble_eq_true rfl, Nat.le_of_ble_eq_true rfl⟩ 2 rfl (ci := 4) rfl rfl (Nat.le_of_ble_eq_true rfl) ⟨Nat.le_of_ble_eq_true rfl, Nat.le_of_ble_eq_true rfl⟩ dX7_bit_5 (fun u1 hu1 => ?_)
  clear hu1; clear u1
  show V 0 0 (CW cy a kd co mk al dz rd rw wo sa sz ps bt ou bi dm pl re cu) [(0, .ref (a 0)), (1, vI r), (2, vI x)] [vI (b2i (decide (0 ≤ r ∧ r < rw)))] 8
  refine z_ifz C (tgt := 26) dX7_bit_8 (by decide) (fun hc_2 => ?_) (fun hc_2 => ?_)
  · exfalso; exact absurd (of_decide_eq_false hc_2) (fun z => z hin)
  · refine z_iload_n C dX7_bit_11 2 rfl ?_
    refine z_if_lt C (by omega) (tgt := 26) dX7_bit_12 (by decide) (fun hc_3 => ?_) (fun hc_3 => ?_)
    · exfalso; omega
    · refine z_iload_n C dX7_bit_15 2 rfl ?_
      refine z_aload_n C dX7_bit_16 0 rfl ?_
      refine z_get C hinX7 (ci := 9) rfl 0 rfl 1 (by decide) k0 rfl (v := .ref (a 2)) rfl dX7_bit_17 ?_
      refine z_get C hinX2 (ci := 4) rfl 2 rfl 0 (by decide) k1 rfl (v := vI co) rfl dX7_bit_20 ?_
      refine z_icmp_lt C (by omega) (by omega) (tgt := 36) dX7_bit_23 (by decide) (fun hc_4 => ?_) (fun hc_4 => ?_)
      · refine z_aload_n C dX7_bit_36 0 rfl ?_
        refine z_get C hinX7 (ci := 9) rfl 0 rfl 1 (by decide) k0 rfl (v := .ref (a 2)) rfl dX7_bit_37 ?_
        refine z_iload_n C dX7_bit_40 1 rfl ?_
        refine z_iload_n C dX7_bit_41 2 rfl ?_
        refine z_callV C (As := [vI r, vI x]) (st := []) (c_X2_isDark l D cy tw a kd co mk al dz rd rw wo sa sz ps bt ou bi dm pl re cu r x  (by omega) (by omega) (by omega)) gX7_bit_X2_isDark kn_X2_isDark rfl ⟨rfl, rfl, Nat.le_of_ble_eq_true rfl, Nat.le_of_ble_eq_true rfl⟩ 2 rfl (ci := 4) rfl rfl (Nat.le_of_ble_eq_true rfl) ⟨Nat.le_of_ble_eq_true rfl, Nat.le_of_ble_eq_true rfl⟩ dX7_bit_42 (fun u5 hu5 => ?_)
        clear hu5; clear u5
        show V 0 0 (CW cy a kd co mk al dz rd rw wo sa sz ps bt ou bi dm pl re cu) [(0, .ref (a 0)), (1, vI r), (2, vI x)] [vI (b2i (px wo co r x))] 45
        refine z_aload_n C dX7_bit_45 0 rfl ?_
        refine z_get C hinX7 (ci := 9) rfl 0 rfl 0 (by decide) k2 rfl (v := .ref (a 1)) rfl dX7_bit_46 ?_
        refine z_get C hinX5 (ci := 7) rfl 1 rfl 3 (by decide) k3 rfl (v := vI (b2i dz)) rfl dX7_bit_49 ?_
        have h01 := b2i_01 (px wo co r x)
        have h02 := b2i_01 dz
        refine z_icmp_ne C (by omega) (by omega) (tgt := 59) dX7_bit_52 (by decide) (fun cq => ?_) (fun cq => ?_)
        · refine z_iconst C (z := 1) dX7_bit_59 ?_
          refine z_iret (x := 1) C dX7_bit_60 () ?_ ?_ ?_ (by decide) (by decide)
          · rw [if_neg (fun y => cq (b2i_inj.mpr y))]
          · exact trivial
          · exact rfl
        · refine z_iconst C (z := 0) dX7_bit_55 ?_
          refine z_goto C (tgt := 60) dX7_bit_56 (by decide) ?_
          refine z_iret (x := 0) C dX7_bit_60 () ?_ ?_ ?_ (by decide) (by decide)
          · rw [if_pos (b2i_inj.mp cq)]
          · exact trivial
          · exact rfl
      · exfalso; omega
theorem kn_X7_run : zKn yX7_run wsX7_run cX7_run 4 (some .int) 2 := ⟨⟨_, rfl⟩, by decide +kernel, by decide +kernel, by decide +kernel⟩
set_option maxHeartbeats 400000 in
set_option maxRecDepth 100000 in
theorem c_X7_run (l : Launch) (D : va_G) (cy : Nat → ClassId) (tw : Nat → Nat) (a : Nat → Nat) (kd : Int) (co : Int) (mk : Bool) (al : Bool) (dz : Bool) (rd : Bool) (rw : Int) (wo : Nat → BitVec 64) (sa : Nat → Int) (sz : Int) (ps : Int) (bt : Nat → Int) (ou : Nat → BitVec 64) (bi : Int) (dm : Int) (pl : Bool) (re : Int) (cu : Bool) (r : Int) (i : Int)  (hco : 1 ≤ co ∧ co ≤ 700) (hrw : 0 ≤ rw ∧ rw ≤ 24) (hin : 0 ≤ r ∧ r < rw) (hyi : -2147483648 ≤ i ∧ i < 2147483648) (hlr : 0 ≤ lrun (px wo co r) co i (co + 1).toNat 0 0 false ∧ lrun (px wo co r) co i (co + 1).toNat 0 0 false ≤ 1000) : zMet l yX7_run wsX7_run { frames := 4, cells := 0, slots := 0, locals := 101 } D (zT cy) tw (CW cy a kd co mk al dz rd rw wo sa sz ps bt ou bi dm pl re cu) [.ref (a 0), vI r, vI i] 0 0 (S := Unit) (fun _ => some (vI (lrun (px wo co r) co i (co + 1).toNat 0 0 false))) (fun _ => CW cy a kd co mk al dz rd rw wo sa sz ps bt ou bi dm pl re cu) (fun _ => True) := by
  refine z_met (cc := cX7_run) (nL := 4) (ret := some .int) (by decide +kernel) rfl (Nat.le_of_ble_eq_true rfl) (lv := [(0, .ref (a 0)), (1, vI r), (2, vI i)]) rfl ?_
  intro V p_ e_ s_ m_ args_ below_ meth_ c_ A_ C hmn
  have hinX7 : ∀ w ∈ u_ws RX7 TX7 8, w ∈ wsX7_run := by decide +kernel
  have k0 : Cond.fieldLink RX7 30 "FaxFilter" "picture" "LFaxFilter$Picture;" ∈ wsX7_run := List.mem_of_getElem? (i := 1) rfl
  refine z_aload_n C dX7_run_0 0 rfl ?_
  refine z_get C hinX7 (ci := 9) rfl 0 rfl 1 (by decide) k0 rfl (v := .ref (a 2)) rfl dX7_run_1 ?_
  refine z_iload_n C dX7_run_4 1 rfl ?_
  refine z_callV C (As := [vI r]) (st := []) (c_X2_has l D cy tw a kd co mk al dz rd rw wo sa sz ps bt ou bi dm pl re cu r  (by omega) (by omega)) gX7_run_X2_has kn_X2_has rfl ⟨rfl, rfl, Nat.le_of_ble_eq_true rfl, Nat.le_of_ble_eq_true rfl⟩ 2 rfl (ci := 4) rfl rfl (Nat.le_of_ble_eq_true rfl) ⟨Nat.le_of_ble_eq_true rfl, Nat.le_of_ble_eq_true rfl⟩ dX7_run_5 (fun u1 hu1 => ?_)
  clear hu1; clear u1
  show V 0 0 (CW cy a kd co mk al dz rd rw wo sa sz ps bt ou bi dm pl re cu) [(0, .ref (a 0)), (1, vI r), (2, vI i)] [vI (b2i (decide (0 ≤ r ∧ r < rw)))] 8
  refine z_ifz C (tgt := 23) dX7_run_8 (by decide) (fun hc_2 => ?_) (fun hc_2 => ?_)
  · exfalso; exact absurd (of_decide_eq_false hc_2) (fun z => z hin)
  · refine z_aload_n C dX7_run_11 0 rfl ?_
    refine z_get C hinX7 (ci := 9) rfl 0 rfl 1 (by decide) k0 rfl (v := .ref (a 2)) rfl dX7_run_12 ?_
    refine z_iload_n C dX7_run_15 1 rfl ?_
    refine z_iload_n C dX7_run_16 2 rfl ?_
    refine z_callV C (As := [vI r, vI i]) (st := []) (c_X2_lengthOfRun l D cy tw a kd co mk al dz rd rw wo sa sz ps bt ou bi dm pl re cu r i  (by omega) (by omega) (by omega)) gX7_run_X2_lengthOfRun kn_X2_lengthOfRun rfl ⟨rfl, rfl, Nat.le_of_ble_eq_true rfl, Nat.le_of_ble_eq_true rfl⟩ 2 rfl (ci := 4) rfl rfl (Nat.le_of_ble_eq_true rfl) ⟨Nat.le_of_ble_eq_true rfl, Nat.le_of_ble_eq_true rfl⟩ dX7_run_17 (fun u3 hu3 => ?_)
    clear hu3; clear u3
    show V 0 0 (CW cy a kd co mk al dz rd rw wo sa sz ps bt ou bi dm pl re cu) [(0, .ref (a 0)), (1, vI r), (2, vI i)] [vI (lrun (px wo co r) co i (co + 1).toNat 0 0 false)] 20
    refine z_goto C (tgt := 25) dX7_run_20 (by decide) ?_
    refine z_nmI (fun lv9 elv9 => ?_)
    refine z_istore_n C (lv' := [(3, vI lv9), (0, .ref (a 0)), (1, vI r), (2, vI i)]) dX7_run_25 rfl (by decide) rfl ?_
    refine z_iload_n C dX7_run_26 0 rfl ?_
    refine z_if_ge C (by omega) (tgt := 40) dX7_run_27 (by decide) (fun hc_4 => ?_) (fun hc_4 => ?_)
    · refine z_iload_n C dX7_run_40 0 rfl ?_
      refine z_iret (x := lv9) C dX7_run_41 () ?_ ?_ ?_ (by decide) (by decide)
      · rw [elv9]
      · exact trivial
      · exact rfl
    · exfalso; omega
theorem kn_X7_runs : zKn yX7_runs wsX7_runs cX7_runs 2 (some .int) 1 := ⟨⟨_, rfl⟩, by decide +kernel, by decide +kernel, by decide +kernel⟩
set_option maxHeartbeats 400000 in
set_option maxRecDepth 100000 in
theorem c_X7_runs (l : Launch) (D : va_G) (cy : Nat → ClassId) (tw : Nat → Nat) (a : Nat → Nat) (kd : Int) (co : Int) (mk : Bool) (al : Bool) (dz : Bool) (rd : Bool) (rw : Int) (wo : Nat → BitVec 64) (sa : Nat → Int) (sz : Int) (ps : Int) (bt : Nat → Int) (ou : Nat → BitVec 64) (bi : Int) (dm : Int) (pl : Bool) (re : Int) (cu : Bool) (r : Int)  (hco : 1 ≤ co ∧ co ≤ 700) (hrw : 0 ≤ rw ∧ rw ≤ 24) (hin : 0 ≤ r ∧ r < rw) : zMet l yX7_runs wsX7_runs { frames := 4, cells := 0, slots := 0, locals := 99 } D (zT cy) tw (CW cy a kd co mk al dz rd rw wo sa sz ps bt ou bi dm pl re cu) [.ref (a 0), vI r] 0 0 (S := Unit) (fun _ => some (vI (crun (px wo co r) co (co + 1).toNat 0 false))) (fun _ => CW cy a kd co mk al dz rd rw wo sa sz ps bt ou bi dm pl re cu) (fun _ => True) := by
  refine z_met (cc := cX7_runs) (nL := 2) (ret := some .int) (by decide +kernel) rfl (Nat.le_of_ble_eq_true rfl) (lv := [(0, .ref (a 0)), (1, vI r)]) rfl ?_
  intro V p_ e_ s_ m_ args_ below_ meth_ c_ A_ C hmn
  have hinX7 : ∀ w ∈ u_ws RX7 TX7 8, w ∈ wsX7_runs := by decide +kernel
  have k0 : Cond.fieldLink RX7 30 "FaxFilter" "picture" "LFaxFilter$Picture;" ∈ wsX7_runs := List.mem_of_getElem? (i := 1) rfl
  refine z_aload_n C dX7_runs_0 0 rfl ?_
  refine z_get C hinX7 (ci := 9) rfl 0 rfl 1 (by decide) k0 rfl (v := .ref (a 2)) rfl dX7_runs_1 ?_
  refine z_iload_n C dX7_runs_4 1 rfl ?_
  refine z_callV C (As := [vI r]) (st := []) (c_X2_has l D cy tw a kd co mk al dz rd rw wo sa sz ps bt ou bi dm pl re cu r  (by omega) (by omega)) gX7_runs_X2_has kn_X2_has rfl ⟨rfl, rfl, Nat.le_of_ble_eq_true rfl, Nat.le_of_ble_eq_true rfl⟩ 2 rfl (ci := 4) rfl rfl (Nat.le_of_ble_eq_true rfl) ⟨Nat.le_of_ble_eq_true rfl, Nat.le_of_ble_eq_true rfl⟩ dX7_runs_5 (fun u1 hu1 => ?_)
  clear hu1; clear u1
  show V 0 0 (CW cy a kd co mk al dz rd rw wo sa sz ps bt ou bi dm pl re cu) [(0, .ref (a 0)), (1, vI r)] [vI (b2i (decide (0 ≤ r ∧ r < rw)))] 8
  refine z_ifnz C (tgt := 21) dX7_runs_8 (by decide) (fun hc_2 => ?_) (fun hc_2 => ?_)
  · refine z_aload_n C dX7_runs_21 0 rfl ?_
    refine z_get C hinX7 (ci := 9) rfl 0 rfl 1 (by decide) k0 rfl (v := .ref (a 2)) rfl dX7_runs_22 ?_
    refine z_iload_n C dX7_runs_25 1 rfl ?_
    refine z_callV C (As := [vI r]) (st := []) (c_X2_countRuns l D cy tw a kd co mk al dz rd rw wo sa sz ps bt ou bi dm pl re cu r  (by omega) (by omega)) gX7_runs_X2_countRuns kn_X2_countRuns rfl ⟨rfl, rfl, Nat.le_of_ble_eq_true rfl, Nat.le_of_ble_eq_true rfl⟩ 2 rfl (ci := 4) rfl rfl (Nat.le_of_ble_eq_true rfl) ⟨Nat.le_of_ble_eq_true rfl, Nat.le_of_ble_eq_true rfl⟩ dX7_runs_26 (fun u3 hu3 => ?_)
    clear hu3; clear u3
    show V 0 0 (CW cy a kd co mk al dz rd rw wo sa sz ps bt ou bi dm pl re cu) [(0, .ref (a 0)), (1, vI r)] [vI (crun (px wo co r) co (co + 1).toNat 0 false)] 29
    refine z_iret (x := (crun (px wo co r) co (co + 1).toNat 0 false)) C dX7_runs_29 () ?_ ?_ ?_ (by decide) (by decide)
    · exact rfl
    · exact trivial
    · exact rfl
  · exfalso; exact absurd (of_decide_eq_false hc_2) (fun z => z hin)
theorem kn_X7_octet : zKn yX7_octet wsX7_octet cX7_octet 2 (some .int) 1 := ⟨⟨_, rfl⟩, by decide +kernel, by decide +kernel, by decide +kernel⟩
set_option maxHeartbeats 400000 in
set_option maxRecDepth 100000 in
theorem c_X7_octet (l : Launch) (D : va_G) (cy : Nat → ClassId) (tw : Nat → Nat) (a : Nat → Nat) (kd : Int) (co : Int) (mk : Bool) (al : Bool) (dz : Bool) (rd : Bool) (rw : Int) (wo : Nat → BitVec 64) (sa : Nat → Int) (sz : Int) (ps : Int) (bt : Nat → Int) (ou : Nat → BitVec 64) (bi : Int) (dm : Int) (pl : Bool) (re : Int) (cu : Bool) (i : Int)  (hco : 1 ≤ co ∧ co ≤ 700) (h0 : 0 ≤ bi ∧ bi ≤ 200000) (hin : 0 ≤ i ∧ i < (bi + 7) / 8) : zMet l yX7_octet wsX7_octet { frames := 1, cells := 0, slots := 0, locals := 22 } D (zT cy) tw (CW cy a kd co mk al dz rd rw wo sa sz ps bt ou bi dm pl re cu) [.ref (a 0), vI i] 0 0 (S := Unit) (fun _ => some (vI (obC ou co i))) (fun _ => CW cy a kd co mk al dz rd rw wo sa sz ps bt ou bi dm pl re cu) (fun _ => True) := by
  refine z_met (cc := cX7_octet) (nL := 2) (ret := some .int) (by decide +kernel) rfl (Nat.le_of_ble_eq_true rfl) (lv := [(0, .ref (a 0)), (1, vI i)]) rfl ?_
  intro V p_ e_ s_ m_ args_ below_ meth_ c_ A_ C hmn
  have hinX7 : ∀ w ∈ u_ws RX7 TX7 8, w ∈ wsX7_octet := by decide +kernel
  have k0 : Cond.fieldLink RX7 67 "FaxFilter" "written" "LFaxFilter$BitsOut;" ∈ wsX7_octet := List.mem_of_getElem? (i := 1) rfl
  refine z_iload_n C dX7_octet_0 1 rfl ?_
  refine z_if_lt C (by omega) (tgt := 15) dX7_octet_1 (by decide) (fun hc_1 => ?_) (fun hc_1 => ?_)
  · exfalso; omega
  · refine z_iload_n C dX7_octet_4 1 rfl ?_
    refine z_aload_n C dX7_octet_5 0 rfl ?_
    refine z_get C hinX7 (ci := 9) rfl 0 rfl 5 (by decide) k0 rfl (v := .ref (a 6)) rfl dX7_octet_6 ?_
    refine z_callV C (As := []) (st := [vI i]) (c_X1_size l D cy tw a kd co mk al dz rd rw wo sa sz ps bt ou bi dm pl re cu   (by omega)) gX7_octet_X1_size kn_X1_size rfl ⟨rfl, rfl, Nat.le_of_ble_eq_true rfl, Nat.le_of_ble_eq_true rfl⟩ 6 rfl (ci := 3) rfl rfl (Nat.le_of_ble_eq_true rfl) ⟨Nat.le_of_ble_eq_true rfl, Nat.le_of_ble_eq_true rfl⟩ dX7_octet_9 (fun u2 hu2 => ?_)
    clear hu2; clear u2
    show V 0 0 (CW cy a kd co mk al dz rd rw wo sa sz ps bt ou bi dm pl re cu) [(0, .ref (a 0)), (1, vI i)] [vI ((bi + 7) / 8), vI i] 12
    refine z_icmp_lt C (by omega) (by omega) (tgt := 25) dX7_octet_12 (by decide) (fun hc_3 => ?_) (fun hc_3 => ?_)
    · refine z_aload_n C dX7_octet_25 0 rfl ?_
      refine z_get C hinX7 (ci := 9) rfl 0 rfl 5 (by decide) k0 rfl (v := .ref (a 6)) rfl dX7_octet_26 ?_
      refine z_iload_n C dX7_octet_29 1 rfl ?_
      refine z_callV C (As := [vI i]) (st := []) (c_X1_byteAt l D cy tw a kd co mk al dz rd rw wo sa sz ps bt ou bi dm pl re cu i  (by omega) (by omega)) gX7_octet_X1_byteAt kn_X1_byteAt rfl ⟨rfl, rfl, Nat.le_of_ble_eq_true rfl, Nat.le_of_ble_eq_true rfl⟩ 6 rfl (ci := 3) rfl rfl (Nat.le_of_ble_eq_true rfl) ⟨Nat.le_of_ble_eq_true rfl, Nat.le_of_ble_eq_true rfl⟩ dX7_octet_30 (fun u4 hu4 => ?_)
      clear hu4; clear u4
      show V 0 0 (CW cy a kd co mk al dz rd rw wo sa sz ps bt ou bi dm pl re cu) [(0, .ref (a 0)), (1, vI i)] [vI (obC ou co i)] 33
      refine z_iret (x := (obC ou co i)) C dX7_octet_33 () ?_ ?_ ?_ (by decide) (by decide)
      · exact rfl
      · exact trivial
      · exact rfl
    · exfalso; omega
theorem kn_X7_code : zKn yX7_code wsX7_code cX7_code 5 (some .int) 2 := ⟨⟨_, rfl⟩, by decide +kernel, by decide +kernel, by decide +kernel⟩
set_option maxHeartbeats 400000 in
set_option maxRecDepth 100000 in
theorem c_X7_code (l : Launch) (D : va_G) (cy : Nat → ClassId) (tw : Nat → Nat) (a : Nat → Nat) (kd : Int) (co : Int) (mk : Bool) (al : Bool) (dz : Bool) (rd : Bool) (rw : Int) (wo : Nat → BitVec 64) (sa : Nat → Int) (sz : Int) (ps : Int) (bt : Nat → Int) (ou : Nat → BitVec 64) (bi : Int) (dm : Int) (pl : Bool) (re : Int) (cu : Bool) (d : Bool) (z : Int)  (hyz : -2147483648 ≤ z ∧ z < 2147483648) (hin : 0 ≤ sltC z ∧ sltC z < 74) : zMet l yX7_code wsX7_code { frames := 2, cells := 0, slots := 0, locals := 40 } D (zT cy) tw (CW cy a kd co mk al dz rd rw wo sa sz ps bt ou bi dm pl re cu) [.ref (a 0), vI (b2i d), vI z] 0 0 (S := Unit) (fun _ => some (vI (lenC d (sltC z) * 65536 + codC d (sltC z)))) (fun _ => CW cy a kd co mk al dz rd rw wo sa sz ps bt ou bi dm pl re cu) (fun _ => True) := by
  refine z_met (cc := cX7_code) (nL := 5) (ret := some .int) (by decide +kernel) rfl (Nat.le_of_ble_eq_true rfl) (lv := [(0, .ref (a 0)), (1, vI (b2i d)), (2, vI z)]) rfl ?_
  intro V p_ e_ s_ m_ args_ below_ meth_ c_ A_ C hmn
  have hinX7 : ∀ w ∈ u_ws RX7 TX7 8, w ∈ wsX7_code := by decide +kernel
  have k0 : Cond.fieldLink RX7 43 "FaxFilter" "whiteTable" "LFaxFilter$Table;" ∈ wsX7_code := List.mem_of_getElem? (i := 4) rfl
  have k1 : Cond.constant RX7 210 (65536) ∈ wsX7_code := List.mem_of_getElem? (i := 5) rfl
  have k2 : Cond.fieldLink RX7 50 "FaxFilter" "darkTable" "LFaxFilter$Table;" ∈ wsX7_code := List.mem_of_getElem? (i := 3) rfl
  refine z_iload_n C dX7_code_0 2 rfl ?_
  refine z_callS C (As := [vI z]) (st := []) (c_X6_slotOf l D cy tw a kd co mk al dz rd rw wo sa sz ps bt ou bi dm pl re cu z  (by omega)) gX7_code_X6_slotOf kn_X6_slotOf ⟨rfl, rfl, Nat.le_of_ble_eq_true rfl, Nat.le_of_ble_eq_true rfl⟩ rfl (Nat.le_of_ble_eq_true rfl) ⟨Nat.le_of_ble_eq_true rfl, Nat.le_of_ble_eq_true rfl⟩ dX7_code_1 (fun u1 hu1 => ?_)
  clear hu1; clear u1
  show V 0 0 (CW cy a kd co mk al dz rd rw wo sa sz ps bt ou bi dm pl re cu) [(0, .ref (a 0)), (1, vI (b2i d)), (2, vI z)] [vI (sltC z)] 4
  refine z_nmI (fun sv esv => ?_)
  refine z_istore_n C (lv' := [(3, vI sv), (0, .ref (a 0)), (1, vI (b2i d)), (2, vI z)]) dX7_code_4 rfl (by decide) rfl ?_
  refine z_iload_n C dX7_code_5 0 rfl ?_
  refine z_if_ge C (by omega) (tgt := 19) dX7_code_6 (by decide) (fun hc_2 => ?_) (fun hc_2 => ?_)
  · refine z_iload_n C dX7_code_19 2 rfl ?_
    refine z_ifz C (tgt := 30) dX7_code_20 (by decide) (fun cd => ?_) (fun cd => ?_)
    · refine z_aload_n C dX7_code_30 1 rfl ?_
      refine z_get C hinX7 (ci := 9) rfl 0 rfl 2 (by decide) k0 rfl (v := .ref (a 3)) rfl dX7_code_31 ?_
      refine z_astore C (lv' := [(4, .ref (a 3)), (3, vI sv), (0, .ref (a 0)), (1, vI (b2i d)), (2, vI z)]) dX7_code_34 (by decide) rfl ?_
      refine z_aload C dX7_code_36 0 rfl ?_
      refine z_iload_n C dX7_code_38 1 rfl ?_
      refine z_callV C (As := [vI sv]) (st := []) (c_X6_bitsOfW l D cy tw a kd co mk al dz rd rw wo sa sz ps bt ou bi dm pl re cu sv  (by omega)) gX7_code_X6_bitsOf kn_X6_bitsOf rfl ⟨rfl, rfl, Nat.le_of_ble_eq_true rfl, Nat.le_of_ble_eq_true rfl⟩ 3 rfl (ci := 8) rfl rfl (Nat.le_of_ble_eq_true rfl) ⟨Nat.le_of_ble_eq_true rfl, Nat.le_of_ble_eq_true rfl⟩ dX7_code_39 (fun u3 hu3 => ?_)
      clear hu3; clear u3
      show V 0 0 (CW cy a kd co mk al dz rd rw wo sa sz ps bt ou bi dm pl re cu) [(4, .ref (a 3)), (3, vI sv), (0, .ref (a 0)), (1, vI (b2i d)), (2, vI z)] [vI (lenC false sv)] 42
      refine z_ldc C (z := 65536) k1 dX7_code_42 ?_
      refine z_imul C dX7_code_44 ?_
      refine z_aload C dX7_code_45 0 rfl ?_
      refine z_iload_n C dX7_code_47 1 rfl ?_
      refine z_callV C (As := [vI sv]) (st := [vI ((lenC false sv) * 65536)]) (c_X6_codeOfW l D cy tw a kd co mk al dz rd rw wo sa sz ps bt ou bi dm pl re cu sv  (by omega)) gX7_code_X6_codeOf kn_X6_codeOf rfl ⟨rfl, rfl, Nat.le_of_ble_eq_true rfl, Nat.le_of_ble_eq_true rfl⟩ 3 rfl (ci := 8) rfl rfl (Nat.le_of_ble_eq_true rfl) ⟨Nat.le_of_ble_eq_true rfl, Nat.le_of_ble_eq_true rfl⟩ dX7_code_48 (fun u4 hu4 => ?_)
      clear hu4; clear u4
      show V 0 0 (CW cy a kd co mk al dz rd rw wo sa sz ps bt ou bi dm pl re cu) [(4, .ref (a 3)), (3, vI sv), (0, .ref (a 0)), (1, vI (b2i d)), (2, vI z)] [vI (codC false sv), vI ((lenC false sv) * 65536)] 51
      refine z_iadd C dX7_code_51 ?_
      refine z_iret (x := (((lenC false sv) * 65536) + (codC false sv))) C dX7_code_52 () ?_ ?_ ?_ (by decide) (by decide)
      · rw [cd, ← esv]
      · exact trivial
      · exact rfl
    · refine z_aload_n C dX7_code_23 1 rfl ?_
      refine z_get C hinX7 (ci := 9) rfl 0 rfl 3 (by decide) k2 rfl (v := .ref (a 4)) rfl dX7_code_24 ?_
      refine z_goto C (tgt := 34) dX7_code_27 (by decide) ?_
      refine z_astore C (lv' := [(4, .ref (a 4)), (3, vI sv), (0, .ref (a 0)), (1, vI (b2i d)), (2, vI z)]) dX7_code_34 (by decide) rfl ?_
      refine z_aload C dX7_code_36 0 rfl ?_
      refine z_iload_n C dX7_code_38 1 rfl ?_
      refine z_callV C (As := [vI sv]) (st := []) (c_X6_bitsOfD l D cy tw a kd co mk al dz rd rw wo sa sz ps bt ou bi dm pl re cu sv  (by omega)) gX7_code_X6_bitsOf kn_X6_bitsOf rfl ⟨rfl, rfl, Nat.le_of_ble_eq_true rfl, Nat.le_of_ble_eq_true rfl⟩ 4 rfl (ci := 8) rfl rfl (Nat.le_of_ble_eq_true rfl) ⟨Nat.le_of_ble_eq_true rfl, Nat.le_of_ble_eq_true rfl⟩ dX7_code_39 (fun u5 hu5 => ?_)
      clear hu5; clear u5
      show V 0 0 (CW cy a kd co mk al dz rd rw wo sa sz ps bt ou bi dm pl re cu) [(4, .ref (a 4)), (3, vI sv), (0, .ref (a 0)), (1, vI (b2i d)), (2, vI z)] [vI (lenC true sv)] 42
      refine z_ldc C (z := 65536) k1 dX7_code_42 ?_
      refine z_imul C dX7_code_44 ?_
      refine z_aload C dX7_code_45 0 rfl ?_
      refine z_iload_n C dX7_code_47 1 rfl ?_
      refine z_callV C (As := [vI sv]) (st := [vI ((lenC true sv) * 65536)]) (c_X6_codeOfD l D cy tw a kd co mk al dz rd rw wo sa sz ps bt ou bi dm pl re cu sv  (by omega)) gX7_code_X6_codeOf kn_X6_codeOf rfl ⟨rfl, rfl, Nat.le_of_ble_eq_true rfl, Nat.le_of_ble_eq_true rfl⟩ 4 rfl (ci := 8) rfl rfl (Nat.le_of_ble_eq_true rfl) ⟨Nat.le_of_ble_eq_true rfl, Nat.le_of_ble_eq_true rfl⟩ dX7_code_48 (fun u6 hu6 => ?_)
      clear hu6; clear u6
      show V 0 0 (CW cy a kd co mk al dz rd rw wo sa sz ps bt ou bi dm pl re cu) [(4, .ref (a 4)), (3, vI sv), (0, .ref (a 0)), (1, vI (b2i d)), (2, vI z)] [vI (codC true sv), vI ((lenC true sv) * 65536)] 51
      refine z_iadd C dX7_code_51 ?_
      refine z_iret (x := (((lenC true sv) * 65536) + (codC true sv))) C dX7_code_52 () ?_ ?_ ?_ (by decide) (by decide)
      · rw [cd, ← esv]
      · exact trivial
      · exact rfl
  · exfalso; omega
