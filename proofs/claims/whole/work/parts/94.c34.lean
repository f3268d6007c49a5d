theorem goodIn_vA {a E ws : List Cond} {own C : String} {i : Nat} {y : MethodName} (h : GoodIn a (wsV own i C y ws)) (hE : E.all goodWord = true) : GoodIn (a ++ E) (wsV own i C y (ws ++ E)) := by
  unfold wsV at *
  rw [← List.append_assoc]
  exact goodIn_app (goodIn_mo (fun w hw => List.mem_append_left _ hw) h) (goodIn_sub (fun w hw => List.mem_append_right _ hw) hE)
theorem goodE : ((vx_atS RX7 159 "java/lang/ArrayIndexOutOfBoundsException" zxnA).filter goodWord).all goodWord = true := List.all_eq_true.mpr (fun w hw => (List.mem_filter.mp hw).2)
theorem kn_L_told : zKnW yL_told wsL_told cL_told 4 (some .int) [(0, 9, 12, 13)] 3 := ⟨⟨_, rfl⟩, by decide +kernel, by decide +kernel, by decide +kernel⟩
set_option maxHeartbeats 1000000 in
set_option maxRecDepth 100000 in
theorem c_L_told (l : Launch) (D : va_G) (cy : Nat → ClassId) (tw sr : Nat → Nat) (o : Nat) (a : Nat → Nat) (fo : Nat → BitVec 64) (kd : Int) (co : Int) (mk : Bool) (al : Bool) (dz : Bool) (rd : Bool) (rw : Int) (wo : Nat → BitVec 64) (sa : Nat → Int) (sz : Int) (ps : Int) (bt : Nat → Int) (ou : Nat → BitVec 64) (bi : Int) (dm : Int) (pl : Bool) (re : Int) (cu : Bool) (z : Int) (hz : 0 ≤ z ∧ z ≤ 6) (h0 : 0 ≤ bi ∧ bi ≤ 200000) (hv9 : -2147483648 ≤ ((if z = 0 then kd else if z = 1 then co else if z = 2 then rw else if z = 3 then sz else if z = 4 then (bi + 7) / 8 else if z = 5 then ps else dm) : Int) ∧ ((if z = 0 then kd else if z = 1 then co else if z = 2 then rw else if z = 3 then sz else if z = 4 then (bi + 7) / 8 else if z = 5 then ps else dm) : Int) < 2147483648) : zMetB l yL_told wsL_told { frames := 2, cells := 0, slots := 0, locals := 41 } D (zT cy) tw sr ([(o, aJ (cy 2) 1 fo)] ++ CW cy a kd co mk al dz rd rw wo sa sz ps bt ou bi dm pl re cu) [.ref (a 0), vI z, .ref o] 0 0 (S := Unit) (fun _ => some (vI 0)) (fun _ => [(o, aJ (cy 2) 1 (va_up fo (0 : Int).toNat (BitVec.ofInt 64 (if z = 0 then kd else if z = 1 then co else if z = 2 then rw else if z = 3 then sz else if z = 4 then (bi + 7) / 8 else if z = 5 then ps else dm))))] ++ CW cy a kd co mk al dz rd rw wo sa sz ps bt ou bi dm pl re cu) (fun _ => True) := by
  refine z_metH (cc := cL_told) (nL := 4) (ret := some .int) (hh := [(0, 9, 12, 13)]) (by decide +kernel) rfl (Nat.le_of_ble_eq_true rfl) (lv := [(0, .ref (a 0)), (1, vI z), (2, .ref o)]) rfl ?_
  intro V p_ e_ s_ m_ args_ below_ meth_ c_ A_ C XL htab
  refine z_aload_n C dL_told_0 2 rfl ?_
  refine z_iconst C (z := 0) dL_told_1 ?_
  refine z_aload_n C dL_told_2 0 rfl ?_
  refine z_iload_n C dL_told_3 1 rfl ?_
  refine z_callVE C (X := [(o, aJ (cy 2) 1 fo)]) (W0 := CW cy a kd co mk al dz rd rw wo sa sz ps bt ou bi dm pl re cu) (As := [vI z]) (st := [vI 0, .ref o]) (c_X7_told l D cy tw a kd co mk al dz rd rw wo sa sz ps bt ou bi dm pl re cu z hz h0) gL_told_X7_told kn_X7_told rfl ⟨rfl, rfl, Nat.le_of_ble_eq_true rfl, Nat.le_of_ble_eq_true rfl⟩ 0 rfl (ci := 9) rfl rfl (Nat.le_of_ble_eq_true rfl) ⟨Nat.le_of_ble_eq_true rfl, Nat.le_of_ble_eq_true rfl⟩ dL_told_4 (fun u hu => ?_)
  show V 0 0 ([(o, aJ (cy 2) 1 fo)] ++ CW cy a kd co mk al dz rd rw wo sa sz ps bt ou bi dm pl re cu) [(0, .ref (a 0)), (1, vI z), (2, .ref o)] [vI (if z = 0 then kd else if z = 1 then co else if z = 2 then rw else if z = 3 then sz else if z = 4 then (bi + 7) / 8 else if z = 5 then ps else dm), vI 0, .ref o] 7
  refine z_i2l C hv9 dL_told_7 ?_
  refine z_last C 0 2 (g := fo) rfl rfl (by decide) (by decide) (by decide) dL_told_8 (ws' := [(o, aJ (cy 2) 1 (va_up fo (0 : Int).toNat (BitVec.ofInt 64 (if z = 0 then kd else if z = 1 then co else if z = 2 then rw else if z = 3 then sz else if z = 4 then (bi + 7) / 8 else if z = 5 then ps else dm))))] ++ CW cy a kd co mk al dz rd rw wo sa sz ps bt ou bi dm pl re cu) rfl ?_
  refine z_goto C (tgt := 15) dL_told_9 (by decide) ?_
  refine z_iconst C (z := 0) dL_told_15 ?_
  exact z_iret (x := 0) C dL_told_16 u rfl hu rfl (by decide) (by decide)
set_option maxHeartbeats 1000000 in
set_option maxRecDepth 100000 in
theorem c_L_toldX (l : Launch) (hl9 : l.stackTraces = false) (D : va_G) (cy : Nat → ClassId) (tw sr : Nat → Nat) (o : Nat) (a : Nat → Nat) (fo : Nat → BitVec 64) (kd : Int) (co : Int) (mk : Bool) (al : Bool) (dz : Bool) (rd : Bool) (rw : Int) (wo : Nat → BitVec 64) (sa : Nat → Int) (sz : Int) (ps : Int) (bt : Nat → Int) (ou : Nat → BitVec 64) (bi : Int) (dm : Int) (pl : Bool) (re : Int) (cu : Bool) (z : Int) (hyz : -2147483648 ≤ z ∧ z < 2147483648) (hno : z < 0 ∨ 6 < z) : zMetB l yL_told wsL_told { frames := 7, cells := 1, slots := 6, locals := 103 } D (zT cy) tw sr ([(o, aJ (cy 2) 1 fo)] ++ CW cy a kd co mk al dz rd rw wo sa sz ps bt ou bi dm pl re cu) [.ref (a 0), vI z, .ref o] 1 6 (S := Unit) (fun _ => some (vI 1)) (fun _ => [(o, aJ (cy 2) 1 fo)] ++ CW cy a kd co mk al dz rd rw wo sa sz ps bt ou bi dm pl re cu) (fun _ => True) := by
  refine z_metH (cc := cL_told) (nL := 4) (ret := some .int) (hh := [(0, 9, 12, 13)]) (by decide +kernel) rfl (Nat.le_of_ble_eq_true rfl) (lv := [(0, .ref (a 0)), (1, vI z), (2, .ref o)]) rfl ?_
  intro V p_ e_ s_ m_ args_ below_ meth_ c_ A_ C XL htab
  refine z_aload_n C dL_told_0 2 rfl ?_
  refine z_iconst C (z := 0) dL_told_1 ?_
  refine z_aload_n C dL_told_2 0 rfl ?_
  refine z_iload_n C dL_told_3 1 rfl ?_
  refine z_callVXE C XL (X := [(o, aJ (cy 2) 1 fo)]) (W0 := CW cy a kd co mk al dz rd rw wo sa sz ps bt ou bi dm pl re cu) (As := [vI z]) (st := [vI 0, .ref o]) (c_X7_toldX l hl9 D cy tw sr a kd co mk al dz rd rw wo sa sz ps bt ou bi dm pl re cu z hyz hno) gL_told_X7_told kn_X7_told rfl ⟨rfl, rfl, Nat.le_of_ble_eq_true rfl, Nat.le_of_ble_eq_true rfl⟩ 0 rfl (ci := 9) rfl rfl (Nat.le_of_ble_eq_true rfl) ⟨Nat.le_of_ble_eq_true rfl, Nat.le_of_ble_eq_true rfl⟩ dL_told_4 [] ⟨0, 9, 12, 13⟩ [] (by rw [htab]; rfl) (fun z hz => absurd hz List.not_mem_nil) (by decide) (by decide) (List.mem_of_getElem? (i := 1) rfl) (by decide +kernel) (fun q => ?_)
  show V 1 6 ([(o, aJ (cy 2) 1 fo)] ++ CW cy a kd co mk al dz rd rw wo sa sz ps bt ou bi dm pl re cu) [(0, .ref (a 0)), (1, vI z), (2, .ref o)] [.ref q] 12
  refine z_astore_n C (lv' := [(3, .ref q), (0, .ref (a 0)), (1, vI z), (2, .ref o)]) dL_told_12 rfl (by decide) rfl ?_
  refine z_iconst C (z := 1) dL_told_13 ?_
  exact z_iret (x := 1) C dL_told_14 () rfl trivial rfl (by decide) (by decide)
theorem kn_L_setting : zKnW yL_setting wsL_setting cL_setting 4 (some .int) [(0, 6, 9, 13)] 3 := ⟨⟨_, rfl⟩, by decide +kernel, by decide +kernel, by decide +kernel⟩
set_option maxHeartbeats 1000000 in
set_option maxRecDepth 100000 in
theorem c_L_setting (l : Launch) (D : va_G) (cy : Nat → ClassId) (tw sr : Nat → Nat) (a : Nat → Nat) (kd : Int) (co : Int) (mk : Bool) (al : Bool) (dz : Bool) (rd : Bool) (rw : Int) (wo : Nat → BitVec 64) (sa : Nat → Int) (sz : Int) (ps : Int) (bt : Nat → Int) (ou : Nat → BitVec 64) (bi : Int) (dm : Int) (pl : Bool) (re : Int) (cu : Bool) (z : Int) (d : Bool) (hz : 0 ≤ z ∧ z ≤ 3) : zMetB l yL_setting wsL_setting { frames := 1, cells := 0, slots := 0, locals := 22 } D (zT cy) tw sr (CW cy a kd co mk al dz rd rw wo sa sz ps bt ou bi dm pl re cu) [.ref (a 0), vI z, vI (b2i d)] 0 0 (S := Unit) (fun _ => some (vI 0)) (fun _ => CW cy a kd co (if z = 0 then d else mk) (if z = 1 then d else al) (if z = 2 then d else dz) (if z = 3 then d else rd) rw wo sa sz ps bt ou bi dm pl re cu) (fun _ => True) := by
  refine z_metH (cc := cL_setting) (nL := 4) (ret := some .int) (hh := [(0, 6, 9, 13)]) (by decide +kernel) rfl (Nat.le_of_ble_eq_true rfl) (lv := [(0, .ref (a 0)), (1, vI z), (2, vI (b2i d))]) rfl ?_
  intro V p_ e_ s_ m_ args_ below_ meth_ c_ A_ C XL htab
  refine z_aload_n C dL_setting_0 0 rfl ?_
  refine z_iload_n C dL_setting_1 1 rfl ?_
  refine z_iload_n C dL_setting_2 2 rfl ?_
  show V 0 0 ([] ++ CW cy a kd co mk al dz rd rw wo sa sz ps bt ou bi dm pl re cu) [(0, .ref (a 0)), (1, vI z), (2, vI (b2i d))] ([vI z, vI (b2i d)].reverse ++ .ref (a 0) :: []) 3
  refine z_callVE C (X := []) (W0 := CW cy a kd co mk al dz rd rw wo sa sz ps bt ou bi dm pl re cu) (As := [vI z, vI (b2i d)]) (st := []) (c_X7_setting l D cy tw a kd co mk al dz rd rw wo sa sz ps bt ou bi dm pl re cu z d hz) gL_setting_X7_setting kn_X7_setting rfl ⟨rfl, rfl, Nat.le_of_ble_eq_true rfl, Nat.le_of_ble_eq_true rfl⟩ 0 rfl (ci := 9) rfl rfl (Nat.le_of_ble_eq_true rfl) ⟨Nat.le_of_ble_eq_true rfl, Nat.le_of_ble_eq_true rfl⟩ dL_setting_3 (fun u hu => ?_)
  show V 0 0 (CW cy a kd co (if z = 0 then d else mk) (if z = 1 then d else al) (if z = 2 then d else dz) (if z = 3 then d else rd) rw wo sa sz ps bt ou bi dm pl re cu) [(0, .ref (a 0)), (1, vI z), (2, vI (b2i d))] [] 6
  refine z_goto C (tgt := 12) dL_setting_6 (by decide) ?_
  refine z_iconst C (z := 0) dL_setting_12 ?_
  exact z_iret (x := 0) C dL_setting_13 u rfl hu rfl (by decide) (by decide)
set_option maxHeartbeats 1000000 in
set_option maxRecDepth 100000 in
theorem c_L_settingX (l : Launch) (hl9 : l.stackTraces = false) (D : va_G) (cy : Nat → ClassId) (tw sr : Nat → Nat) (a : Nat → Nat) (kd : Int) (co : Int) (mk : Bool) (al : Bool) (dz : Bool) (rd : Bool) (rw : Int) (wo : Nat → BitVec 64) (sa : Nat → Int) (sz : Int) (ps : Int) (bt : Nat → Int) (ou : Nat → BitVec 64) (bi : Int) (dm : Int) (pl : Bool) (re : Int) (cu : Bool) (z : Int) (d : Bool) (hyz : -2147483648 ≤ z ∧ z < 2147483648) (hno : z < 0 ∨ 3 < z) : zMetB l yL_setting wsL_setting { frames := 7, cells := 1, slots := 6, locals := 104 } D (zT cy) tw sr (CW cy a kd co mk al dz rd rw wo sa sz ps bt ou bi dm pl re cu) [.ref (a 0), vI z, vI (b2i d)] 1 6 (S := Unit) (fun _ => some (vI 1)) (fun _ => CW cy a kd co mk al dz rd rw wo sa sz ps bt ou bi dm pl re cu) (fun _ => True) := by
  refine z_metH (cc := cL_setting) (nL := 4) (ret := some .int) (hh := [(0, 6, 9, 13)]) (by decide +kernel) rfl (Nat.le_of_ble_eq_true rfl) (lv := [(0, .ref (a 0)), (1, vI z), (2, vI (b2i d))]) rfl ?_
  intro V p_ e_ s_ m_ args_ below_ meth_ c_ A_ C XL htab
  refine z_aload_n C dL_setting_0 0 rfl ?_
  refine z_iload_n C dL_setting_1 1 rfl ?_
  refine z_iload_n C dL_setting_2 2 rfl ?_
  show V 0 0 ([] ++ CW cy a kd co mk al dz rd rw wo sa sz ps bt ou bi dm pl re cu) [(0, .ref (a 0)), (1, vI z), (2, vI (b2i d))] ([vI z, vI (b2i d)].reverse ++ .ref (a 0) :: []) 3
  refine z_callVXE C XL (X := []) (W0 := CW cy a kd co mk al dz rd rw wo sa sz ps bt ou bi dm pl re cu) (As := [vI z, vI (b2i d)]) (st := []) (c_X7_settingX l hl9 D cy tw sr a kd co mk al dz rd rw wo sa sz ps bt ou bi dm pl re cu z d hyz hno) gL_setting_X7_setting kn_X7_setting rfl ⟨rfl, rfl, Nat.le_of_ble_eq_true rfl, Nat.le_of_ble_eq_true rfl⟩ 0 rfl (ci := 9) rfl rfl (Nat.le_of_ble_eq_true rfl) ⟨Nat.le_of_ble_eq_true rfl, Nat.le_of_ble_eq_true rfl⟩ dL_setting_3 [] ⟨0, 6, 9, 13⟩ [] (by rw [htab]; rfl) (fun z hz => absurd hz List.not_mem_nil) (by decide) (by decide) (List.mem_of_getElem? (i := 1) rfl) (by decide +kernel) (fun q => ?_)
  show V 1 6 (CW cy a kd co mk al dz rd rw wo sa sz ps bt ou bi dm pl re cu) [(0, .ref (a 0)), (1, vI z), (2, vI (b2i d))] [.ref q] 9
  refine z_astore_n C (lv' := [(3, .ref q), (0, .ref (a 0)), (1, vI z), (2, vI (b2i d))]) dL_setting_9 rfl (by decide) rfl ?_
  refine z_iconst C (z := 1) dL_setting_10 ?_
  exact z_iret (x := 1) C dL_setting_11 () rfl trivial rfl (by decide) (by decide)
theorem kn_L_read : zKnW yL_read wsL_read cL_read 4 (some .int) [(0, 9, 12, 13)] 3 := ⟨⟨_, rfl⟩, by decide +kernel, by decide +kernel, by decide +kernel⟩
set_option maxHeartbeats 1000000 in
set_option maxRecDepth 100000 in
theorem c_L_read (l : Launch) (D : va_G) (cy : Nat → ClassId) (tw sr : Nat → Nat) (o : Nat) (a : Nat → Nat) (fo : Nat → BitVec 64) (kd : Int) (co : Int) (mk : Bool) (al : Bool) (dz : Bool) (rd : Bool) (rw : Int) (wo : Nat → BitVec 64) (sa : Nat → Int) (sz : Int) (ps : Int) (bt : Nat → Int) (ou : Nat → BitVec 64) (bi : Int) (dm : Int) (pl : Bool) (re : Int) (cu : Bool) (z : Int) (hco : 1 ≤ co ∧ co ≤ 700) (hk : 0 ≤ kd ∧ kd ≤ 2) (h0 : 0 ≤ sz ∧ sz ≤ 400) (hz : 0 ≤ z ∧ z ≤ 24) (hv9 : -2147483648 ≤ (((rdAll (inC bt sz) (8 * sz) co kd mk al rd (z : Int).toNat 0 0 0 P00 S00).1) : Int) ∧ (((rdAll (inC bt sz) (8 * sz) co kd mk al rd (z : Int).toNat 0 0 0 P00 S00).1) : Int) < 2147483648) : zMetB l yL_read wsL_read { frames := 7, cells := 0, slots := 0, locals := 175 } D (zT cy) tw sr ([(o, aJ (cy 2) 1 fo)] ++ CW cy a kd co mk al dz rd rw wo sa sz ps bt ou bi dm pl re cu) [.ref (a 0), vI z, .ref o] 0 0 (S := (Nat → BitVec 64) × (Nat → Int) × Bool × Int × Bool) (fun _ => some (vI 0)) (fun u => [(o, aJ (cy 2) 1 (va_up fo (0 : Int).toNat (BitVec.ofInt 64 ((rdAll (inC bt sz) (8 * sz) co kd mk al rd (z : Int).toNat 0 0 0 P00 S00).1))))] ++ CW cy a kd co mk al dz rd ((rdAll (inC bt sz) (8 * sz) co kd mk al rd (z : Int).toNat 0 0 0 P00 S00).1) u.1 u.2.1 sz ((rdAll (inC bt sz) (8 * sz) co kd mk al rd (z : Int).toNat 0 0 0 P00 S00).2.1) bt ou bi ((rdAll (inC bt sz) (8 * sz) co kd mk al rd (z : Int).toNat 0 0 0 P00 S00).2.2.1) u.2.2.1 u.2.2.2.1 u.2.2.2.2) (fun u => PR (px u.1 co) co (rdAll (inC bt sz) (8 * sz) co kd mk al rd (z : Int).toNat 0 0 0 P00 S00).1 (rdAll (inC bt sz) (8 * sz) co kd mk al rd (z : Int).toNat 0 0 0 P00 S00).2.2.2.1 ∧ SR u.2.1 (rdAll (inC bt sz) (8 * sz) co kd mk al rd (z : Int).toNat 0 0 0 P00 S00).1 (rdAll (inC bt sz) (8 * sz) co kd mk al rd (z : Int).toNat 0 0 0 P00 S00).2.2.2.2) := by
  refine z_metH (cc := cL_read) (nL := 4) (ret := some .int) (hh := [(0, 9, 12, 13)]) (by decide +kernel) rfl (Nat.le_of_ble_eq_true rfl) (lv := [(0, .ref (a 0)), (1, vI z), (2, .ref o)]) rfl ?_
  intro V p_ e_ s_ m_ args_ below_ meth_ c_ A_ C XL htab
  refine z_aload_n C dL_read_0 2 rfl ?_
  refine z_iconst C (z := 0) dL_read_1 ?_
  refine z_aload_n C dL_read_2 0 rfl ?_
  refine z_iload_n C dL_read_3 1 rfl ?_
  refine z_callVE C (X := [(o, aJ (cy 2) 1 fo)]) (W0 := CW cy a kd co mk al dz rd rw wo sa sz ps bt ou bi dm pl re cu) (As := [vI z]) (st := [vI 0, .ref o]) (c_X7_read l D cy tw a kd co mk al dz rd rw wo sa sz ps bt ou bi dm pl re cu z hco hk h0 hz) gL_read_X7_read kn_X7_read rfl ⟨rfl, rfl, Nat.le_of_ble_eq_true rfl, Nat.le_of_ble_eq_true rfl⟩ 0 rfl (ci := 9) rfl rfl (Nat.le_of_ble_eq_true rfl) ⟨Nat.le_of_ble_eq_true rfl, Nat.le_of_ble_eq_true rfl⟩ dL_read_4 (fun u hu => ?_)
  show V 0 0 ([(o, aJ (cy 2) 1 fo)] ++ CW cy a kd co mk al dz rd ((rdAll (inC bt sz) (8 * sz) co kd mk al rd (z : Int).toNat 0 0 0 P00 S00).1) u.1 u.2.1 sz ((rdAll (inC bt sz) (8 * sz) co kd mk al rd (z : Int).toNat 0 0 0 P00 S00).2.1) bt ou bi ((rdAll (inC bt sz) (8 * sz) co kd mk al rd (z : Int).toNat 0 0 0 P00 S00).2.2.1) u.2.2.1 u.2.2.2.1 u.2.2.2.2) [(0, .ref (a 0)), (1, vI z), (2, .ref o)] [vI ((rdAll (inC bt sz) (8 * sz) co kd mk al rd (z : Int).toNat 0 0 0 P00 S00).1), vI 0, .ref o] 7
  refine z_i2l C hv9 dL_read_7 ?_
  refine z_last C 0 2 (g := fo) rfl rfl (by decide) (by decide) (by decide) dL_read_8 (ws' := [(o, aJ (cy 2) 1 (va_up fo (0 : Int).toNat (BitVec.ofInt 64 ((rdAll (inC bt sz) (8 * sz) co kd mk al rd (z : Int).toNat 0 0 0 P00 S00).1))))] ++ CW cy a kd co mk al dz rd ((rdAll (inC bt sz) (8 * sz) co kd mk al rd (z : Int).toNat 0 0 0 P00 S00).1) u.1 u.2.1 sz ((rdAll (inC bt sz) (8 * sz) co kd mk al rd (z : Int).toNat 0 0 0 P00 S00).2.1) bt ou bi ((rdAll (inC bt sz) (8 * sz) co kd mk al rd (z : Int).toNat 0 0 0 P00 S00).2.2.1) u.2.2.1 u.2.2.2.1 u.2.2.2.2) rfl ?_
  refine z_goto C (tgt := 15) dL_read_9 (by decide) ?_
  refine z_iconst C (z := 0) dL_read_15 ?_
  exact z_iret (x := 0) C dL_read_16 u rfl hu rfl (by decide) (by decide)
set_option maxHeartbeats 1000000 in
set_option maxRecDepth 100000 in
theorem c_L_readX (l : Launch) (hl9 : l.stackTraces = false) (D : va_G) (cy : Nat → ClassId) (tw sr : Nat → Nat) (o : Nat) (a : Nat → Nat) (fo : Nat → BitVec 64) (kd : Int) (co : Int) (mk : Bool) (al : Bool) (dz : Bool) (rd : Bool) (rw : Int) (wo : Nat → BitVec 64) (sa : Nat → Int) (sz : Int) (ps : Int) (bt : Nat → Int) (ou : Nat → BitVec 64) (bi : Int) (dm : Int) (pl : Bool) (re : Int) (cu : Bool) (z : Int) (hyz : -2147483648 ≤ z ∧ z < 2147483648) (hno : z < 0 ∨ 24 < z) : zMetB l yL_read wsL_read { frames := 7, cells := 1, slots := 6, locals := 175 } D (zT cy) tw sr ([(o, aJ (cy 2) 1 fo)] ++ CW cy a kd co mk al dz rd rw wo sa sz ps bt ou bi dm pl re cu) [.ref (a 0), vI z, .ref o] 1 6 (S := Unit) (fun _ => some (vI 1)) (fun _ => [(o, aJ (cy 2) 1 fo)] ++ CW cy a kd co mk al dz rd rw wo sa sz ps bt ou bi dm pl re cu) (fun _ => True) := by
  refine z_metH (cc := cL_read) (nL := 4) (ret := some .int) (hh := [(0, 9, 12, 13)]) (by decide +kernel) rfl (Nat.le_of_ble_eq_true rfl) (lv := [(0, .ref (a 0)), (1, vI z), (2, .ref o)]) rfl ?_
  intro V p_ e_ s_ m_ args_ below_ meth_ c_ A_ C XL htab
  refine z_aload_n C dL_read_0 2 rfl ?_
  refine z_iconst C (z := 0) dL_read_1 ?_
  refine z_aload_n C dL_read_2 0 rfl ?_
  refine z_iload_n C dL_read_3 1 rfl ?_
  refine z_callVXE C XL (X := [(o, aJ (cy 2) 1 fo)]) (W0 := CW cy a kd co mk al dz rd rw wo sa sz ps bt ou bi dm pl re cu) (As := [vI z]) (st := [vI 0, .ref o]) (c_X7_readX l hl9 D cy tw sr a kd co mk al dz rd rw wo sa sz ps bt ou bi dm pl re cu z hyz hno) gL_read_X7_read kn_X7_read rfl ⟨rfl, rfl, Nat.le_of_ble_eq_true rfl, Nat.le_of_ble_eq_true rfl⟩ 0 rfl (ci := 9) rfl rfl (Nat.le_of_ble_eq_true rfl) ⟨Nat.le_of_ble_eq_true rfl, Nat.le_of_ble_eq_true rfl⟩ dL_read_4 [] ⟨0, 9, 12, 13⟩ [] (by rw [htab]; rfl) (fun z hz => absurd hz List.not_mem_nil) (by decide) (by decide) (List.mem_of_getElem? (i := 1) rfl) (by decide +kernel) (fun q => ?_)
  show V 1 6 ([(o, aJ (cy 2) 1 fo)] ++ CW cy a kd co mk al dz rd rw wo sa sz ps bt ou bi dm pl re cu) [(0, .ref (a 0)), (1, vI z), (2, .ref o)] [.ref q] 12
  refine z_astore_n C (lv' := [(3, .ref q), (0, .ref (a 0)), (1, vI z), (2, .ref o)]) dL_read_12 rfl (by decide) rfl ?_
  refine z_iconst C (z := 1) dL_read_13 ?_
  exact z_iret (x := 1) C dL_read_14 () rfl trivial rfl (by decide) (by decide)
theorem kn_L_state : zKnW yL_state wsL_state cL_state 4 (some .int) [(0, 9, 12, 25)] 3 := ⟨⟨_, rfl⟩, by decide +kernel, by decide +kernel, by decide +kernel⟩
set_option maxHeartbeats 1000000 in
set_option maxRecDepth 100000 in
theorem c_L_state (l : Launch) (D : va_G) (cy : Nat → ClassId) (tw sr : Nat → Nat) (o : Nat) (a : Nat → Nat) (fo : Nat → BitVec 64) (kd : Int) (co : Int) (mk : Bool) (al : Bool) (dz : Bool) (rd : Bool) (rw : Int) (wo : Nat → BitVec 64) (sa : Nat → Int) (sz : Int) (ps : Int) (bt : Nat → Int) (ou : Nat → BitVec 64) (bi : Int) (dm : Int) (pl : Bool) (re : Int) (cu : Bool) (r : Int) (hrw : 0 ≤ rw ∧ rw ≤ 24) (hin : 0 ≤ r ∧ r < rw) (hv9 : -2147483648 ≤ ((sa (r : Int).toNat) : Int) ∧ ((sa (r : Int).toNat) : Int) < 2147483648) : zMetB l yL_state wsL_state { frames := 2, cells := 0, slots := 0, locals := 42 } D (zT cy) tw sr ([(o, aJ (cy 2) 1 fo)] ++ CW cy a kd co mk al dz rd rw wo sa sz ps bt ou bi dm pl re cu) [.ref (a 0), vI r, .ref o] 0 0 (S := Unit) (fun _ => some (vI 0)) (fun _ => [(o, aJ (cy 2) 1 (va_up fo (0 : Int).toNat (BitVec.ofInt 64 (sa (r : Int).toNat))))] ++ CW cy a kd co mk al dz rd rw wo sa sz ps bt ou bi dm pl re cu) (fun _ => True) := by
  refine z_metH (cc := cL_state) (nL := 4) (ret := some .int) (hh := [(0, 9, 12, 25)]) (by decide +kernel) rfl (Nat.le_of_ble_eq_true rfl) (lv := [(0, .ref (a 0)), (1, vI r), (2, .ref o)]) rfl ?_
  intro V p_ e_ s_ m_ args_ below_ meth_ c_ A_ C XL htab
  refine z_aload_n C dL_state_0 2 rfl ?_
  refine z_iconst C (z := 0) dL_state_1 ?_
  refine z_aload_n C dL_state_2 0 rfl ?_
  refine z_iload_n C dL_state_3 1 rfl ?_
  refine z_callVE C (X := [(o, aJ (cy 2) 1 fo)]) (W0 := CW cy a kd co mk al dz rd rw wo sa sz ps bt ou bi dm pl re cu) (As := [vI r]) (st := [vI 0, .ref o]) (c_X7_state l D cy tw a kd co mk al dz rd rw wo sa sz ps bt ou bi dm pl re cu r hrw hin) gL_state_X7_state kn_X7_state rfl ⟨rfl, rfl, Nat.le_of_ble_eq_true rfl, Nat.le_of_ble_eq_true rfl⟩ 0 rfl (ci := 9) rfl rfl (Nat.le_of_ble_eq_true rfl) ⟨Nat.le_of_ble_eq_true rfl, Nat.le_of_ble_eq_true rfl⟩ dL_state_4 (fun u hu => ?_)
  show V 0 0 ([(o, aJ (cy 2) 1 fo)] ++ CW cy a kd co mk al dz rd rw wo sa sz ps bt ou bi dm pl re cu) [(0, .ref (a 0)), (1, vI r), (2, .ref o)] [vI (sa (r : Int).toNat), vI 0, .ref o] 7
  refine z_i2l C hv9 dL_state_7 ?_
  refine z_last C 0 2 (g := fo) rfl rfl (by decide) (by decide) (by decide) dL_state_8 (ws' := [(o, aJ (cy 2) 1 (va_up fo (0 : Int).toNat (BitVec.ofInt 64 (sa (r : Int).toNat))))] ++ CW cy a kd co mk al dz rd rw wo sa sz ps bt ou bi dm pl re cu) rfl ?_
  refine z_goto C (tgt := 15) dL_state_9 (by decide) ?_
  refine z_iconst C (z := 0) dL_state_15 ?_
  exact z_iret (x := 0) C dL_state_16 u rfl hu rfl (by decide) (by decide)
def wsL_stateA : List Cond := wsL_state ++ (vx_atS RX7 159 "java/lang/ArrayIndexOutOfBoundsException" zxnA).filter goodWord
theorem kn_L_stateA : zKnW yL_state wsL_stateA cL_state 4 (some .int) [(0, 9, 12, 25)] 3 := ⟨⟨_, rfl⟩, by decide +kernel, by decide +kernel, by decide +kernel⟩
set_option maxHeartbeats 1000000 in
set_option maxRecDepth 100000 in
theorem c_L_stateX (l : Launch) (hl9 : l.stackTraces = false) (D : va_G) (cy : Nat → ClassId) (tw sr : Nat → Nat) (o : Nat) (a : Nat → Nat) (fo : Nat → BitVec 64) (kd : Int) (co : Int) (mk : Bool) (al : Bool) (dz : Bool) (rd : Bool) (rw : Int) (wo : Nat → BitVec 64) (sa : Nat → Int) (sz : Int) (ps : Int) (bt : Nat → Int) (ou : Nat → BitVec 64) (bi : Int) (dm : Int) (pl : Bool) (re : Int) (cu : Bool) (r : Int) (hrw : 0 ≤ rw ∧ rw ≤ 24) (hyr : -2147483648 ≤ r ∧ r < 2147483648) (hno : ¬ (0 ≤ r ∧ r < rw)) : zMetB l yL_state wsL_stateA { frames := 8, cells := 1, slots := 6, locals := 116 } D (zT cy) tw sr ([(o, aJ (cy 2) 1 fo)] ++ CW cy a kd co mk al dz rd rw wo sa sz ps bt ou bi dm pl re cu) [.ref (a 0), vI r, .ref o] 1 6 (S := Unit) (fun _ => some (vI 1)) (fun _ => [(o, aJ (cy 2) 1 fo)] ++ CW cy a kd co mk al dz rd rw wo sa sz ps bt ou bi dm pl re cu) (fun _ => True) := by
  refine z_metH (cc := cL_state) (nL := 4) (ret := some .int) (hh := [(0, 9, 12, 25)]) (by decide +kernel) rfl (Nat.le_of_ble_eq_true rfl) (lv := [(0, .ref (a 0)), (1, vI r), (2, .ref o)]) rfl ?_
  intro V p_ e_ s_ m_ args_ below_ meth_ c_ A_ C XL htab
  refine z_aload_n C dL_state_0 2 rfl ?_
  refine z_iconst C (z := 0) dL_state_1 ?_
  refine z_aload_n C dL_state_2 0 rfl ?_
  refine z_iload_n C dL_state_3 1 rfl ?_
  refine z_callVXE C XL (X := [(o, aJ (cy 2) 1 fo)]) (W0 := CW cy a kd co mk al dz rd rw wo sa sz ps bt ou bi dm pl re cu) (As := [vI r]) (st := [vI 0, .ref o]) (c_X7_stateX l hl9 D cy tw sr a kd co mk al dz rd rw wo sa sz ps bt ou bi dm pl re cu r hrw hyr hno) (goodIn_vA gL_state_X7_state goodE) kn_X7_stateA rfl ⟨rfl, rfl, Nat.le_of_ble_eq_true rfl, Nat.le_of_ble_eq_true rfl⟩ 0 rfl (ci := 9) rfl rfl (Nat.le_of_ble_eq_true rfl) ⟨Nat.le_of_ble_eq_true rfl, Nat.le_of_ble_eq_true rfl⟩ dL_state_4 [] ⟨0, 9, 12, 25⟩ [] (by rw [htab]; rfl) (fun z hz => absurd hz List.not_mem_nil) (by decide) (by decide) (List.mem_of_getElem? (i := 1) rfl) (by decide +kernel) (fun q => ?_)
  show V 1 6 ([(o, aJ (cy 2) 1 fo)] ++ CW cy a kd co mk al dz rd rw wo sa sz ps bt ou bi dm pl re cu) [(0, .ref (a 0)), (1, vI r), (2, .ref o)] [.ref q] 12
  refine z_astore_n C (lv' := [(3, .ref q), (0, .ref (a 0)), (1, vI r), (2, .ref o)]) dL_state_12 rfl (by decide) rfl ?_
  refine z_iconst C (z := 1) dL_state_13 ?_
  exact z_iret (x := 1) C dL_state_14 () rfl trivial rfl (by decide) (by decide)
theorem kn_L_row : zKnW yL_row wsL_row cL_row 3 (some .int) [(0, 8, 11, 31)] 2 := ⟨⟨_, rfl⟩, by decide +kernel, by decide +kernel, by decide +kernel⟩
set_option maxHeartbeats 1000000 in
set_option maxRecDepth 100000 in
theorem c_L_row (l : Launch) (D : va_G) (cy : Nat → ClassId) (tw sr : Nat → Nat) (o : Nat) (a : Nat → Nat) (fo : Nat → BitVec 64) (kd : Int) (co : Int) (mk : Bool) (al : Bool) (dz : Bool) (rd : Bool) (rw : Int) (wo : Nat → BitVec 64) (sa : Nat → Int) (sz : Int) (ps : Int) (bt : Nat → Int) (ou : Nat → BitVec 64) (bi : Int) (dm : Int) (pl : Bool) (re : Int) (cu : Bool)  (hco : 1 ≤ co ∧ co ≤ 700) (hrw : 0 ≤ rw ∧ rw < 24) (hv9 : -2147483648 ≤ (rw : Int) ∧ (rw : Int) < 2147483648) : zMetB l yL_row wsL_row { frames := 4, cells := 0, slots := 0, locals := 97 } D (zT cy) tw sr ([(o, aJ (cy 2) 1 fo)] ++ CW cy a kd co mk al dz rd rw wo sa sz ps bt ou bi dm pl re cu) [.ref (a 0), .ref o] 0 0 (S := Unit) (fun _ => some (vI 0)) (fun _ => [(o, aJ (cy 2) 1 (va_up fo (0 : Int).toNat (BitVec.ofInt 64 rw)))] ++ CW cy a kd co mk al dz rd (rw + 1) (pnC wo co rw 0 co false) (va_up sa (rw : Int).toNat 0) sz ps bt ou bi dm pl re cu) (fun _ => True) := by
  refine z_metH (cc := cL_row) (nL := 3) (ret := some .int) (hh := [(0, 8, 11, 31)]) (by decide +kernel) rfl (Nat.le_of_ble_eq_true rfl) (lv := [(0, .ref (a 0)), (1, .ref o)]) rfl ?_
  intro V p_ e_ s_ m_ args_ below_ meth_ c_ A_ C XL htab
  refine z_aload_n C dL_row_0 1 rfl ?_
  refine z_iconst C (z := 0) dL_row_1 ?_
  refine z_aload_n C dL_row_2 0 rfl ?_
  refine z_callVE C (X := [(o, aJ (cy 2) 1 fo)]) (W0 := CW cy a kd co mk al dz rd rw wo sa sz ps bt ou bi dm pl re cu) (As := []) (st := [vI 0, .ref o]) (c_X7_row l D cy tw a kd co mk al dz rd rw wo sa sz ps bt ou bi dm pl re cu  hco hrw) gL_row_X7_row kn_X7_row rfl ⟨rfl, rfl, Nat.le_of_ble_eq_true rfl, Nat.le_of_ble_eq_true rfl⟩ 0 rfl (ci := 9) rfl rfl (Nat.le_of_ble_eq_true rfl) ⟨Nat.le_of_ble_eq_true rfl, Nat.le_of_ble_eq_true rfl⟩ dL_row_3 (fun u hu => ?_)
  show V 0 0 ([(o, aJ (cy 2) 1 fo)] ++ CW cy a kd co mk al dz rd (rw + 1) (pnC wo co rw 0 co false) (va_up sa (rw : Int).toNat 0) sz ps bt ou bi dm pl re cu) [(0, .ref (a 0)), (1, .ref o)] [vI rw, vI 0, .ref o] 6
  refine z_i2l C hv9 dL_row_6 ?_
  refine z_last C 0 2 (g := fo) rfl rfl (by decide) (by decide) (by decide) dL_row_7 (ws' := [(o, aJ (cy 2) 1 (va_up fo (0 : Int).toNat (BitVec.ofInt 64 rw)))] ++ CW cy a kd co mk al dz rd (rw + 1) (pnC wo co rw 0 co false) (va_up sa (rw : Int).toNat 0) sz ps bt ou bi dm pl re cu) rfl ?_
  refine z_goto C (tgt := 14) dL_row_8 (by decide) ?_
  refine z_iconst C (z := 0) dL_row_14 ?_
  exact z_iret (x := 0) C dL_row_15 u rfl hu rfl (by decide) (by decide)
set_option maxHeartbeats 1000000 in
set_option maxRecDepth 100000 in
theorem c_L_rowX (l : Launch) (hl9 : l.stackTraces = false) (D : va_G) (cy : Nat → ClassId) (tw sr : Nat → Nat) (o : Nat) (a : Nat → Nat) (fo : Nat → BitVec 64) (kd : Int) (co : Int) (mk : Bool) (al : Bool) (dz : Bool) (rd : Bool) (rw : Int) (wo : Nat → BitVec 64) (sa : Nat → Int) (sz : Int) (ps : Int) (bt : Nat → Int) (ou : Nat → BitVec 64) (bi : Int) (dm : Int) (pl : Bool) (re : Int) (cu : Bool)  (hrw : rw = 24) : zMetB l yL_row wsL_row { frames := 7, cells := 1, slots := 6, locals := 103 } D (zT cy) tw sr ([(o, aJ (cy 2) 1 fo)] ++ CW cy a kd co mk al dz rd rw wo sa sz ps bt ou bi dm pl re cu) [.ref (a 0), .ref o] 1 6 (S := Unit) (fun _ => some (vI 1)) (fun _ => [(o, aJ (cy 2) 1 fo)] ++ CW cy a kd co mk al dz rd rw wo sa sz ps bt ou bi dm pl re cu) (fun _ => True) := by
  refine z_metH (cc := cL_row) (nL := 3) (ret := some .int) (hh := [(0, 8, 11, 31)]) (by decide +kernel) rfl (Nat.le_of_ble_eq_true rfl) (lv := [(0, .ref (a 0)), (1, .ref o)]) rfl ?_
  intro V p_ e_ s_ m_ args_ below_ meth_ c_ A_ C XL htab
  refine z_aload_n C dL_row_0 1 rfl ?_
  refine z_iconst C (z := 0) dL_row_1 ?_
  refine z_aload_n C dL_row_2 0 rfl ?_
  refine z_callVXE C XL (X := [(o, aJ (cy 2) 1 fo)]) (W0 := CW cy a kd co mk al dz rd rw wo sa sz ps bt ou bi dm pl re cu) (As := []) (st := [vI 0, .ref o]) (c_X7_rowX l hl9 D cy tw sr a kd co mk al dz rd rw wo sa sz ps bt ou bi dm pl re cu  hrw) gL_row_X7_row kn_X7_row rfl ⟨rfl, rfl, Nat.le_of_ble_eq_true rfl, Nat.le_of_ble_eq_true rfl⟩ 0 rfl (ci := 9) rfl rfl (Nat.le_of_ble_eq_true rfl) ⟨Nat.le_of_ble_eq_true rfl, Nat.le_of_ble_eq_true rfl⟩ dL_row_3 [] ⟨0, 8, 11, 31⟩ [] (by rw [htab]; rfl) (fun z hz => absurd hz List.not_mem_nil) (by decide) (by decide) (List.mem_of_getElem? (i := 1) rfl) (by decide +kernel) (fun q => ?_)
  show V 1 6 ([(o, aJ (cy 2) 1 fo)] ++ CW cy a kd co mk al dz rd rw wo sa sz ps bt ou bi dm pl re cu) [(0, .ref (a 0)), (1, .ref o)] [.ref q] 11
  refine z_astore_n C (lv' := [(2, .ref q), (0, .ref (a 0)), (1, .ref o)]) dL_row_11 rfl (by decide) rfl ?_
  refine z_iconst C (z := 1) dL_row_12 ?_
  exact z_iret (x := 1) C dL_row_13 () rfl trivial rfl (by decide) (by decide)
theorem kn_L_put : zKnW yL_put wsL_put cL_put 6 (some .int) [(0, 9, 12, 25), (0, 9, 16, 13)] 5 := ⟨⟨_, rfl⟩, by decide +kernel, by decide +kernel, by decide +kernel⟩
set_option maxHeartbeats 1000000 in
set_option maxRecDepth 100000 in
theorem c_L_put (l : Launch) (D : va_G) (cy : Nat → ClassId) (tw sr : Nat → Nat) (a : Nat → Nat) (kd : Int) (co : Int) (mk : Bool) (al : Bool) (dz : Bool) (rd : Bool) (rw : Int) (wo : Nat → BitVec 64) (sa : Nat → Int) (sz : Int) (ps : Int) (bt : Nat → Int) (ou : Nat → BitVec 64) (bi : Int) (dm : Int) (pl : Bool) (re : Int) (cu : Bool) (r : Int) (x : Int) (y : Int) (d : Bool) (hco : 1 ≤ co ∧ co ≤ 700) (hrw : 0 ≤ rw ∧ rw ≤ 24) (hin : 0 ≤ r ∧ r < rw) (hx : 0 ≤ x ∧ x < y ∧ y ≤ co) : zMetB l yL_put wsL_put { frames := 3, cells := 0, slots := 0, locals := 79 } D (zT cy) tw sr (CW cy a kd co mk al dz rd rw wo sa sz ps bt ou bi dm pl re cu) [.ref (a 0), vI r, vI x, vI y, vI (b2i d)] 0 0 (S := Unit) (fun _ => some (vI 0)) (fun _ => CW cy a kd co mk al dz rd rw (pnC wo co r x y d) (va_up sa (r : Int).toNat 0) sz ps bt ou bi dm pl re cu) (fun _ => True) := by
  refine z_metH (cc := cL_put) (nL := 6) (ret := some .int) (hh := [(0, 9, 12, 25), (0, 9, 16, 13)]) (by decide +kernel) rfl (Nat.le_of_ble_eq_true rfl) (lv := [(0, .ref (a 0)), (1, vI r), (2, vI x), (3, vI y), (4, vI (b2i d))]) rfl ?_
  intro V p_ e_ s_ m_ args_ below_ meth_ c_ A_ C XL htab
  refine z_aload_n C dL_put_0 0 rfl ?_
  refine z_iload_n C dL_put_1 1 rfl ?_
  refine z_iload_n C dL_put_2 2 rfl ?_
  refine z_iload_n C dL_put_3 3 rfl ?_
  refine z_iload C dL_put_4 4 rfl ?_
  show V 0 0 ([] ++ CW cy a kd co mk al dz rd rw wo sa sz ps bt ou bi dm pl re cu) [(0, .ref (a 0)), (1, vI r), (2, vI x), (3, vI y), (4, vI (b2i d))] ([vI r, vI x, vI y, vI (b2i d)].reverse ++ .ref (a 0) :: []) 6
  refine z_callVE C (X := []) (W0 := CW cy a kd co mk al dz rd rw wo sa sz ps bt ou bi dm pl re cu) (As := [vI r, vI x, vI y, vI (b2i d)]) (st := []) (c_X7_put l D cy tw a kd co mk al dz rd rw wo sa sz ps bt ou bi dm pl re cu r x y d hco hrw hin hx) gL_put_X7_put kn_X7_put rfl ⟨rfl, rfl, Nat.le_of_ble_eq_true rfl, Nat.le_of_ble_eq_true rfl⟩ 0 rfl (ci := 9) rfl rfl (Nat.le_of_ble_eq_true rfl) ⟨Nat.le_of_ble_eq_true rfl, Nat.le_of_ble_eq_true rfl⟩ dL_put_6 (fun u hu => ?_)
  show V 0 0 (CW cy a kd co mk al dz rd rw (pnC wo co r x y d) (va_up sa (r : Int).toNat 0) sz ps bt ou bi dm pl re cu) [(0, .ref (a 0)), (1, vI r), (2, vI x), (3, vI y), (4, vI (b2i d))] [] 9
  refine z_goto C (tgt := 20) dL_put_9 (by decide) ?_
  refine z_iconst C (z := 0) dL_put_20 ?_
  exact z_iret (x := 0) C dL_put_21 u rfl hu rfl (by decide) (by decide)
def wsL_putA : List Cond := wsL_put ++ (vx_atS RX7 159 "java/lang/ArrayIndexOutOfBoundsException" zxnA).filter goodWord
theorem kn_L_putA : zKnW yL_put wsL_putA cL_put 6 (some .int) [(0, 9, 12, 25), (0, 9, 16, 13)] 5 := ⟨⟨_, rfl⟩, by decide +kernel, by decide +kernel, by decide +kernel⟩
set_option maxHeartbeats 1000000 in
set_option maxRecDepth 100000 in
theorem c_L_putXA (l : Launch) (hl9 : l.stackTraces = false) (D : va_G) (cy : Nat → ClassId) (tw sr : Nat → Nat) (a : Nat → Nat) (kd : Int) (co : Int) (mk : Bool) (al : Bool) (dz : Bool) (rd : Bool) (rw : Int) (wo : Nat → BitVec 64) (sa : Nat → Int) (sz : Int) (ps : Int) (bt : Nat → Int) (ou : Nat → BitVec 64) (bi : Int) (dm : Int) (pl : Bool) (re : Int) (cu : Bool) (r : Int) (x : Int) (y : Int) (d : Bool) (hrw : 0 ≤ rw ∧ rw ≤ 24) (hyr : -2147483648 ≤ r ∧ r < 2147483648) (hno : ¬ (0 ≤ r ∧ r < rw)) : zMetB l yL_put wsL_putA { frames := 8, cells := 1, slots := 6, locals := 119 } D (zT cy) tw sr (CW cy a kd co mk al dz rd rw wo sa sz ps bt ou bi dm pl re cu) [.ref (a 0), vI r, vI x, vI y, vI (b2i d)] 1 6 (S := Unit) (fun _ => some (vI 1)) (fun _ => CW cy a kd co mk al dz rd rw wo sa sz ps bt ou bi dm pl re cu) (fun _ => True) := by
  refine z_metH (cc := cL_put) (nL := 6) (ret := some .int) (hh := [(0, 9, 12, 25), (0, 9, 16, 13)]) (by decide +kernel) rfl (Nat.le_of_ble_eq_true rfl) (lv := [(0, .ref (a 0)), (1, vI r), (2, vI x), (3, vI y), (4, vI (b2i d))]) rfl ?_
  intro V p_ e_ s_ m_ args_ below_ meth_ c_ A_ C XL htab
  refine z_aload_n C dL_put_0 0 rfl ?_
  refine z_iload_n C dL_put_1 1 rfl ?_
  refine z_iload_n C dL_put_2 2 rfl ?_
  refine z_iload_n C dL_put_3 3 rfl ?_
  refine z_iload C dL_put_4 4 rfl ?_
  show V 0 0 ([] ++ CW cy a kd co mk al dz rd rw wo sa sz ps bt ou bi dm pl re cu) [(0, .ref (a 0)), (1, vI r), (2, vI x), (3, vI y), (4, vI (b2i d))] ([vI r, vI x, vI y, vI (b2i d)].reverse ++ .ref (a 0) :: []) 6
  refine z_callVXE C XL (X := []) (W0 := CW cy a kd co mk al dz rd rw wo sa sz ps bt ou bi dm pl re cu) (As := [vI r, vI x, vI y, vI (b2i d)]) (st := []) (c_X7_putXA l hl9 D cy tw sr a kd co mk al dz rd rw wo sa sz ps bt ou bi dm pl re cu r x y d hrw hyr hno) (goodIn_vA gL_put_X7_put goodE) kn_X7_putA rfl ⟨rfl, rfl, Nat.le_of_ble_eq_true rfl, Nat.le_of_ble_eq_true rfl⟩ 0 rfl (ci := 9) rfl rfl (Nat.le_of_ble_eq_true rfl) ⟨Nat.le_of_ble_eq_true rfl, Nat.le_of_ble_eq_true rfl⟩ dL_put_6 [] ⟨0, 9, 12, 25⟩ [⟨0, 9, 16, 13⟩] (by rw [htab]; rfl) (fun z hz => absurd hz List.not_mem_nil) (by decide) (by decide) (List.mem_of_getElem? (i := 1) rfl) (by decide +kernel) (fun q => ?_)
  show V 1 6 (CW cy a kd co mk al dz rd rw wo sa sz ps bt ou bi dm pl re cu) [(0, .ref (a 0)), (1, vI r), (2, vI x), (3, vI y), (4, vI (b2i d))] [.ref q] 12
  refine z_astore C (lv' := [(5, .ref q), (0, .ref (a 0)), (1, vI r), (2, vI x), (3, vI y), (4, vI (b2i d))]) dL_put_12 (by decide) rfl ?_
  refine z_iconst C (z := 1) dL_put_14 ?_
  exact z_iret (x := 1) C dL_put_15 () rfl trivial rfl (by decide) (by decide)
set_option maxHeartbeats 1000000 in
set_option maxRecDepth 100000 in
theorem c_L_putXI (l : Launch) (hl9 : l.stackTraces = false) (D : va_G) (cy : Nat → ClassId) (tw sr : Nat → Nat) (a : Nat → Nat) (kd : Int) (co : Int) (mk : Bool) (al : Bool) (dz : Bool) (rd : Bool) (rw : Int) (wo : Nat → BitVec 64) (sa : Nat → Int) (sz : Int) (ps : Int) (bt : Nat → Int) (ou : Nat → BitVec 64) (bi : Int) (dm : Int) (pl : Bool) (re : Int) (cu : Bool) (r : Int) (x : Int) (y : Int) (d : Bool) (hco : 1 ≤ co ∧ co ≤ 700) (hrw : 0 ≤ rw ∧ rw ≤ 24) (hyx : -2147483648 ≤ x ∧ x < 2147483648) (hyy : -2147483648 ≤ y ∧ y < 2147483648) (hin : 0 ≤ r ∧ r < rw) (hno : ¬ (0 ≤ x ∧ x < y ∧ y ≤ co)) : zMetB l yL_put wsL_put { frames := 7, cells := 1, slots := 6, locals := 106 } D (zT cy) tw sr (CW cy a kd co mk al dz rd rw wo sa sz ps bt ou bi dm pl re cu) [.ref (a 0), vI r, vI x, vI y, vI (b2i d)] 1 6 (S := Unit) (fun _ => some (vI 2)) (fun _ => CW cy a kd co mk al dz rd rw wo sa sz ps bt ou bi dm pl re cu) (fun _ => True) := by
  refine z_metH (cc := cL_put) (nL := 6) (ret := some .int) (hh := [(0, 9, 12, 25), (0, 9, 16, 13)]) (by decide +kernel) rfl (Nat.le_of_ble_eq_true rfl) (lv := [(0, .ref (a 0)), (1, vI r), (2, vI x), (3, vI y), (4, vI (b2i d))]) rfl ?_
  intro V p_ e_ s_ m_ args_ below_ meth_ c_ A_ C XL htab
  refine z_aload_n C dL_put_0 0 rfl ?_
  refine z_iload_n C dL_put_1 1 rfl ?_
  refine z_iload_n C dL_put_2 2 rfl ?_
  refine z_iload_n C dL_put_3 3 rfl ?_
  refine z_iload C dL_put_4 4 rfl ?_
  show V 0 0 ([] ++ CW cy a kd co mk al dz rd rw wo sa sz ps bt ou bi dm pl re cu) [(0, .ref (a 0)), (1, vI r), (2, vI x), (3, vI y), (4, vI (b2i d))] ([vI r, vI x, vI y, vI (b2i d)].reverse ++ .ref (a 0) :: []) 6
  refine z_callVXE C XL (X := []) (W0 := CW cy a kd co mk al dz rd rw wo sa sz ps bt ou bi dm pl re cu) (As := [vI r, vI x, vI y, vI (b2i d)]) (st := []) (c_X7_putXI l hl9 D cy tw sr a kd co mk al dz rd rw wo sa sz ps bt ou bi dm pl re cu r x y d hco hrw hyx hyy hin hno) gL_put_X7_put kn_X7_put rfl ⟨rfl, rfl, Nat.le_of_ble_eq_true rfl, Nat.le_of_ble_eq_true rfl⟩ 0 rfl (ci := 9) rfl rfl (Nat.le_of_ble_eq_true rfl) ⟨Nat.le_of_ble_eq_true rfl, Nat.le_of_ble_eq_true rfl⟩ dL_put_6 [⟨0, 9, 12, 25⟩] ⟨0, 9, 16, 13⟩ [] (by rw [htab]; rfl) (fun z hz => by rw [List.mem_singleton.mp hz]; exact Or.inr ⟨by decide, _, (List.mem_of_getElem? (i := 1) rfl), XL.2.2.2⟩) (by decide) (by decide) (List.mem_of_getElem? (i := 2) rfl) (by decide +kernel) (fun q => ?_)
  show V 1 6 (CW cy a kd co mk al dz rd rw wo sa sz ps bt ou bi dm pl re cu) [(0, .ref (a 0)), (1, vI r), (2, vI x), (3, vI y), (4, vI (b2i d))] [.ref q] 16
  refine z_astore C (lv' := [(5, .ref q), (0, .ref (a 0)), (1, vI r), (2, vI x), (3, vI y), (4, vI (b2i d))]) dL_put_16 (by decide) rfl ?_
  refine z_iconst C (z := 2) dL_put_18 ?_
  exact z_iret (x := 2) C dL_put_19 () rfl trivial rfl (by decide) (by decide)
theorem kn_L_bit : zKnW yL_bit wsL_bit cL_bit 5 (some .int) [(0, 10, 13, 25)] 4 := ⟨⟨_, rfl⟩, by decide +kernel, by decide +kernel, by decide +kernel⟩
set_option maxHeartbeats 1000000 in
set_option maxRecDepth 100000 in
theorem c_L_bit (l : Launch) (D : va_G) (cy : Nat → ClassId) (tw sr : Nat → Nat) (o : Nat) (a : Nat → Nat) (fo : Nat → BitVec 64) (kd : Int) (co : Int) (mk : Bool) (al : Bool) (dz : Bool) (rd : Bool) (rw : Int) (wo : Nat → BitVec 64) (sa : Nat → Int) (sz : Int) (ps : Int) (bt : Nat → Int) (ou : Nat → BitVec 64) (bi : Int) (dm : Int) (pl : Bool) (re : Int) (cu : Bool) (r : Int) (x : Int) (hco : 1 ≤ co ∧ co ≤ 700) (hrw : 0 ≤ rw ∧ rw ≤ 24) (hin : 0 ≤ r ∧ r < rw) (hx : 0 ≤ x ∧ x < co) (hv9 : -2147483648 ≤ ((if px wo co r x = dz then 0 else 1) : Int) ∧ ((if px wo co r x = dz then 0 else 1) : Int) < 2147483648) : zMetB l yL_bit wsL_bit { frames := 4, cells := 0, slots := 0, locals := 90 } D (zT cy) tw sr ([(o, aJ (cy 2) 1 fo)] ++ CW cy a kd co mk al dz rd rw wo sa sz ps bt ou bi dm pl re cu) [.ref (a 0), vI r, vI x, .ref o] 0 0 (S := Unit) (fun _ => some (vI 0)) (fun _ => [(o, aJ (cy 2) 1 (va_up fo (0 : Int).toNat (BitVec.ofInt 64 (if px wo co r x = dz then 0 else 1))))] ++ CW cy a kd co mk al dz rd rw wo sa sz ps bt ou bi dm pl re cu) (fun _ => True) := by
  refine z_metH (cc := cL_bit) (nL := 5) (ret := some .int) (hh := [(0, 10, 13, 25)]) (by decide +kernel) rfl (Nat.le_of_ble_eq_true rfl) (lv := [(0, .ref (a 0)), (1, vI r), (2, vI x), (3, .ref o)]) rfl ?_
  intro V p_ e_ s_ m_ args_ below_ meth_ c_ A_ C XL htab
  refine z_aload_n C dL_bit_0 3 rfl ?_
  refine z_iconst C (z := 0) dL_bit_1 ?_
  refine z_aload_n C dL_bit_2 0 rfl ?_
  refine z_iload_n C dL_bit_3 1 rfl ?_
  refine z_iload_n C dL_bit_4 2 rfl ?_
  refine z_callVE C (X := [(o, aJ (cy 2) 1 fo)]) (W0 := CW cy a kd co mk al dz rd rw wo sa sz ps bt ou bi dm pl re cu) (As := [vI r, vI x]) (st := [vI 0, .ref o]) (c_X7_bit l D cy tw a kd co mk al dz rd rw wo sa sz ps bt ou bi dm pl re cu r x hco hrw hin hx) gL_bit_X7_bit kn_X7_bit rfl ⟨rfl, rfl, Nat.le_of_ble_eq_true rfl, Nat.le_of_ble_eq_true rfl⟩ 0 rfl (ci := 9) rfl rfl (Nat.le_of_ble_eq_true rfl) ⟨Nat.le_of_ble_eq_true rfl, Nat.le_of_ble_eq_true rfl⟩ dL_bit_5 (fun u hu => ?_)
  show V 0 0 ([(o, aJ (cy 2) 1 fo)] ++ CW cy a kd co mk al dz rd rw wo sa sz ps bt ou bi dm pl re cu) [(0, .ref (a 0)), (1, vI r), (2, vI x), (3, .ref o)] [vI (if px wo co r x = dz then 0 else 1), vI 0, .ref o] 8
  refine z_i2l C hv9 dL_bit_8 ?_
  refine z_last C 0 2 (g := fo) rfl rfl (by decide) (by decide) (by decide) dL_bit_9 (ws' := [(o, aJ (cy 2) 1 (va_up fo (0 : Int).toNat (BitVec.ofInt 64 (if px wo co r x = dz then 0 else 1))))] ++ CW cy a kd co mk al dz rd rw wo sa sz ps bt ou bi dm pl re cu) rfl ?_
  refine z_goto C (tgt := 17) dL_bit_10 (by decide) ?_
  refine z_iconst C (z := 0) dL_bit_17 ?_
  exact z_iret (x := 0) C dL_bit_18 u rfl hu rfl (by decide) (by decide)
def wsL_bitA : List Cond := wsL_bit ++ (vx_atS RX7 159 "java/lang/ArrayIndexOutOfBoundsException" zxnA).filter goodWord
theorem kn_L_bitA : zKnW yL_bit wsL_bitA cL_bit 5 (some .int) [(0, 10, 13, 25)] 4 := ⟨⟨_, rfl⟩, by decide +kernel, by decide +kernel, by decide +kernel⟩
set_option maxHeartbeats 1000000 in
set_option maxRecDepth 100000 in
theorem c_L_bitX (l : Launch) (hl9 : l.stackTraces = false) (D : va_G) (cy : Nat → ClassId) (tw sr : Nat → Nat) (o : Nat) (a : Nat → Nat) (fo : Nat → BitVec 64) (kd : Int) (co : Int) (mk : Bool) (al : Bool) (dz : Bool) (rd : Bool) (rw : Int) (wo : Nat → BitVec 64) (sa : Nat → Int) (sz : Int) (ps : Int) (bt : Nat → Int) (ou : Nat → BitVec 64) (bi : Int) (dm : Int) (pl : Bool) (re : Int) (cu : Bool) (r : Int) (x : Int) (hco : 1 ≤ co ∧ co ≤ 700) (hrw : 0 ≤ rw ∧ rw ≤ 24) (hyr : -2147483648 ≤ r ∧ r < 2147483648) (hyx : -2147483648 ≤ x ∧ x < 2147483648) (hno : ¬ (0 ≤ r ∧ r < rw ∧ 0 ≤ x ∧ x < co)) : zMetB l yL_bit wsL_bitA { frames := 8, cells := 1, slots := 6, locals := 117 } D (zT cy) tw sr ([(o, aJ (cy 2) 1 fo)] ++ CW cy a kd co mk al dz rd rw wo sa sz ps bt ou bi dm pl re cu) [.ref (a 0), vI r, vI x, .ref o] 1 6 (S := Unit) (fun _ => some (vI 1)) (fun _ => [(o, aJ (cy 2) 1 fo)] ++ CW cy a kd co mk al dz rd rw wo sa sz ps bt ou bi dm pl re cu) (fun _ => True) := by
  refine z_metH (cc := cL_bit) (nL := 5) (ret := some .int) (hh := [(0, 10, 13, 25)]) (by decide +kernel) rfl (Nat.le_of_ble_eq_true rfl) (lv := [(0, .ref (a 0)), (1, vI r), (2, vI x), (3, .ref o)]) rfl ?_
  intro V p_ e_ s_ m_ args_ below_ meth_ c_ A_ C XL htab
  refine z_aload_n C dL_bit_0 3 rfl ?_
  refine z_iconst C (z := 0) dL_bit_1 ?_
  refine z_aload_n C dL_bit_2 0 rfl ?_
  refine z_iload_n C dL_bit_3 1 rfl ?_
  refine z_iload_n C dL_bit_4 2 rfl ?_
  refine z_callVXE C XL (X := [(o, aJ (cy 2) 1 fo)]) (W0 := CW cy a kd co mk al dz rd rw wo sa sz ps bt ou bi dm pl re cu) (As := [vI r, vI x]) (st := [vI 0, .ref o]) (c_X7_bitX l hl9 D cy tw sr a kd co mk al dz rd rw wo sa sz ps bt ou bi dm pl re cu r x hco hrw hyr hyx hno) (goodIn_vA gL_bit_X7_bit goodE) kn_X7_bitA rfl ⟨rfl, rfl, Nat.le_of_ble_eq_true rfl, Nat.le_of_ble_eq_true rfl⟩ 0 rfl (ci := 9) rfl rfl (Nat.le_of_ble_eq_true rfl) ⟨Nat.le_of_ble_eq_true rfl, Nat.le_of_ble_eq_true rfl⟩ dL_bit_5 [] ⟨0, 10, 13, 25⟩ [] (by rw [htab]; rfl) (fun z hz => absurd hz List.not_mem_nil) (by decide) (by decide) (List.mem_of_getElem? (i := 1) rfl) (by decide +kernel) (fun q => ?_)
  show V 1 6 ([(o, aJ (cy 2) 1 fo)] ++ CW cy a kd co mk al dz rd rw wo sa sz ps bt ou bi dm pl re cu) [(0, .ref (a 0)), (1, vI r), (2, vI x), (3, .ref o)] [.ref q] 13
  refine z_astore C (lv' := [(4, .ref q), (0, .ref (a 0)), (1, vI r), (2, vI x), (3, .ref o)]) dL_bit_13 (by decide) rfl ?_
  refine z_iconst C (z := 1) dL_bit_15 ?_
  exact z_iret (x := 1) C dL_bit_16 () rfl trivial rfl (by decide) (by decide)
theorem kn_L_run : zKnW yL_run wsL_run cL_run 5 (some .int) [(0, 10, 13, 25)] 4 := ⟨⟨_, rfl⟩, by decide +kernel, by decide +kernel, by decide +kernel⟩
set_option maxHeartbeats 1000000 in
set_option maxRecDepth 100000 in
theorem c_L_run (l : Launch) (D : va_G) (cy : Nat → ClassId) (tw sr : Nat → Nat) (o : Nat) (a : Nat → Nat) (fo : Nat → BitVec 64) (kd : Int) (co : Int) (mk : Bool) (al : Bool) (dz : Bool) (rd : Bool) (rw : Int) (wo : Nat → BitVec 64) (sa : Nat → Int) (sz : Int) (ps : Int) (bt : Nat → Int) (ou : Nat → BitVec 64) (bi : Int) (dm : Int) (pl : Bool) (re : Int) (cu : Bool) (r : Int) (i : Int) (hco : 1 ≤ co ∧ co ≤ 700) (hrw : 0 ≤ rw ∧ rw ≤ 24) (hin : 0 ≤ r ∧ r < rw) (hyi : -2147483648 ≤ i ∧ i < 2147483648) (hlr : 0 ≤ lrun (px wo co r) co i (co + 1).toNat 0 0 false ∧ lrun (px wo co r) co i (co + 1).toNat 0 0 false ≤ 1000) (hv9 : -2147483648 ≤ ((lrun (px wo co r) co i (co + 1).toNat 0 0 false) : Int) ∧ ((lrun (px wo co r) co i (co + 1).toNat 0 0 false) : Int) < 2147483648) : zMetB l yL_run wsL_run { frames := 5, cells := 0, slots := 0, locals := 124 } D (zT cy) tw sr ([(o, aJ (cy 2) 1 fo)] ++ CW cy a kd co mk al dz rd rw wo sa sz ps bt ou bi dm pl re cu) [.ref (a 0), vI r, vI i, .ref o] 0 0 (S := Unit) (fun _ => some (vI 0)) (fun _ => [(o, aJ (cy 2) 1 (va_up fo (0 : Int).toNat (BitVec.ofInt 64 (lrun (px wo co r) co i (co + 1).toNat 0 0 false))))] ++ CW cy a kd co mk al dz rd rw wo sa sz ps bt ou bi dm pl re cu) (fun _ => True) := by
  refine z_metH (cc := cL_run) (nL := 5) (ret := some .int) (hh := [(0, 10, 13, 25)]) (by decide +kernel) rfl (Nat.le_of_ble_eq_true rfl) (lv := [(0, .ref (a 0)), (1, vI r), (2, vI i), (3, .ref o)]) rfl ?_
  intro V p_ e_ s_ m_ args_ below_ meth_ c_ A_ C XL htab
  refine z_aload_n C dL_run_0 3 rfl ?_
  refine z_iconst C (z := 0) dL_run_1 ?_
  refine z_aload_n C dL_run_2 0 rfl ?_
  refine z_iload_n C dL_run_3 1 rfl ?_
  refine z_iload_n C dL_run_4 2 rfl ?_
  refine z_callVE C (X := [(o, aJ (cy 2) 1 fo)]) (W0 := CW cy a kd co mk al dz rd rw wo sa sz ps bt ou bi dm pl re cu) (As := [vI r, vI i]) (st := [vI 0, .ref o]) (c_X7_run l D cy tw a kd co mk al dz rd rw wo sa sz ps bt ou bi dm pl re cu r i hco hrw hin hyi hlr) gL_run_X7_run kn_X7_run rfl ⟨rfl, rfl, Nat.le_of_ble_eq_true rfl, Nat.le_of_ble_eq_true rfl⟩ 0 rfl (ci := 9) rfl rfl (Nat.le_of_ble_eq_true rfl) ⟨Nat.le_of_ble_eq_true rfl, Nat.le_of_ble_eq_true rfl⟩ dL_run_5 (fun u hu => ?_)
  show V 0 0 ([(o, aJ (cy 2) 1 fo)] ++ CW cy a kd co mk al dz rd rw wo sa sz ps bt ou bi dm pl re cu) [(0, .ref (a 0)), (1, vI r), (2, vI i), (3, .ref o)] [vI (lrun (px wo co r) co i (co + 1).toNat 0 0 false), vI 0, .ref o] 8
  refine z_i2l C hv9 dL_run_8 ?_
  refine z_last C 0 2 (g := fo) rfl rfl (by decide) (by decide) (by decide) dL_run_9 (ws' := [(o, aJ (cy 2) 1 (va_up fo (0 : Int).toNat (BitVec.ofInt 64 (lrun (px wo co r) co i (co + 1).toNat 0 0 false))))] ++ CW cy a kd co mk al dz rd rw wo sa sz ps bt ou bi dm pl re cu) rfl ?_
  refine z_goto C (tgt := 17) dL_run_10 (by decide) ?_
  refine z_iconst C (z := 0) dL_run_17 ?_
  exact z_iret (x := 0) C dL_run_18 u rfl hu rfl (by decide) (by decide)
def wsL_runA : List Cond := wsL_run ++ (vx_atS RX7 159 "java/lang/ArrayIndexOutOfBoundsException" zxnA).filter goodWord
theorem kn_L_runA : zKnW yL_run wsL_runA cL_run 5 (some .int) [(0, 10, 13, 25)] 4 := ⟨⟨_, rfl⟩, by decide +kernel, by decide +kernel, by decide +kernel⟩
set_option maxHeartbeats 1000000 in
set_option maxRecDepth 100000 in
theorem c_L_runX (l : Launch) (hl9 : l.stackTraces = false) (D : va_G) (cy : Nat → ClassId) (tw sr : Nat → Nat) (o : Nat) (a : Nat → Nat) (fo : Nat → BitVec 64) (kd : Int) (co : Int) (mk : Bool) (al : Bool) (dz : Bool) (rd : Bool) (rw : Int) (wo : Nat → BitVec 64) (sa : Nat → Int) (sz : Int) (ps : Int) (bt : Nat → Int) (ou : Nat → BitVec 64) (bi : Int) (dm : Int) (pl : Bool) (re : Int) (cu : Bool) (r : Int) (i : Int) (hco : 1 ≤ co ∧ co ≤ 700) (hrw : 0 ≤ rw ∧ rw ≤ 24) (hyr : -2147483648 ≤ r ∧ r < 2147483648) (hyi : -2147483648 ≤ i ∧ i < 2147483648) (hno : ¬ (0 ≤ r ∧ r < rw) ∨ (-2147483648 ≤ lrun (px wo co r) co i (co + 1).toNat 0 0 false ∧ lrun (px wo co r) co i (co + 1).toNat 0 0 false < 0)) : zMetB l yL_run wsL_runA { frames := 8, cells := 1, slots := 6, locals := 124 } D (zT cy) tw sr ([(o, aJ (cy 2) 1 fo)] ++ CW cy a kd co mk al dz rd rw wo sa sz ps bt ou bi dm pl re cu) [.ref (a 0), vI r, vI i, .ref o] 1 6 (S := Unit) (fun _ => some (vI 1)) (fun _ => [(o, aJ (cy 2) 1 fo)] ++ CW cy a kd co mk al dz rd rw wo sa sz ps bt ou bi dm pl re cu) (fun _ => True) := by
  refine z_metH (cc := cL_run) (nL := 5) (ret := some .int) (hh := [(0, 10, 13, 25)]) (by decide +kernel) rfl (Nat.le_of_ble_eq_true rfl) (lv := [(0, .ref (a 0)), (1, vI r), (2, vI i), (3, .ref o)]) rfl ?_
  intro V p_ e_ s_ m_ args_ below_ meth_ c_ A_ C XL htab
  refine z_aload_n C dL_run_0 3 rfl ?_
  refine z_iconst C (z := 0) dL_run_1 ?_
  refine z_aload_n C dL_run_2 0 rfl ?_
  refine z_iload_n C dL_run_3 1 rfl ?_
  refine z_iload_n C dL_run_4 2 rfl ?_
  refine z_callVXE C XL (X := [(o, aJ (cy 2) 1 fo)]) (W0 := CW cy a kd co mk al dz rd rw wo sa sz ps bt ou bi dm pl re cu) (As := [vI r, vI i]) (st := [vI 0, .ref o]) (c_X7_runX l hl9 D cy tw sr a kd co mk al dz rd rw wo sa sz ps bt ou bi dm pl re cu r i hco hrw hyr hyi hno) (goodIn_vA gL_run_X7_run goodE) kn_X7_runA rfl ⟨rfl, rfl, Nat.le_of_ble_eq_true rfl, Nat.le_of_ble_eq_true rfl⟩ 0 rfl (ci := 9) rfl rfl (Nat.le_of_ble_eq_true rfl) ⟨Nat.le_of_ble_eq_true rfl, Nat.le_of_ble_eq_true rfl⟩ dL_run_5 [] ⟨0, 10, 13, 25⟩ [] (by rw [htab]; rfl) (fun z hz => absurd hz List.not_mem_nil) (by decide) (by decide) (List.mem_of_getElem? (i := 1) rfl) (by decide +kernel) (fun q => ?_)
  show V 1 6 ([(o, aJ (cy 2) 1 fo)] ++ CW cy a kd co mk al dz rd rw wo sa sz ps bt ou bi dm pl re cu) [(0, .ref (a 0)), (1, vI r), (2, vI i), (3, .ref o)] [.ref q] 13
  refine z_astore C (lv' := [(4, .ref q), (0, .ref (a 0)), (1, vI r), (2, vI i), (3, .ref o)]) dL_run_13 (by decide) rfl ?_
  refine z_iconst C (z := 1) dL_run_15 ?_
  exact z_iret (x := 1) C dL_run_16 () rfl trivial rfl (by decide) (by decide)
theorem kn_L_runs : zKnW yL_runs wsL_runs cL_runs 4 (some .int) [(0, 9, 12, 25)] 3 := ⟨⟨_, rfl⟩, by decide +kernel, by decide +kernel, by decide +kernel⟩
set_option maxHeartbeats 1000000 in
set_option maxRecDepth 100000 in
theorem c_L_runs (l : Launch) (D : va_G) (cy : Nat → ClassId) (tw sr : Nat → Nat) (o : Nat) (a : Nat → Nat) (fo : Nat → BitVec 64) (kd : Int) (co : Int) (mk : Bool) (al : Bool) (dz : Bool) (rd : Bool) (rw : Int) (wo : Nat → BitVec 64) (sa : Nat → Int) (sz : Int) (ps : Int) (bt : Nat → Int) (ou : Nat → BitVec 64) (bi : Int) (dm : Int) (pl : Bool) (re : Int) (cu : Bool) (r : Int) (hco : 1 ≤ co ∧ co ≤ 700) (hrw : 0 ≤ rw ∧ rw ≤ 24) (hin : 0 ≤ r ∧ r < rw) (hv9 : -2147483648 ≤ ((crun (px wo co r) co (co + 1).toNat 0 false) : Int) ∧ ((crun (px wo co r) co (co + 1).toNat 0 false) : Int) < 2147483648) : zMetB l yL_runs wsL_runs { frames := 5, cells := 0, slots := 0, locals := 120 } D (zT cy) tw sr ([(o, aJ (cy 2) 1 fo)] ++ CW cy a kd co mk al dz rd rw wo sa sz ps bt ou bi dm pl re cu) [.ref (a 0), vI r, .ref o] 0 0 (S := Unit) (fun _ => some (vI 0)) (fun _ => [(o, aJ (cy 2) 1 (va_up fo (0 : Int).toNat (BitVec.ofInt 64 (crun (px wo co r) co (co + 1).toNat 0 false))))] ++ CW cy a kd co mk al dz rd rw wo sa sz ps bt ou bi dm pl re cu) (fun _ => True) := by
  refine z_metH (cc := cL_runs) (nL := 4) (ret := some .int) (hh := [(0, 9, 12, 25)]) (by decide +kernel) rfl (Nat.le_of_ble_eq_true rfl) (lv := [(0, .ref (a 0)), (1, vI r), (2, .ref o)]) rfl ?_
  intro V p_ e_ s_ m_ args_ below_ meth_ c_ A_ C XL htab
  refine z_aload_n C dL_runs_0 2 rfl ?_
  refine z_iconst C (z := 0) dL_runs_1 ?_
  refine z_aload_n C dL_runs_2 0 rfl ?_
  refine z_iload_n C dL_runs_3 1 rfl ?_
  refine z_callVE C (X := [(o, aJ (cy 2) 1 fo)]) (W0 := CW cy a kd co mk al dz rd rw wo sa sz ps bt ou bi dm pl re cu) (As := [vI r]) (st := [vI 0, .ref o]) (c_X7_runs l D cy tw a kd co mk al dz rd rw wo sa sz ps bt ou bi dm pl re cu r hco hrw hin) gL_runs_X7_runs kn_X7_runs rfl ⟨rfl, rfl, Nat.le_of_ble_eq_true rfl, Nat.le_of_ble_eq_true rfl⟩ 0 rfl (ci := 9) rfl rfl (Nat.le_of_ble_eq_true rfl) ⟨Nat.le_of_ble_eq_true rfl, Nat.le_of_ble_eq_true rfl⟩ dL_runs_4 (fun u hu => ?_)
  show V 0 0 ([(o, aJ (cy 2) 1 fo)] ++ CW cy a kd co mk al dz rd rw wo sa sz ps bt ou bi dm pl re cu) [(0, .ref (a 0)), (1, vI r), (2, .ref o)] [vI (crun (px wo co r) co (co + 1).toNat 0 false), vI 0, .ref o] 7
  refine z_i2l C hv9 dL_runs_7 ?_
  refine z_last C 0 2 (g := fo) rfl rfl (by decide) (by decide) (by decide) dL_runs_8 (ws' := [(o, aJ (cy 2) 1 (va_up fo (0 : Int).toNat (BitVec.ofInt 64 (crun (px wo co r) co (co + 1).toNat 0 false))))] ++ CW cy a kd co mk al dz rd rw wo sa sz ps bt ou bi dm pl re cu) rfl ?_
  refine z_goto C (tgt := 15) dL_runs_9 (by decide) ?_
  refine z_iconst C (z := 0) dL_runs_15 ?_
  exact z_iret (x := 0) C dL_runs_16 u rfl hu rfl (by decide) (by decide)
def wsL_runsA : List Cond := wsL_runs ++ (vx_atS RX7 159 "java/lang/ArrayIndexOutOfBoundsException" zxnA).filter goodWord
theorem kn_L_runsA : zKnW yL_runs wsL_runsA cL_runs 4 (some .int) [(0, 9, 12, 25)] 3 := ⟨⟨_, rfl⟩, by decide +kernel, by decide +kernel, by decide +kernel⟩
set_option maxHeartbeats 1000000 in
set_option maxRecDepth 100000 in
theorem c_L_runsX (l : Launch) (hl9 : l.stackTraces = false) (D : va_G) (cy : Nat → ClassId) (tw sr : Nat → Nat) (o : Nat) (a : Nat → Nat) (fo : Nat → BitVec 64) (kd : Int) (co : Int) (mk : Bool) (al : Bool) (dz : Bool) (rd : Bool) (rw : Int) (wo : Nat → BitVec 64) (sa : Nat → Int) (sz : Int) (ps : Int) (bt : Nat → Int) (ou : Nat → BitVec 64) (bi : Int) (dm : Int) (pl : Bool) (re : Int) (cu : Bool) (r : Int) (hrw : 0 ≤ rw ∧ rw ≤ 24) (hyr : -2147483648 ≤ r ∧ r < 2147483648) (hno : ¬ (0 ≤ r ∧ r < rw)) : zMetB l yL_runs wsL_runsA { frames := 8, cells := 1, slots := 6, locals := 120 } D (zT cy) tw sr ([(o, aJ (cy 2) 1 fo)] ++ CW cy a kd co mk al dz rd rw wo sa sz ps bt ou bi dm pl re cu) [.ref (a 0), vI r, .ref o] 1 6 (S := Unit) (fun _ => some (vI 1)) (fun _ => [(o, aJ (cy 2) 1 fo)] ++ CW cy a kd co mk al dz rd rw wo sa sz ps bt ou bi dm pl re cu) (fun _ => True) := by
  refine z_metH (cc := cL_runs) (nL := 4) (ret := some .int) (hh := [(0, 9, 12, 25)]) (by decide +kernel) rfl (Nat.le_of_ble_eq_true rfl) (lv := [(0, .ref (a 0)), (1, vI r), (2, .ref o)]) rfl ?_
  intro V p_ e_ s_ m_ args_ below_ meth_ c_ A_ C XL htab
  refine z_aload_n C dL_runs_0 2 rfl ?_
  refine z_iconst C (z := 0) dL_runs_1 ?_
  refine z_aload_n C dL_runs_2 0 rfl ?_
  refine z_iload_n C dL_runs_3 1 rfl ?_
  refine z_callVXE C XL (X := [(o, aJ (cy 2) 1 fo)]) (W0 := CW cy a kd co mk al dz rd rw wo sa sz ps bt ou bi dm pl re cu) (As := [vI r]) (st := [vI 0, .ref o]) (c_X7_runsX l hl9 D cy tw sr a kd co mk al dz rd rw wo sa sz ps bt ou bi dm pl re cu r hrw hyr hno) (goodIn_vA gL_runs_X7_runs goodE) kn_X7_runsA rfl ⟨rfl, rfl, Nat.le_of_ble_eq_true rfl, Nat.le_of_ble_eq_true rfl⟩ 0 rfl (ci := 9) rfl rfl (Nat.le_of_ble_eq_true rfl) ⟨Nat.le_of_ble_eq_true rfl, Nat.le_of_ble_eq_true rfl⟩ dL_runs_4 [] ⟨0, 9, 12, 25⟩ [] (by rw [htab]; rfl) (fun z hz => absurd hz List.not_mem_nil) (by decide) (by decide) (List.mem_of_getElem? (i := 1) rfl) (by decide +kernel) (fun q => ?_)
  show V 1 6 ([(o, aJ (cy 2) 1 fo)] ++ CW cy a kd co mk al dz rd rw wo sa sz ps bt ou bi dm pl re cu) [(0, .ref (a 0)), (1, vI r), (2, .ref o)] [.ref q] 12
  refine z_astore_n C (lv' := [(3, .ref q), (0, .ref (a 0)), (1, vI r), (2, .ref o)]) dL_runs_12 rfl (by decide) rfl ?_
  refine z_iconst C (z := 1) dL_runs_13 ?_
  exact z_iret (x := 1) C dL_runs_14 () rfl trivial rfl (by decide) (by decide)
theorem kn_L_octet : zKnW yL_octet wsL_octet cL_octet 4 (some .int) [(0, 9, 12, 25)] 3 := ⟨⟨_, rfl⟩, by decide +kernel, by decide +kernel, by decide +kernel⟩
set_option maxHeartbeats 1000000 in
set_option maxRecDepth 100000 in
theorem c_L_octet (l : Launch) (D : va_G) (cy : Nat → ClassId) (tw sr : Nat → Nat) (o : Nat) (a : Nat → Nat) (fo : Nat → BitVec 64) (kd : Int) (co : Int) (mk : Bool) (al : Bool) (dz : Bool) (rd : Bool) (rw : Int) (wo : Nat → BitVec 64) (sa : Nat → Int) (sz : Int) (ps : Int) (bt : Nat → Int) (ou : Nat → BitVec 64) (bi : Int) (dm : Int) (pl : Bool) (re : Int) (cu : Bool) (i : Int) (hco : 1 ≤ co ∧ co ≤ 700) (h0 : 0 ≤ bi ∧ bi ≤ 200000) (hin : 0 ≤ i ∧ i < (bi + 7) / 8) (hv9 : -2147483648 ≤ ((obC ou co i) : Int) ∧ ((obC ou co i) : Int) < 2147483648) : zMetB l yL_octet wsL_octet { frames := 2, cells := 0, slots := 0, locals := 43 } D (zT cy) tw sr ([(o, aJ (cy 2) 1 fo)] ++ CW cy a kd co mk al dz rd rw wo sa sz ps bt ou bi dm pl re cu) [.ref (a 0), vI i, .ref o] 0 0 (S := Unit) (fun _ => some (vI 0)) (fun _ => [(o, aJ (cy 2) 1 (va_up fo (0 : Int).toNat (BitVec.ofInt 64 (obC ou co i))))] ++ CW cy a kd co mk al dz rd rw wo sa sz ps bt ou bi dm pl re cu) (fun _ => True) := by
  refine z_metH (cc := cL_octet) (nL := 4) (ret := some .int) (hh := [(0, 9, 12, 25)]) (by decide +kernel) rfl (Nat.le_of_ble_eq_true rfl) (lv := [(0, .ref (a 0)), (1, vI i), (2, .ref o)]) rfl ?_
  intro V p_ e_ s_ m_ args_ below_ meth_ c_ A_ C XL htab
  refine z_aload_n C dL_octet_0 2 rfl ?_
  refine z_iconst C (z := 0) dL_octet_1 ?_
  refine z_aload_n C dL_octet_2 0 rfl ?_
  refine z_iload_n C dL_octet_3 1 rfl ?_
  refine z_callVE C (X := [(o, aJ (cy 2) 1 fo)]) (W0 := CW cy a kd co mk al dz rd rw wo sa sz ps bt ou bi dm pl re cu) (As := [vI i]) (st := [vI 0, .ref o]) (c_X7_octet l D cy tw a kd co mk al dz rd rw wo sa sz ps bt ou bi dm pl re cu i hco h0 hin) gL_octet_X7_octet kn_X7_octet rfl ⟨rfl, rfl, Nat.le_of_ble_eq_true rfl, Nat.le_of_ble_eq_true rfl⟩ 0 rfl (ci := 9) rfl rfl (Nat.le_of_ble_eq_true rfl) ⟨Nat.le_of_ble_eq_true rfl, Nat.le_of_ble_eq_true rfl⟩ dL_octet_4 (fun u hu => ?_)
  show V 0 0 ([(o, aJ (cy 2) 1 fo)] ++ CW cy a kd co mk al dz rd rw wo sa sz ps bt ou bi dm pl re cu) [(0, .ref (a 0)), (1, vI i), (2, .ref o)] [vI (obC ou co i), vI 0, .ref o] 7
  refine z_i2l C hv9 dL_octet_7 ?_
  refine z_last C 0 2 (g := fo) rfl rfl (by decide) (by decide) (by decide) dL_octet_8 (ws' := [(o, aJ (cy 2) 1 (va_up fo (0 : Int).toNat (BitVec.ofInt 64 (obC ou co i))))] ++ CW cy a kd co mk al dz rd rw wo sa sz ps bt ou bi dm pl re cu) rfl ?_
  refine z_goto C (tgt := 15) dL_octet_9 (by decide) ?_
  refine z_iconst C (z := 0) dL_octet_15 ?_
  exact z_iret (x := 0) C dL_octet_16 u rfl hu rfl (by decide) (by decide)
def wsL_octetA : List Cond := wsL_octet ++ (vx_atS RX7 159 "java/lang/ArrayIndexOutOfBoundsException" zxnA).filter goodWord
theorem kn_L_octetA : zKnW yL_octet wsL_octetA cL_octet 4 (some .int) [(0, 9, 12, 25)] 3 := ⟨⟨_, rfl⟩, by decide +kernel, by decide +kernel, by decide +kernel⟩
set_option maxHeartbeats 1000000 in
set_option maxRecDepth 100000 in
theorem c_L_octetX (l : Launch) (hl9 : l.stackTraces = false) (D : va_G) (cy : Nat → ClassId) (tw sr : Nat → Nat) (o : Nat) (a : Nat → Nat) (fo : Nat → BitVec 64) (kd : Int) (co : Int) (mk : Bool) (al : Bool) (dz : Bool) (rd : Bool) (rw : Int) (wo : Nat → BitVec 64) (sa : Nat → Int) (sz : Int) (ps : Int) (bt : Nat → Int) (ou : Nat → BitVec 64) (bi : Int) (dm : Int) (pl : Bool) (re : Int) (cu : Bool) (i : Int) (hyi : -2147483648 ≤ i ∧ i < 2147483648) (h0 : 0 ≤ bi ∧ bi ≤ 200000) (hno : i < 0 ∨ (bi + 7) / 8 ≤ i) : zMetB l yL_octet wsL_octetA { frames := 8, cells := 1, slots := 6, locals := 116 } D (zT cy) tw sr ([(o, aJ (cy 2) 1 fo)] ++ CW cy a kd co mk al dz rd rw wo sa sz ps bt ou bi dm pl re cu) [.ref (a 0), vI i, .ref o] 1 6 (S := Unit) (fun _ => some (vI 1)) (fun _ => [(o, aJ (cy 2) 1 fo)] ++ CW cy a kd co mk al dz rd rw wo sa sz ps bt ou bi dm pl re cu) (fun _ => True) := by
  refine z_metH (cc := cL_octet) (nL := 4) (ret := some .int) (hh := [(0, 9, 12, 25)]) (by decide +kernel) rfl (Nat.le_of_ble_eq_true rfl) (lv := [(0, .ref (a 0)), (1, vI i), (2, .ref o)]) rfl ?_
  intro V p_ e_ s_ m_ args_ below_ meth_ c_ A_ C XL htab
  refine z_aload_n C dL_octet_0 2 rfl ?_
  refine z_iconst C (z := 0) dL_octet_1 ?_
  refine z_aload_n C dL_octet_2 0 rfl ?_
  refine z_iload_n C dL_octet_3 1 rfl ?_
  refine z_callVXE C XL (X := [(o, aJ (cy 2) 1 fo)]) (W0 := CW cy a kd co mk al dz rd rw wo sa sz ps bt ou bi dm pl re cu) (As := [vI i]) (st := [vI 0, .ref o]) (c_X7_octetX l hl9 D cy tw sr a kd co mk al dz rd rw wo sa sz ps bt ou bi dm pl re cu i hyi h0 hno) (goodIn_vA gL_octet_X7_octet goodE) kn_X7_octetA rfl ⟨rfl, rfl, Nat.le_of_ble_eq_true rfl, Nat.le_of_ble_eq_true rfl⟩ 0 rfl (ci := 9) rfl rfl (Nat.le_of_ble_eq_true rfl) ⟨Nat.le_of_ble_eq_true rfl, Nat.le_of_ble_eq_true rfl⟩ dL_octet_4 [] ⟨0, 9, 12, 25⟩ [] (by rw [htab]; rfl) (fun z hz => absurd hz List.not_mem_nil) (by decide) (by decide) (List.mem_of_getElem? (i := 1) rfl) (by decide +kernel) (fun q => ?_)
  show V 1 6 ([(o, aJ (cy 2) 1 fo)] ++ CW cy a kd co mk al dz rd rw wo sa sz ps bt ou bi dm pl re cu) [(0, .ref (a 0)), (1, vI i), (2, .ref o)] [.ref q] 12
  refine z_astore_n C (lv' := [(3, .ref q), (0, .ref (a 0)), (1, vI i), (2, .ref o)]) dL_octet_12 rfl (by decide) rfl ?_
  refine z_iconst C (z := 1) dL_octet_13 ?_
  exact z_iret (x := 1) C dL_octet_14 () rfl trivial rfl (by decide) (by decide)
theorem kn_L_code : zKnW yL_code wsL_code cL_code 5 (some .int) [(0, 10, 13, 13)] 4 := ⟨⟨_, rfl⟩, by decide +kernel, by decide +kernel, by decide +kernel⟩
set_option maxHeartbeats 1000000 in
set_option maxRecDepth 100000 in
theorem c_L_code (l : Launch) (D : va_G) (cy : Nat → ClassId) (tw sr : Nat → Nat) (o : Nat) (a : Nat → Nat) (fo : Nat → BitVec 64) (kd : Int) (co : Int) (mk : Bool) (al : Bool) (dz : Bool) (rd : Bool) (rw : Int) (wo : Nat → BitVec 64) (sa : Nat → Int) (sz : Int) (ps : Int) (bt : Nat → Int) (ou : Nat → BitVec 64) (bi : Int) (dm : Int) (pl : Bool) (re : Int) (cu : Bool) (d : Bool) (z : Int) (hyz : -2147483648 ≤ z ∧ z < 2147483648) (hin : 0 ≤ sltC z ∧ sltC z < 74) (hv9 : -2147483648 ≤ ((lenC d (sltC z) * 65536 + codC d (sltC z)) : Int) ∧ ((lenC d (sltC z) * 65536 + codC d (sltC z)) : Int) < 2147483648) : zMetB l yL_code wsL_code { frames := 3, cells := 0, slots := 0, locals := 64 } D (zT cy) tw sr ([(o, aJ (cy 2) 1 fo)] ++ CW cy a kd co mk al dz rd rw wo sa sz ps bt ou bi dm pl re cu) [.ref (a 0), vI (b2i d), vI z, .ref o] 0 0 (S := Unit) (fun _ => some (vI 0)) (fun _ => [(o, aJ (cy 2) 1 (va_up fo (0 : Int).toNat (BitVec.ofInt 64 (lenC d (sltC z) * 65536 + codC d (sltC z)))))] ++ CW cy a kd co mk al dz rd rw wo sa sz ps bt ou bi dm pl re cu) (fun _ => True) := by
  refine z_metH (cc := cL_code) (nL := 5) (ret := some .int) (hh := [(0, 10, 13, 13)]) (by decide +kernel) rfl (Nat.le_of_ble_eq_true rfl) (lv := [(0, .ref (a 0)), (1, vI (b2i d)), (2, vI z), (3, .ref o)]) rfl ?_
  intro V p_ e_ s_ m_ args_ below_ meth_ c_ A_ C XL htab
  refine z_aload_n C dL_code_0 3 rfl ?_
  refine z_iconst C (z := 0) dL_code_1 ?_
  refine z_aload_n C dL_code_2 0 rfl ?_
  refine z_iload_n C dL_code_3 1 rfl ?_
  refine z_iload_n C dL_code_4 2 rfl ?_
  refine z_callVE C (X := [(o, aJ (cy 2) 1 fo)]) (W0 := CW cy a kd co mk al dz rd rw wo sa sz ps bt ou bi dm pl re cu) (As := [vI (b2i d), vI z]) (st := [vI 0, .ref o]) (c_X7_code l D cy tw a kd co mk al dz rd rw wo sa sz ps bt ou bi dm pl re cu d z hyz hin) gL_code_X7_code kn_X7_code rfl ⟨rfl, rfl, Nat.le_of_ble_eq_true rfl, Nat.le_of_ble_eq_true rfl⟩ 0 rfl (ci := 9) rfl rfl (Nat.le_of_ble_eq_true rfl) ⟨Nat.le_of_ble_eq_true rfl, Nat.le_of_ble_eq_true rfl⟩ dL_code_5 (fun u hu => ?_)
  show V 0 0 ([(o, aJ (cy 2) 1 fo)] ++ CW cy a kd co mk al dz rd rw wo sa sz ps bt ou bi dm pl re cu) [(0, .ref (a 0)), (1, vI (b2i d)), (2, vI z), (3, .ref o)] [vI (lenC d (sltC z) * 65536 + codC d (sltC z)), vI 0, .ref o] 8
  refine z_i2l C hv9 dL_code_8 ?_
  refine z_last C 0 2 (g := fo) rfl rfl (by decide) (by decide) (by decide) dL_code_9 (ws' := [(o, aJ (cy 2) 1 (va_up fo (0 : Int).toNat (BitVec.ofInt 64 (lenC d (sltC z) * 65536 + codC d (sltC z)))))] ++ CW cy a kd co mk al dz rd rw wo sa sz ps bt ou bi dm pl re cu) rfl ?_
  refine z_goto C (tgt := 17) dL_code_10 (by decide) ?_
  refine z_iconst C (z := 0) dL_code_17 ?_
  exact z_iret (x := 0) C dL_code_18 u rfl hu rfl (by decide) (by decide)
set_option maxHeartbeats 1000000 in
set_option maxRecDepth 100000 in
theorem c_L_codeX (l : Launch) (hl9 : l.stackTraces = false) (D : va_G) (cy : Nat → ClassId) (tw sr : Nat → Nat) (o : Nat) (a : Nat → Nat) (fo : Nat → BitVec 64) (kd : Int) (co : Int) (mk : Bool) (al : Bool) (dz : Bool) (rd : Bool) (rw : Int) (wo : Nat → BitVec 64) (sa : Nat → Int) (sz : Int) (ps : Int) (bt : Nat → Int) (ou : Nat → BitVec 64) (bi : Int) (dm : Int) (pl : Bool) (re : Int) (cu : Bool) (d : Bool) (z : Int) (hyz : -2147483648 ≤ z ∧ z < 2147483648) (hno : -10 ≤ sltC z ∧ sltC z < 0) : zMetB l yL_code wsL_code { frames := 7, cells := 1, slots := 6, locals := 106 } D (zT cy) tw sr ([(o, aJ (cy 2) 1 fo)] ++ CW cy a kd co mk al dz rd rw wo sa sz ps bt ou bi dm pl re cu) [.ref (a 0), vI (b2i d), vI z, .ref o] 1 6 (S := Unit) (fun _ => some (vI 1)) (fun _ => [(o, aJ (cy 2) 1 fo)] ++ CW cy a kd co mk al dz rd rw wo sa sz ps bt ou bi dm pl re cu) (fun _ => True) := by
  refine z_metH (cc := cL_code) (nL := 5) (ret := some .int) (hh := [(0, 10, 13, 13)]) (by decide +kernel) rfl (Nat.le_of_ble_eq_true rfl) (lv := [(0, .ref (a 0)), (1, vI (b2i d)), (2, vI z), (3, .ref o)]) rfl ?_
  intro V p_ e_ s_ m_ args_ below_ meth_ c_ A_ C XL htab
  refine z_aload_n C dL_code_0 3 rfl ?_
  refine z_iconst C (z := 0) dL_code_1 ?_
  refine z_aload_n C dL_code_2 0 rfl ?_
  refine z_iload_n C dL_code_3 1 rfl ?_
  refine z_iload_n C dL_code_4 2 rfl ?_
  refine z_callVXE C XL (X := [(o, aJ (cy 2) 1 fo)]) (W0 := CW cy a kd co mk al dz rd rw wo sa sz ps bt ou bi dm pl re cu) (As := [vI (b2i d), vI z]) (st := [vI 0, .ref o]) (c_X7_codeX l hl9 D cy tw sr a kd co mk al dz rd rw wo sa sz ps bt ou bi dm pl re cu d z hyz hno) gL_code_X7_code kn_X7_code rfl ⟨rfl, rfl, Nat.le_of_ble_eq_true rfl, Nat.le_of_ble_eq_true rfl⟩ 0 rfl (ci := 9) rfl rfl (Nat.le_of_ble_eq_true rfl) ⟨Nat.le_of_ble_eq_true rfl, Nat.le_of_ble_eq_true rfl⟩ dL_code_5 [] ⟨0, 10, 13, 13⟩ [] (by rw [htab]; rfl) (fun z hz => absurd hz List.not_mem_nil) (by decide) (by decide) (List.mem_of_getElem? (i := 1) rfl) (by decide +kernel) (fun q => ?_)
  show V 1 6 ([(o, aJ (cy 2) 1 fo)] ++ CW cy a kd co mk al dz rd rw wo sa sz ps bt ou bi dm pl re cu) [(0, .ref (a 0)), (1, vI (b2i d)), (2, vI z), (3, .ref o)] [.ref q] 13
  refine z_astore C (lv' := [(4, .ref q), (0, .ref (a 0)), (1, vI (b2i d)), (2, vI z), (3, .ref o)]) dL_code_13 (by decide) rfl ?_
  refine z_iconst C (z := 1) dL_code_15 ?_
  exact z_iret (x := 1) C dL_code_16 () rfl trivial rfl (by decide) (by decide)
