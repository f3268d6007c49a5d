theorem kn_X0_init : zKn yX0_init wsX0_init cX0_init 1 (none) 0 := ⟨⟨_, rfl⟩, by decide +kernel, by decide +kernel, by decide +kernel⟩
set_option maxHeartbeats 1000000 in
set_option maxRecDepth 100000 in
theorem c_X0_init (l : Launch) (D : va_G) (cy : Nat → ClassId) (tw : Nat → Nat) (h : Nat) : zMet l yX0_init wsX0_init { frames := 1, cells := 1, slots := 400, locals := 12 } D (zT cy) tw [(h, .inr (2, [vI 0, vI 0, .null]))] [.ref h] 1 400 (S := Nat) (fun _ => none) (fun q => [(h, .inr (2, [vI 0, vI 0, .ref q])), (q, aB (cy 0) 400 (fun _ => 0))]) (fun _ => True) := by
  refine z_met (cc := cX0_init) (nL := 1) (ret := none) (by decide +kernel) rfl (Nat.le_of_ble_eq_true rfl) (lv := [(0, .ref h)]) rfl ?_
  intro V p_ e_ s_ m_ args_ below_ meth_ c_ A_ C hmn0
  have hmn : meth_.name = "<init>" := hmn0
  have hinX0 : ∀ w ∈ u_ws RX0 TX0 3, w ∈ wsX0_init := by decide +kernel
  have k0 : Cond.methodLink RX0 3 objectInit ∈ wsX0_init := List.mem_of_getElem? (i := 1) rfl
  have k1 : Cond.instanceMethod objectInit ∈ wsX0_init := List.mem_of_getElem? (i := 2) rfl
  have k2 : Cond.code objectInit ⟨#[0xb1]⟩ 1 none ∈ wsX0_init := List.mem_of_getElem? (i := 3) rfl
  have k3 : Cond.arrayClass .byte ∈ wsX0_init := List.mem_of_getElem? (i := 4) rfl
  have k4 : Cond.fieldLink RX0 9 "FaxFilter$BitsIn" "bytes" "[B" ∈ wsX0_init := List.mem_of_getElem? (i := 5) rfl
  refine z_aload_n C dX0_init_0 0 rfl ?_
  refine z_objInit C k0 k1 k2 (Nat.le_of_ble_eq_true rfl) (Nat.le_of_ble_eq_true rfl) dX0_init_1 ?_
  refine z_aload_n C dX0_init_4 0 rfl ?_
  refine z_sipush C (z := 400) dX0_init_5 (by decide) ?_
  refine z_newaB C 400 (rfl) (Nat.le_of_ble_eq_true rfl) k3 0 rfl (Nat.le_of_ble_eq_true rfl) (Nat.le_of_ble_eq_true rfl) dX0_init_8 (fun q1 => ?_)
  show V 1 400 [(h, .inr (2, [vI 0, vI 0, .null])), (q1, aB (cy 0) 400 (fun _ => 0))] [(0, .ref h)] [.ref q1, .ref h] 10
  refine z_putF C hmn hinX0 tyX0 tyX0_ok nmX0 (ci := 2) rfl 0 rfl 2 (by decide) k4 rfl rfl rfl rfl rfl (Nat.le_of_ble_eq_true rfl) dX0_init_10 (ws' := [(h, .inr (2, [vI 0, vI 0, .ref q1])), (q1, aB (cy 0) 400 (fun _ => 0))]) rfl ?_
  refine z_vret C dX0_init_13 q1 ?_ ?_ ?_ (by decide) (by decide)
  · exact rfl
  · exact trivial
  · exact rfl
theorem kn_X1_init : zKn yX1_init wsX1_init cX1_init 2 (none) 1 := ⟨⟨_, rfl⟩, by decide +kernel, by decide +kernel, by decide +kernel⟩
set_option maxHeartbeats 1000000 in
set_option maxRecDepth 100000 in
theorem c_X1_init (l : Launch) (D : va_G) (cy : Nat → ClassId) (tw : Nat → Nat) (h : Nat) (co : Int) (hco : 1 ≤ co ∧ co ≤ 700) : zMet l yX1_init wsX1_init { frames := 1, cells := 1, slots := 14896, locals := 14 } D (zT cy) tw [(h, .inr (3, [.null, vI 0]))] [.ref h, vI co] 1 14896 (S := Nat) (fun _ => none) (fun q => [(h, .inr (3, [.ref q, vI 0])), (q, aJ (cy 2) (ow co) (fun _ => 0#64))]) (fun _ => True) := by
  refine z_met (cc := cX1_init) (nL := 2) (ret := none) (by decide +kernel) rfl (Nat.le_of_ble_eq_true rfl) (lv := [(0, .ref h), (1, vI co)]) rfl ?_
  intro V p_ e_ s_ m_ args_ below_ meth_ c_ A_ C hmn0
  have hmn : meth_.name = "<init>" := hmn0
  have hinX1 : ∀ w ∈ u_ws RX1 TX1 2, w ∈ wsX1_init := by decide +kernel
  have k0 : Cond.methodLink RX1 3 objectInit ∈ wsX1_init := List.mem_of_getElem? (i := 1) rfl
  have k1 : Cond.instanceMethod objectInit ∈ wsX1_init := List.mem_of_getElem? (i := 2) rfl
  have k2 : Cond.code objectInit ⟨#[0xb1]⟩ 1 none ∈ wsX1_init := List.mem_of_getElem? (i := 3) rfl
  have k3 : Cond.arrayClass .long ∈ wsX1_init := List.mem_of_getElem? (i := 4) rfl
  have k4 : Cond.fieldLink RX1 9 "FaxFilter$BitsOut" "words" "[J" ∈ wsX1_init := List.mem_of_getElem? (i := 5) rfl
  have how := ow_eq hco.1
  refine z_aload_n C dX1_init_0 0 rfl ?_
  refine z_objInit C k0 k1 k2 (Nat.le_of_ble_eq_true rfl) (Nat.le_of_ble_eq_true rfl) dX1_init_1 ?_
  refine z_aload_n C dX1_init_4 0 rfl ?_
  refine z_bipush C (z := 24) dX1_init_5 (by decide) ?_
  refine z_bipush C (z := 7) dX1_init_7 (by decide) ?_
  refine z_iload_n C dX1_init_9 1 rfl ?_
  refine z_imul C dX1_init_10 ?_
  refine z_bipush C (z := 60) dX1_init_11 (by decide) ?_
  refine z_iadd C dX1_init_13 ?_
  refine z_imul C dX1_init_14 ?_
  refine z_bipush C (z := 64) dX1_init_15 (by decide) ?_
  refine z_idiv C dX1_init_17 (by omega) (by decide) ?_
  refine z_iconst C (z := 4) dX1_init_18 ?_
  refine z_iadd C dX1_init_19 ?_
  refine z_newaJ C (ow co) (by omega) (by omega) k3 2 rfl (Nat.le_of_ble_eq_true rfl) (by show 0 + ow co ≤ 14896; omega) dX1_init_20 (fun q1 => ?_)
  show V 1 (0 + (ow co)) [(h, .inr (3, [.null, vI 0])), (q1, aJ (cy 2) (ow co) (fun _ => 0#64))] [(0, .ref h), (1, vI co)] [.ref q1, .ref h] 22
  refine z_putF C hmn hinX1 tyX1 tyX1_ok nmX1 (ci := 3) rfl 0 rfl 0 (by decide) k4 rfl rfl rfl rfl rfl (Nat.le_of_ble_eq_true rfl) dX1_init_22 (ws' := [(h, .inr (3, [.ref q1, vI 0])), (q1, aJ (cy 2) (ow co) (fun _ => 0#64))]) rfl ?_
  refine z_vret C dX1_init_25 q1 ?_ ?_ ?_ (by decide) (by show 0 + ow co ≤ 14896; omega)
  · exact rfl
  · exact trivial
  · exact rfl
theorem kn_X2_init : zKn yX2_init wsX2_init cX2_init 2 (none) 1 := ⟨⟨_, rfl⟩, by decide +kernel, by decide +kernel, by decide +kernel⟩
set_option maxHeartbeats 1000000 in
set_option maxRecDepth 100000 in
theorem c_X2_init (l : Launch) (D : va_G) (cy : Nat → ClassId) (tw : Nat → Nat) (h : Nat) (co : Int) (hco : 1 ≤ co ∧ co ≤ 700) : zMet l yX2_init wsX2_init { frames := 1, cells := 2, slots := 288, locals := 14 } D (zT cy) tw [(h, .inr (4, [vI 0, vI 0, vI 0, .null, .null]))] [.ref h, vI co] 2 288 (S := Nat × Nat) (fun _ => none) (fun u => [(h, .inr (4, [vI co, vI 0, vI ((co + 63) / 64), .ref u.2, .ref u.1])), (u.1, aI (cy 1) 24 (fun _ => 0)), (u.2, aJ (cy 2) (wn co) (fun _ => 0#64))]) (fun _ => True) := by
  refine z_met (cc := cX2_init) (nL := 2) (ret := none) (by decide +kernel) rfl (Nat.le_of_ble_eq_true rfl) (lv := [(0, .ref h), (1, vI co)]) rfl ?_
  intro V p_ e_ s_ m_ args_ below_ meth_ c_ A_ C hmn0
  have hmn : meth_.name = "<init>" := hmn0
  have hinX2 : ∀ w ∈ u_ws RX2 TX2 5, w ∈ wsX2_init := by decide +kernel
  have k0 : Cond.methodLink RX2 3 objectInit ∈ wsX2_init := List.mem_of_getElem? (i := 1) rfl
  have k1 : Cond.instanceMethod objectInit ∈ wsX2_init := List.mem_of_getElem? (i := 2) rfl
  have k2 : Cond.code objectInit ⟨#[0xb1]⟩ 1 none ∈ wsX2_init := List.mem_of_getElem? (i := 3) rfl
  have k3 : Cond.arrayClass .int ∈ wsX2_init := List.mem_of_getElem? (i := 4) rfl
  have k4 : Cond.fieldLink RX2 9 "FaxFilter$Picture" "states" "[I" ∈ wsX2_init := List.mem_of_getElem? (i := 5) rfl
  have k5 : Cond.fieldLink RX2 15 "FaxFilter$Picture" "columns" "I" ∈ wsX2_init := List.mem_of_getElem? (i := 6) rfl
  have k6 : Cond.fieldLink RX2 19 "FaxFilter$Picture" "wide" "I" ∈ wsX2_init := List.mem_of_getElem? (i := 7) rfl
  have k7 : Cond.arrayClass .long ∈ wsX2_init := List.mem_of_getElem? (i := 8) rfl
  have k8 : Cond.fieldLink RX2 22 "FaxFilter$Picture" "words" "[J" ∈ wsX2_init := List.mem_of_getElem? (i := 9) rfl
  have hwn := wn_eq hco.1
  refine z_aload_n C dX2_init_0 0 rfl ?_
  refine z_objInit C k0 k1 k2 (Nat.le_of_ble_eq_true rfl) (Nat.le_of_ble_eq_true rfl) dX2_init_1 ?_
  refine z_aload_n C dX2_init_4 0 rfl ?_
  refine z_bipush C (z := 24) dX2_init_5 (by decide) ?_
  refine z_newaI C 24 (rfl) (Nat.le_of_ble_eq_true rfl) k3 1 rfl (Nat.le_of_ble_eq_true rfl) (Nat.le_of_ble_eq_true rfl) dX2_init_7 (fun q1 => ?_)
  show V 1 24 [(h, .inr (4, [vI 0, vI 0, vI 0, .null, .null])), (q1, aI (cy 1) 24 (fun _ => 0))] [(0, .ref h), (1, vI co)] [.ref q1, .ref h] 9
  refine z_putF C hmn hinX2 tyX2 tyX2_ok nmX2 (ci := 4) rfl 0 rfl 4 (by decide) k4 rfl rfl rfl rfl rfl (Nat.le_of_ble_eq_true rfl) dX2_init_9 (ws' := [(h, .inr (4, [vI 0, vI 0, vI 0, .null, .ref q1])), (q1, aI (cy 1) 24 (fun _ => 0))]) rfl ?_
  refine z_aload_n C dX2_init_12 0 rfl ?_
  refine z_iload_n C dX2_init_13 1 rfl ?_
  refine z_putF C hmn hinX2 tyX2 tyX2_ok nmX2 (ci := 4) rfl 0 rfl 0 (by decide) k5 rfl rfl rfl rfl rfl (Nat.le_of_ble_eq_true rfl) dX2_init_14 (ws' := [(h, .inr (4, [vI co, vI 0, vI 0, .null, .ref q1])), (q1, aI (cy 1) 24 (fun _ => 0))]) rfl ?_
  refine z_aload_n C dX2_init_17 0 rfl ?_
  refine z_iload_n C dX2_init_18 1 rfl ?_
  refine z_bipush C (z := 63) dX2_init_19 (by decide) ?_
  refine z_iadd C dX2_init_21 ?_
  refine z_bipush C (z := 64) dX2_init_22 (by decide) ?_
  refine z_idiv C dX2_init_24 (by omega) (by decide) ?_
  refine z_putF C hmn hinX2 tyX2 tyX2_ok nmX2 (ci := 4) rfl 0 rfl 2 (by decide) k6 rfl rfl rfl rfl rfl (Nat.le_of_ble_eq_true rfl) dX2_init_25 (ws' := [(h, .inr (4, [vI co, vI 0, vI ((co + 63) / 64), .null, .ref q1])), (q1, aI (cy 1) 24 (fun _ => 0))]) rfl ?_
  refine z_aload_n C dX2_init_28 0 rfl ?_
  refine z_bipush C (z := 24) dX2_init_29 (by decide) ?_
  refine z_aload_n C dX2_init_31 0 rfl ?_
  refine z_get C hinX2 (ci := 4) rfl 0 rfl 2 (by decide) k6 rfl (v := vI ((co + 63) / 64)) rfl dX2_init_32 ?_
  refine z_imul C dX2_init_35 ?_
  refine z_newaJ C (wn co) (by omega) (by omega) k7 2 rfl (Nat.le_of_ble_eq_true rfl) (by show 24 + wn co ≤ 288; omega) dX2_init_36 (fun q2 => ?_)
  show V 2 (24 + (wn co)) [(h, .inr (4, [vI co, vI 0, vI ((co + 63) / 64), .null, .ref q1])), (q1, aI (cy 1) 24 (fun _ => 0)), (q2, aJ (cy 2) (wn co) (fun _ => 0#64))] [(0, .ref h), (1, vI co)] [.ref q2, .ref h] 38
  refine z_putF C hmn hinX2 tyX2 tyX2_ok nmX2 (ci := 4) rfl 0 rfl 3 (by decide) k8 rfl rfl rfl rfl rfl (Nat.le_of_ble_eq_true rfl) dX2_init_38 (ws' := [(h, .inr (4, [vI co, vI 0, vI ((co + 63) / 64), .ref q2, .ref q1])), (q1, aI (cy 1) 24 (fun _ => 0)), (q2, aJ (cy 2) (wn co) (fun _ => 0#64))]) rfl ?_
  refine z_vret C dX2_init_41 (q1, q2) ?_ ?_ ?_ (by decide) (by show 24 + wn co ≤ 288; omega)
  · exact rfl
  · exact trivial
  · exact rfl
theorem kn_X5_init : zKn yX5_init wsX5_init cX5_init 2 (none) 1 := ⟨⟨_, rfl⟩, by decide +kernel, by decide +kernel, by decide +kernel⟩
set_option maxHeartbeats 1000000 in
set_option maxRecDepth 100000 in
theorem c_X5_init (l : Launch) (D : va_G) (cy : Nat → ClassId) (tw : Nat → Nat) (h : Nat) (kd : Int) : zMet l yX5_init wsX5_init { frames := 1, cells := 0, slots := 0, locals := 13 } D (zT cy) tw [(h, .inr (7, [vI 0, vI 0, vI 0, vI 0, vI 0]))] [.ref h, vI kd] 0 0 (S := Unit) (fun _ => none) (fun _ => [(h, .inr (7, [vI kd, vI 0, vI 0, vI 0, vI 0]))]) (fun _ => True) := by
  refine z_met (cc := cX5_init) (nL := 2) (ret := none) (by decide +kernel) rfl (Nat.le_of_ble_eq_true rfl) (lv := [(0, .ref h), (1, vI kd)]) rfl ?_
  intro V p_ e_ s_ m_ args_ below_ meth_ c_ A_ C hmn0
  have hmn : meth_.name = "<init>" := hmn0
  have hinX5 : ∀ w ∈ u_ws RX5 TX5 5, w ∈ wsX5_init := by decide +kernel
  have k0 : Cond.methodLink RX5 3 objectInit ∈ wsX5_init := List.mem_of_getElem? (i := 1) rfl
  have k1 : Cond.instanceMethod objectInit ∈ wsX5_init := List.mem_of_getElem? (i := 2) rfl
  have k2 : Cond.code objectInit ⟨#[0xb1]⟩ 1 none ∈ wsX5_init := List.mem_of_getElem? (i := 3) rfl
  have k3 : Cond.fieldLink RX5 9 "FaxFilter$Settings" "kind" "I" ∈ wsX5_init := List.mem_of_getElem? (i := 4) rfl
  refine z_aload_n C dX5_init_0 0 rfl ?_
  refine z_objInit C k0 k1 k2 (Nat.le_of_ble_eq_true rfl) (Nat.le_of_ble_eq_true rfl) dX5_init_1 ?_
  refine z_aload_n C dX5_init_4 0 rfl ?_
  refine z_iload_n C dX5_init_5 1 rfl ?_
  refine z_putF C hmn hinX5 tyX5 tyX5_ok nmX5 (ci := 7) rfl 0 rfl 0 (by decide) k3 rfl rfl rfl rfl rfl (Nat.le_of_ble_eq_true rfl) dX5_init_6 (ws' := [(h, .inr (7, [vI kd, vI 0, vI 0, vI 0, vI 0]))]) rfl ?_
  refine z_vret C dX5_init_9 () ?_ ?_ ?_ (by decide) (by decide)
  · exact rfl
  · exact trivial
  · exact rfl
theorem kn_X4_init : zKn yX4_init wsX4_init cX4_init 6 (none) 5 := ⟨⟨_, rfl⟩, by decide +kernel, by decide +kernel, by decide +kernel⟩
set_option maxHeartbeats 1000000 in
set_option maxRecDepth 100000 in
theorem c_X4_init (l : Launch) (D : va_G) (cy : Nat → ClassId) (tw : Nat → Nat) (h x1 x2 x3 x4 x5 : Nat) : zMet l yX4_init wsX4_init { frames := 1, cells := 0, slots := 0, locals := 13 } D (zT cy) tw [(h, .inr (6, [.null, .null, .null, .null, .null]))] [.ref h, .ref x1, .ref x2, .ref x3, .ref x4, .ref x5] 0 0 (S := Unit) (fun _ => none) (fun _ => [(h, .inr (6, [.ref x1, .ref x2, .ref x3, .ref x4, .ref x5]))]) (fun _ => True) := by
  refine z_met (cc := cX4_init) (nL := 6) (ret := none) (by decide +kernel) rfl (Nat.le_of_ble_eq_true rfl) (lv := [(0, .ref h), (1, .ref x1), (2, .ref x2), (3, .ref x3), (4, .ref x4), (5, .ref x5)]) rfl ?_
  intro V p_ e_ s_ m_ args_ below_ meth_ c_ A_ C hmn0
  have hmn : meth_.name = "<init>" := hmn0
  have hinX4 : ∀ w ∈ u_ws RX4 TX4 5, w ∈ wsX4_init := by decide +kernel
  have k0 : Cond.methodLink RX4 3 objectInit ∈ wsX4_init := List.mem_of_getElem? (i := 1) rfl
  have k1 : Cond.instanceMethod objectInit ∈ wsX4_init := List.mem_of_getElem? (i := 2) rfl
  have k2 : Cond.code objectInit ⟨#[0xb1]⟩ 1 none ∈ wsX4_init := List.mem_of_getElem? (i := 3) rfl
  have k3 : Cond.fieldLink RX4 9 "FaxFilter$Sender" "settings" "LFaxFilter$Settings;" ∈ wsX4_init := List.mem_of_getElem? (i := 4) rfl
  have k4 : Cond.fieldLink RX4 15 "FaxFilter$Sender" "picture" "LFaxFilter$Picture;" ∈ wsX4_init := List.mem_of_getElem? (i := 5) rfl
  have k5 : Cond.fieldLink RX4 19 "FaxFilter$Sender" "whiteTable" "LFaxFilter$Table;" ∈ wsX4_init := List.mem_of_getElem? (i := 6) rfl
  have k6 : Cond.fieldLink RX4 23 "FaxFilter$Sender" "darkTable" "LFaxFilter$Table;" ∈ wsX4_init := List.mem_of_getElem? (i := 7) rfl
  have k7 : Cond.fieldLink RX4 26 "FaxFilter$Sender" "out" "LFaxFilter$BitsOut;" ∈ wsX4_init := List.mem_of_getElem? (i := 8) rfl
  refine z_aload_n C dX4_init_0 0 rfl ?_
  refine z_objInit C k0 k1 k2 (Nat.le_of_ble_eq_true rfl) (Nat.le_of_ble_eq_true rfl) dX4_init_1 ?_
  refine z_aload_n C dX4_init_4 0 rfl ?_
  refine z_aload_n C dX4_init_5 1 rfl ?_
  refine z_putF C hmn hinX4 tyX4 tyX4_ok nmX4 (ci := 6) rfl 0 rfl 0 (by decide) k3 rfl rfl rfl rfl rfl (Nat.le_of_ble_eq_true rfl) dX4_init_6 (ws' := [(h, .inr (6, [.ref x1, .null, .null, .null, .null]))]) rfl ?_
  refine z_aload_n C dX4_init_9 0 rfl ?_
  refine z_aload_n C dX4_init_10 2 rfl ?_
  refine z_putF C hmn hinX4 tyX4 tyX4_ok nmX4 (ci := 6) rfl 0 rfl 1 (by decide) k4 rfl rfl rfl rfl rfl (Nat.le_of_ble_eq_true rfl) dX4_init_11 (ws' := [(h, .inr (6, [.ref x1, .ref x2, .null, .null, .null]))]) rfl ?_
  refine z_aload_n C dX4_init_14 0 rfl ?_
  refine z_aload_n C dX4_init_15 3 rfl ?_
  refine z_putF C hmn hinX4 tyX4 tyX4_ok nmX4 (ci := 6) rfl 0 rfl 2 (by decide) k5 rfl rfl rfl rfl rfl (Nat.le_of_ble_eq_true rfl) dX4_init_16 (ws' := [(h, .inr (6, [.ref x1, .ref x2, .ref x3, .null, .null]))]) rfl ?_
  refine z_aload_n C dX4_init_19 0 rfl ?_
  refine z_aload C dX4_init_20 4 rfl ?_
  refine z_putF C hmn hinX4 tyX4 tyX4_ok nmX4 (ci := 6) rfl 0 rfl 3 (by decide) k6 rfl rfl rfl rfl rfl (Nat.le_of_ble_eq_true rfl) dX4_init_22 (ws' := [(h, .inr (6, [.ref x1, .ref x2, .ref x3, .ref x4, .null]))]) rfl ?_
  refine z_aload_n C dX4_init_25 0 rfl ?_
  refine z_aload C dX4_init_26 5 rfl ?_
  refine z_putF C hmn hinX4 tyX4 tyX4_ok nmX4 (ci := 6) rfl 0 rfl 4 (by decide) k7 rfl rfl rfl rfl rfl (Nat.le_of_ble_eq_true rfl) dX4_init_28 (ws' := [(h, .inr (6, [.ref x1, .ref x2, .ref x3, .ref x4, .ref x5]))]) rfl ?_
  refine z_vret C dX4_init_31 () ?_ ?_ ?_ (by decide) (by decide)
  · exact rfl
  · exact trivial
  · exact rfl
theorem kn_X3_init : zKn yX3_init wsX3_init cX3_init 6 (none) 5 := ⟨⟨_, rfl⟩, by decide +kernel, by decide +kernel, by decide +kernel⟩
set_option maxHeartbeats 1000000 in
set_option maxRecDepth 100000 in
theorem c_X3_init (l : Launch) (D : va_G) (cy : Nat → ClassId) (tw : Nat → Nat) (h x1 x2 x3 x4 x5 : Nat) : zMet l yX3_init wsX3_init { frames := 1, cells := 0, slots := 0, locals := 13 } D (zT cy) tw [(h, .inr (5, [vI 0, .null, .null, .null, .null, .null, vI 0, vI 0, vI 0]))] [.ref h, .ref x1, .ref x2, .ref x3, .ref x4, .ref x5] 0 0 (S := Unit) (fun _ => none) (fun _ => [(h, .inr (5, [vI 0, .ref x1, .ref x2, .ref x3, .ref x4, .ref x5, vI 0, vI 0, vI 0]))]) (fun _ => True) := by
  refine z_met (cc := cX3_init) (nL := 6) (ret := none) (by decide +kernel) rfl (Nat.le_of_ble_eq_true rfl) (lv := [(0, .ref h), (1, .ref x1), (2, .ref x2), (3, .ref x3), (4, .ref x4), (5, .ref x5)]) rfl ?_
  intro V p_ e_ s_ m_ args_ below_ meth_ c_ A_ C hmn0
  have hmn : meth_.name = "<init>" := hmn0
  have hinX3 : ∀ w ∈ u_ws RX3 TX3 9, w ∈ wsX3_init := by decide +kernel
  have k0 : Cond.methodLink RX3 3 objectInit ∈ wsX3_init := List.mem_of_getElem? (i := 1) rfl
  have k1 : Cond.instanceMethod objectInit ∈ wsX3_init := List.mem_of_getElem? (i := 2) rfl
  have k2 : Cond.code objectInit ⟨#[0xb1]⟩ 1 none ∈ wsX3_init := List.mem_of_getElem? (i := 3) rfl
  have k3 : Cond.fieldLink RX3 9 "FaxFilter$Receiver" "settings" "LFaxFilter$Settings;" ∈ wsX3_init := List.mem_of_getElem? (i := 4) rfl
  have k4 : Cond.fieldLink RX3 15 "FaxFilter$Receiver" "picture" "LFaxFilter$Picture;" ∈ wsX3_init := List.mem_of_getElem? (i := 5) rfl
  have k5 : Cond.fieldLink RX3 19 "FaxFilter$Receiver" "whiteTable" "LFaxFilter$Table;" ∈ wsX3_init := List.mem_of_getElem? (i := 6) rfl
  have k6 : Cond.fieldLink RX3 23 "FaxFilter$Receiver" "darkTable" "LFaxFilter$Table;" ∈ wsX3_init := List.mem_of_getElem? (i := 7) rfl
  have k7 : Cond.fieldLink RX3 26 "FaxFilter$Receiver" "in" "LFaxFilter$BitsIn;" ∈ wsX3_init := List.mem_of_getElem? (i := 8) rfl
  refine z_aload_n C dX3_init_0 0 rfl ?_
  refine z_objInit C k0 k1 k2 (Nat.le_of_ble_eq_true rfl) (Nat.le_of_ble_eq_true rfl) dX3_init_1 ?_
  refine z_aload_n C dX3_init_4 0 rfl ?_
  refine z_aload_n C dX3_init_5 1 rfl ?_
  refine z_putF C hmn hinX3 tyX3 tyX3_ok nmX3 (ci := 5) rfl 0 rfl 1 (by decide) k3 rfl rfl rfl rfl rfl (Nat.le_of_ble_eq_true rfl) dX3_init_6 (ws' := [(h, .inr (5, [vI 0, .ref x1, .null, .null, .null, .null, vI 0, vI 0, vI 0]))]) rfl ?_
  refine z_aload_n C dX3_init_9 0 rfl ?_
  refine z_aload_n C dX3_init_10 2 rfl ?_
  refine z_putF C hmn hinX3 tyX3 tyX3_ok nmX3 (ci := 5) rfl 0 rfl 2 (by decide) k4 rfl rfl rfl rfl rfl (Nat.le_of_ble_eq_true rfl) dX3_init_11 (ws' := [(h, .inr (5, [vI 0, .ref x1, .ref x2, .null, .null, .null, vI 0, vI 0, vI 0]))]) rfl ?_
  refine z_aload_n C dX3_init_14 0 rfl ?_
  refine z_aload_n C dX3_init_15 3 rfl ?_
  refine z_putF C hmn hinX3 tyX3 tyX3_ok nmX3 (ci := 5) rfl 0 rfl 3 (by decide) k5 rfl rfl rfl rfl rfl (Nat.le_of_ble_eq_true rfl) dX3_init_16 (ws' := [(h, .inr (5, [vI 0, .ref x1, .ref x2, .ref x3, .null, .null, vI 0, vI 0, vI 0]))]) rfl ?_
  refine z_aload_n C dX3_init_19 0 rfl ?_
  refine z_aload C dX3_init_20 4 rfl ?_
  refine z_putF C hmn hinX3 tyX3 tyX3_ok nmX3 (ci := 5) rfl 0 rfl 4 (by decide) k6 rfl rfl rfl rfl rfl (Nat.le_of_ble_eq_true rfl) dX3_init_22 (ws' := [(h, .inr (5, [vI 0, .ref x1, .ref x2, .ref x3, .ref x4, .null, vI 0, vI 0, vI 0]))]) rfl ?_
  refine z_aload_n C dX3_init_25 0 rfl ?_
  refine z_aload C dX3_init_26 5 rfl ?_
  refine z_putF C hmn hinX3 tyX3 tyX3_ok nmX3 (ci := 5) rfl 0 rfl 5 (by decide) k7 rfl rfl rfl rfl rfl (Nat.le_of_ble_eq_true rfl) dX3_init_28 (ws' := [(h, .inr (5, [vI 0, .ref x1, .ref x2, .ref x3, .ref x4, .ref x5, vI 0, vI 0, vI 0]))]) rfl ?_
  refine z_vret C dX3_init_31 () ?_ ?_ ?_ (by decide) (by decide)
  · exact rfl
  · exact trivial
  · exact rfl
