def apF (bt : Nat → Int) (z : Int) (g : Nat → Int) : Nat → Nat → Int
  | 0 => bt
  | n + 1 => va_up (apF bt z g n) (z + (n : Nat)).toNat (sb (g n))
def adG (w : BitVec 64) (i : Nat) : Int := (w >>> (8 * i)).toInt % 2 ^ 8
theorem encA_bd (kd : Int) (mk al : Bool) {co : Int} (P : Int → Int → Bool) {rw : Int} (h1 : 1 ≤ co ∧ co ≤ 700) (hrw : 0 ≤ rw ∧ rw ≤ 24) : ((encA kd mk al co P rw).length : Int) ≤ 24 * (7 * co + 31) + 92 ∧ (encA kd mk al co P rw).length % 8 = 0 := by
  have h := (encR_bd kd mk al P h1.1 h1.2 (n := rw.toNat) (by omega)).1
  unfold encA
  generalize encR kd mk al co P rw.toNat = L at h ⊢
  have e1 : (en1 kd al L).length ≤ L.length + 7 := by
    rw [en1, List.length_append]; have := alB_len L 0; split
    · omega
    · rw [List.length_nil]; omega
  have e2 : (en2 kd mk al L).length ≤ (en1 kd al L).length + 78 := by
    rw [en2, List.length_append, repM_len]; split <;> (try split) <;> (try split) <;> omega
  have e3 := alB_len (en2 kd mk al L) 0
  have e4 : (alB (en2 kd mk al L) 0).length = (-(((en2 kd mk al L).length : Int) + 0) % 2 ^ 3).toNat := by rw [alB, bitsL_len]
  unfold enB
  rw [List.length_append]
  constructor
  · omega
  · rw [e4]; omega
theorem kn_X7_drop : zKn yX7_drop wsX7_drop cX7_drop 1 (none) 0 := ⟨⟨_, rfl⟩, by decide +kernel, by decide +kernel, by decide +kernel⟩
set_option maxHeartbeats 400000 in
set_option maxRecDepth 100000 in
theorem c_X7_drop (l : Launch) (D : va_G) (cy : Nat → ClassId) (tw : Nat → Nat) (a : Nat → Nat) (kd : Int) (co : Int) (mk : Bool) (al : Bool) (dz : Bool) (rd : Bool) (rw : Int) (wo : Nat → BitVec 64) (sa : Nat → Int) (sz : Int) (ps : Int) (bt : Nat → Int) (ou : Nat → BitVec 64) (bi : Int) (dm : Int) (pl : Bool) (re : Int) (cu : Bool)    : zMet l yX7_drop wsX7_drop { frames := 1, cells := 0, slots := 0, locals := 20 } D (zT cy) tw (CW cy a kd co mk al dz rd rw wo sa sz ps bt ou bi dm pl re cu) [.ref (a 0)] 0 0 (S := Unit) (fun _ => none) (fun _ => CW cy a kd co mk al dz rd rw wo sa 0 ps bt ou bi dm pl re cu) (fun _ => True) := by
  refine z_met (cc := cX7_drop) (nL := 1) (ret := none) (by decide +kernel) rfl (Nat.le_of_ble_eq_true rfl) (lv := [(0, .ref (a 0))]) rfl ?_
  intro V p_ e_ s_ m_ args_ below_ meth_ c_ A_ C hmn
  have hinX7 : ∀ w ∈ u_ws RX7 TX7 8, w ∈ wsX7_drop := by decide +kernel
  have k0 : Cond.fieldLink RX7 56 "FaxFilter" "collected" "LFaxFilter$BitsIn;" ∈ wsX7_drop := List.mem_of_getElem? (i := 1) rfl
  refine z_aload_n C dX7_drop_0 0 rfl ?_
  refine z_get C hinX7 (ci := 9) rfl 0 rfl 4 (by decide) k0 rfl (v := .ref (a 5)) rfl dX7_drop_1 ?_
  refine z_callV C (As := []) (st := []) (c_X0_empty l D cy tw a kd co mk al dz rd rw wo sa sz ps bt ou bi dm pl re cu   ) gX7_drop_X0_empty kn_X0_empty rfl ⟨rfl, rfl, Nat.le_of_ble_eq_true rfl, Nat.le_of_ble_eq_true rfl⟩ 5 rfl (ci := 2) rfl rfl (Nat.le_of_ble_eq_true rfl) ⟨Nat.le_of_ble_eq_true rfl, Nat.le_of_ble_eq_true rfl⟩ dX7_drop_4 (fun u1 hu1 => ?_)
  clear hu1; clear u1
  show V 0 0 (CW cy a kd co mk al dz rd rw wo sa 0 ps bt ou bi dm pl re cu) [(0, .ref (a 0))] [] 7
  refine z_vret C dX7_drop_7 () ?_ ?_ ?_ (by decide) (by decide)
  · exact rfl
  · exact trivial
  · exact rfl
theorem kn_X7_clear : zKn yX7_clear wsX7_clear cX7_clear 1 (none) 0 := ⟨⟨_, rfl⟩, by decide +kernel, by decide +kernel, by decide +kernel⟩
set_option maxHeartbeats 400000 in
set_option maxRecDepth 100000 in
theorem c_X7_clear (l : Launch) (D : va_G) (cy : Nat → ClassId) (tw : Nat → Nat) (a : Nat → Nat) (kd : Int) (co : Int) (mk : Bool) (al : Bool) (dz : Bool) (rd : Bool) (rw : Int) (wo : Nat → BitVec 64) (sa : Nat → Int) (sz : Int) (ps : Int) (bt : Nat → Int) (ou : Nat → BitVec 64) (bi : Int) (dm : Int) (pl : Bool) (re : Int) (cu : Bool)    : zMet l yX7_clear wsX7_clear { frames := 0, cells := 0, slots := 0, locals := 0 } D (zT cy) tw (CW cy a kd co mk al dz rd rw wo sa sz ps bt ou bi dm pl re cu) [.ref (a 0)] 0 0 (S := Unit) (fun _ => none) (fun _ => CW cy a kd co mk al dz rd 0 wo sa sz ps bt ou bi dm pl re cu) (fun _ => True) := by
  refine z_met (cc := cX7_clear) (nL := 1) (ret := none) (by decide +kernel) rfl (Nat.le_of_ble_eq_true rfl) (lv := [(0, .ref (a 0))]) rfl ?_
  intro V p_ e_ s_ m_ args_ below_ meth_ c_ A_ C hmn
  have hinX2 : ∀ w ∈ u_ws RX2 TX2 5, w ∈ wsX7_clear := by decide +kernel
  have hinX7 : ∀ w ∈ u_ws RX7 TX7 8, w ∈ wsX7_clear := by decide +kernel
  have k0 : Cond.fieldLink RX7 30 "FaxFilter" "picture" "LFaxFilter$Picture;" ∈ wsX7_clear := List.mem_of_getElem? (i := 1) rfl
  have k1 : Cond.fieldLink RX7 92 "FaxFilter$Picture" "rows" "I" ∈ wsX7_clear := List.mem_of_getElem? (i := 2) rfl
  refine z_aload_n C dX7_clear_0 0 rfl ?_
  refine z_get C hinX7 (ci := 9) rfl 0 rfl 1 (by decide) k0 rfl (v := .ref (a 2)) rfl dX7_clear_1 ?_
  refine z_iconst C (z := 0) dX7_clear_4 ?_
  refine z_put C hinX2 tyX2 tyX2_ok nmX2 (ci := 4) rfl 2 rfl 1 (by decide) k1 rfl rfl rfl rfl (Nat.le_of_ble_eq_true rfl) dX7_clear_5 (ws' := CW cy a kd co mk al dz rd 0 wo sa sz ps bt ou bi dm pl re cu) rfl ?_
  refine z_vret C dX7_clear_8 () ?_ ?_ ?_ (by decide) (by decide)
  · exact rfl
  · exact trivial
  · exact rfl
theorem kn_X7_add : zKn yX7_add wsX7_add cX7_add 5 (some .boolean) 2 := ⟨⟨_, rfl⟩, by decide +kernel, by decide +kernel, by decide +kernel⟩
set_option maxHeartbeats 400000 in
set_option maxRecDepth 100000 in
theorem c_X7_add (l : Launch) (D : va_G) (cy : Nat → ClassId) (tw : Nat → Nat) (a : Nat → Nat) (kd : Int) (co : Int) (mk : Bool) (al : Bool) (dz : Bool) (rd : Bool) (rw : Int) (wo : Nat → BitVec 64) (sa : Nat → Int) (sz : Int) (ps : Int) (bt : Nat → Int) (ou : Nat → BitVec 64) (bi : Int) (dm : Int) (pl : Bool) (re : Int) (cu : Bool) (y : BitVec 64) (z : Int)  (hs : 0 ≤ sz ∧ sz ≤ 400) (hz : -2147483648 ≤ z ∧ z ≤ 2147483647) : zMet l yX7_add wsX7_add { frames := 1, cells := 0, slots := 0, locals := 21 } D (zT cy) tw (CW cy a kd co mk al dz rd rw wo sa sz ps bt ou bi dm pl re cu) [.ref (a 0), vJ y, vI z] 0 0 (S := Unit) (fun _ => some (vI (b2i (decide (1 ≤ z ∧ z ≤ 8 ∧ sz + z ≤ 400))))) (fun _ => CW cy a kd co mk al dz rd rw wo sa (if decide (1 ≤ z ∧ z ≤ 8 ∧ sz + z ≤ 400) = true then sz + z else sz) ps (if decide (1 ≤ z ∧ z ≤ 8 ∧ sz + z ≤ 400) = true then apF bt sz (adG y) z.toNat else bt) ou bi dm pl re cu) (fun _ => True) := by
  refine z_met (cc := cX7_add) (nL := 5) (ret := some .boolean) (by decide +kernel) rfl (Nat.le_of_ble_eq_true rfl) (lv := [(0, .ref (a 0)), (1, vJ y), (3, vI z)]) rfl ?_
  intro V p_ e_ s_ m_ args_ below_ meth_ c_ A_ C hmn
  have hinX0 : ∀ w ∈ u_ws RX0 TX0 3, w ∈ wsX7_add := by decide +kernel
  have hinX7 : ∀ w ∈ u_ws RX7 TX7 8, w ∈ wsX7_add := by decide +kernel
  have k0 : Cond.fieldLink RX7 56 "FaxFilter" "collected" "LFaxFilter$BitsIn;" ∈ wsX7_add := List.mem_of_getElem? (i := 1) rfl
  have k1 : Cond.fieldLink RX7 95 "FaxFilter$BitsIn" "size" "I" ∈ wsX7_add := List.mem_of_getElem? (i := 2) rfl
  refine z_iload_n C dX7_add_0 2 rfl ?_
  refine z_iconst C (z := 1) dX7_add_1 ?_
  refine z_icmp_lt C (by omega) (by decide) (tgt := 26) dX7_add_2 (by decide) (fun hc_1 => ?_) (fun hc_1 => ?_)
  · refine z_iconst C (z := 0) dX7_add_26 ?_
    refine z_zret (b := false) C dX7_add_27 () ?_ ?_ ?_ (by decide) (by decide)
    · rw [decide_eq_false (by omega)]
    · exact trivial
    · rw [decide_eq_false (by omega)]; rfl
  · refine z_iload_n C dX7_add_5 2 rfl ?_
    refine z_bipush C (z := 8) dX7_add_6 (by decide) ?_
    refine z_icmp_gt C (by omega) (by decide) (tgt := 26) dX7_add_8 (by decide) (fun hc_2 => ?_) (fun hc_2 => ?_)
    · refine z_iconst C (z := 0) dX7_add_26 ?_
      refine z_zret (b := false) C dX7_add_27 () ?_ ?_ ?_ (by decide) (by decide)
      · rw [decide_eq_false (by omega)]
      · exact trivial
      · rw [decide_eq_false (by omega)]; rfl
    · refine z_aload_n C dX7_add_11 0 rfl ?_
      refine z_get C hinX7 (ci := 9) rfl 0 rfl 4 (by decide) k0 rfl (v := .ref (a 5)) rfl dX7_add_12 ?_
      refine z_get C hinX0 (ci := 2) rfl 5 rfl 0 (by decide) k1 rfl (v := vI sz) rfl dX7_add_15 ?_
      refine z_iload_n C dX7_add_18 2 rfl ?_
      refine z_iadd C dX7_add_19 ?_
      refine z_sipush C (z := 400) dX7_add_20 (by decide) ?_
      refine z_icmp_le C (by omega) (by decide) (tgt := 28) dX7_add_23 (by decide) (fun hc_3 => ?_) (fun hc_3 => ?_)
      · refine z_iconst C (z := 0) dX7_add_28 ?_
        refine z_istore C (lv' := [(4, vI 0), (0, .ref (a 0)), (1, vJ y), (3, vI z)]) dX7_add_29 (by decide) rfl ?_
        have J31 : ∀ (f : Nat) (i : Int) (b2 : Nat → Int) (q : Int), (0 ≤ i ∧ i ≤ z) → (b2 = apF bt sz (adG y) i.toNat) → (q = sz + i) → (z - i).toNat < f → V 0 0 (CW cy a kd co mk al dz rd rw wo sa q ps b2 ou bi dm pl re cu) [(0, .ref (a 0)), (1, vJ y), (3, vI z), (4, vI i)] [] 31 := by
          intro f
          induction f with
          | zero => intro i b2 q i0 i1 i2 hf; exact absurd hf (Nat.not_lt_zero _)
          | succ f ih =>
            intro i b2 q i0 i1 i2 hf
            refine z_iload C dX7_add_31 3 rfl ?_
            refine z_iload_n C dX7_add_33 2 rfl ?_
            refine z_icmp_ge C (by omega) (by omega) (tgt := 62) dX7_add_34 (by decide) (fun hc_4 => ?_) (fun hc_4 => ?_)
            · refine z_iconst C (z := 1) dX7_add_62 ?_
              refine z_zret (b := true) C dX7_add_63 () ?_ ?_ ?_ (by decide) (by decide)
              · rw [decide_eq_true (by omega)]
              · exact trivial
              · rw [decide_eq_true (by omega), if_pos rfl, if_pos rfl, i1, show i = z by omega, show q = sz + z by omega]
            · refine z_aload_n C dX7_add_37 0 rfl ?_
              refine z_get C hinX7 (ci := 9) rfl 0 rfl 4 (by decide) k0 rfl (v := .ref (a 5)) rfl dX7_add_38 ?_
              refine z_lload_n C dX7_add_41 1 rfl ?_
              refine z_bipush C (z := 8) dX7_add_42 (by decide) ?_
              refine z_iload C dX7_add_44 3 rfl ?_
              refine z_imul C dX7_add_46 ?_
              refine z_lushr C (y := (8 * i)) (((8 * i) % 64).toNat) (by omega) (rfl) dX7_add_47 ?_
              refine z_l2i C dX7_add_48 ?_
              refine z_sipush C (z := 255) dX7_add_49 (by decide) ?_
              refine z_iand C 8 dX7_add_52 (by decide) (by decide) ?_
              refine z_callV C (As := [vI (((y >>> (((8 * i) % 64).toNat) : BitVec 64).toInt) % 2 ^ 8)]) (st := []) (c_X0_append l D cy tw a kd co mk al dz rd rw wo sa q ps b2 ou bi dm pl re cu (((y >>> (((8 * i) % 64).toNat) : BitVec 64).toInt) % 2 ^ 8)  (by omega)) gX7_add_X0_append kn_X0_append rfl ⟨rfl, rfl, Nat.le_of_ble_eq_true rfl, Nat.le_of_ble_eq_true rfl⟩ 5 rfl (ci := 2) rfl rfl (Nat.le_of_ble_eq_true rfl) ⟨Nat.le_of_ble_eq_true rfl, Nat.le_of_ble_eq_true rfl⟩ dX7_add_53 (fun u5 hu5 => ?_)
              clear hu5; clear u5
              show V 0 0 (CW cy a kd co mk al dz rd rw wo sa (q + 1) ps (va_up b2 (q : Int).toNat (sb (((y >>> (((8 * i) % 64).toNat) : BitVec 64).toInt) % 2 ^ 8))) ou bi dm pl re cu) [(0, .ref (a 0)), (1, vJ y), (3, vI z), (4, vI i)] [] 56
              refine z_iinc C (lv' := [(4, vI (i + 1)), (0, .ref (a 0)), (1, vJ y), (3, vI z)]) dX7_add_56 3 rfl (by decide) rfl ?_
              refine z_goto C (tgt := 31) dX7_add_59 (by decide) ?_
              refine z_lsub C [1, 2, 3, 0] rfl ?_
              exact ih (i + 1) (va_up b2 (q : Int).toNat (sb (((y >>> (((8 * i) % 64).toNat) : BitVec 64).toInt) % 2 ^ 8))) (q + 1) (by omega) (by rw [show (i + 1).toNat = i.toNat + 1 by omega, apF, ← i1, ← show q = sz + ((i.toNat : Nat) : Int) by omega, adG, show (8 * i % 64).toNat = 8 * i.toNat by omega]) (by omega) (by omega)
        refine z_lsub C [1, 2, 3, 0] rfl ?_
        exact J31 _ 0 bt sz (by omega) (rfl) (by omega) (Nat.lt_succ_self _)
      · refine z_iconst C (z := 0) dX7_add_26 ?_
        refine z_zret (b := false) C dX7_add_27 () ?_ ?_ ?_ (by decide) (by decide)
        · rw [decide_eq_false (by omega)]
        · exact trivial
        · rw [decide_eq_false (by omega)]; rfl
theorem kn_X7_take : zKn yX7_take wsX7_take cX7_take 3 (some .int) 0 := ⟨⟨_, rfl⟩, by decide +kernel, by decide +kernel, by decide +kernel⟩
set_option maxHeartbeats 400000 in
set_option maxRecDepth 100000 in
theorem c_X7_take (l : Launch) (D : va_G) (cy : Nat → ClassId) (tw : Nat → Nat) (a : Nat → Nat) (kd : Int) (co : Int) (mk : Bool) (al : Bool) (dz : Bool) (rd : Bool) (rw : Int) (wo : Nat → BitVec 64) (sa : Nat → Int) (sz : Int) (ps : Int) (bt : Nat → Int) (ou : Nat → BitVec 64) (bi : Int) (dm : Int) (pl : Bool) (re : Int) (cu : Bool)   (hco : 1 ≤ co ∧ co ≤ 700) (hbi : 0 ≤ bi ∧ bi ≤ 100000) : zMet l yX7_take wsX7_take { frames := 1, cells := 0, slots := 0, locals := 22 } D (zT cy) tw (CW cy a kd co mk al dz rd rw wo sa sz ps bt ou bi dm pl re cu) [.ref (a 0)] 0 0 (S := Unit) (fun _ => some (vI (mn 400 ((bi + 7) / 8)))) (fun _ => CW cy a kd co mk al dz rd rw wo sa (mn 400 ((bi + 7) / 8)) ps (apF bt 0 (fun i => obC ou co (i : Nat)) (mn 400 ((bi + 7) / 8)).toNat) ou bi dm pl re cu) (fun _ => True) := by
  refine z_met (cc := cX7_take) (nL := 3) (ret := some .int) (by decide +kernel) rfl (Nat.le_of_ble_eq_true rfl) (lv := [(0, .ref (a 0))]) rfl ?_
  intro V p_ e_ s_ m_ args_ below_ meth_ c_ A_ C hmn
  have hinX7 : ∀ w ∈ u_ws RX7 TX7 8, w ∈ wsX7_take := by decide +kernel
  have k0 : Cond.fieldLink RX7 67 "FaxFilter" "written" "LFaxFilter$BitsOut;" ∈ wsX7_take := List.mem_of_getElem? (i := 1) rfl
  have k1 : Cond.methodLink RX7 11 Lib.Math.min.name ∈ wsX7_take := List.mem_of_getElem? (i := 2) rfl
  have k2 : Cond.static Lib.Math.min.name ∈ wsX7_take := List.mem_of_getElem? (i := 3) rfl
  have k3 : Cond.initialized "java/lang/Math" ∈ wsX7_take := List.mem_of_getElem? (i := 4) rfl
  have k4 : Cond.code Lib.Math.min.name Lib.Math.min.code 2 (some .int) ∈ wsX7_take := List.mem_of_getElem? (i := 5) rfl
  have k5 : Cond.fieldLink RX7 56 "FaxFilter" "collected" "LFaxFilter$BitsIn;" ∈ wsX7_take := List.mem_of_getElem? (i := 6) rfl
  have hm := mn_rg (a := 400) (b := (bi + 7) / 8) (x := 0) (by omega) (by omega)
  have hm4 : mn 400 ((bi + 7) / 8) ≤ 400 := by unfold mn; split <;> omega
  have hmc : mn 400 ((bi + 7) / 8) = (if (bi + 7) / 8 < 400 then (bi + 7) / 8 else 400) := rfl
  refine z_sipush C (z := 400) dX7_take_0 (by decide) ?_
  refine z_aload_n C dX7_take_3 0 rfl ?_
  refine z_get C hinX7 (ci := 9) rfl 0 rfl 5 (by decide) k0 rfl (v := .ref (a 6)) rfl dX7_take_4 ?_
  refine z_callV C (As := []) (st := [vI 400]) (c_X1_size l D cy tw a kd co mk al dz rd rw wo sa sz ps bt ou bi dm pl re cu   (by omega)) gX7_take_X1_size kn_X1_size rfl ⟨rfl, rfl, Nat.le_of_ble_eq_true rfl, Nat.le_of_ble_eq_true rfl⟩ 6 rfl (ci := 3) rfl rfl (Nat.le_of_ble_eq_true rfl) ⟨Nat.le_of_ble_eq_true rfl, Nat.le_of_ble_eq_true rfl⟩ dX7_take_7 (fun u1 hu1 => ?_)
  clear hu1; clear u1
  show V 0 0 (CW cy a kd co mk al dz rd rw wo sa sz ps bt ou bi dm pl re cu) [(0, .ref (a 0))] [vI ((bi + 7) / 8), vI 400] 10
  refine z_mmin C k1 k2 k3 k4 (Nat.le_of_ble_eq_true rfl) (Nat.le_of_ble_eq_true rfl) (Nat.le_of_ble_eq_true rfl) (Nat.le_of_ble_eq_true rfl) (x := 400) (y := ((bi + 7) / 8)) (by decide) (by omega) dX7_take_10 ?_
  refine z_istore_n C (lv' := [(1, vI (if (bi + 7) / 8 < 400 then (bi + 7) / 8 else 400)), (0, .ref (a 0))]) dX7_take_13 rfl (by decide) rfl ?_
  refine z_aload_n C dX7_take_14 1 rfl ?_
  refine z_get C hinX7 (ci := 9) rfl 0 rfl 4 (by decide) k5 rfl (v := .ref (a 5)) rfl dX7_take_15 ?_
  refine z_callV C (As := []) (st := []) (c_X0_empty l D cy tw a kd co mk al dz rd rw wo sa sz ps bt ou bi dm pl re cu   ) gX7_take_X0_empty kn_X0_empty rfl ⟨rfl, rfl, Nat.le_of_ble_eq_true rfl, Nat.le_of_ble_eq_true rfl⟩ 5 rfl (ci := 2) rfl rfl (Nat.le_of_ble_eq_true rfl) ⟨Nat.le_of_ble_eq_true rfl, Nat.le_of_ble_eq_true rfl⟩ dX7_take_18 (fun u2 hu2 => ?_)
  clear hu2; clear u2
  show V 0 0 (CW cy a kd co mk al dz rd rw wo sa 0 ps bt ou bi dm pl re cu) [(1, vI (if (bi + 7) / 8 < 400 then (bi + 7) / 8 else 400)), (0, .ref (a 0))] [] 21
  refine z_iconst C (z := 0) dX7_take_21 ?_
  refine z_istore_n C (lv' := [(2, vI 0), (1, vI (if (bi + 7) / 8 < 400 then (bi + 7) / 8 else 400)), (0, .ref (a 0))]) dX7_take_22 rfl (by decide) rfl ?_
  have J23 : ∀ (f : Nat) (i : Int) (b2 : Nat → Int), (0 ≤ i ∧ i ≤ mn 400 ((bi + 7) / 8)) → (b2 = apF bt 0 (fun i => obC ou co (i : Nat)) i.toNat) → (mn 400 ((bi + 7) / 8) - i).toNat < f → V 0 0 (CW cy a kd co mk al dz rd rw wo sa i ps b2 ou bi dm pl re cu) [(0, .ref (a 0)), (1, vI (if (bi + 7) / 8 < 400 then (bi + 7) / 8 else 400)), (2, vI i)] [] 23 := by
    intro f
    induction f with
    | zero => intro i b2 i0 i1 hf; exact absurd hf (Nat.not_lt_zero _)
    | succ f ih =>
      intro i b2 i0 i1 hf
      refine z_iload_n C dX7_take_23 2 rfl ?_
      refine z_iload_n C dX7_take_24 1 rfl ?_
      refine z_icmp_ge C (by omega) (by omega) (tgt := 49) dX7_take_25 (by decide) (fun hc_3 => ?_) (fun hc_3 => ?_)
      · refine z_iload_n C dX7_take_49 1 rfl ?_
        refine z_iret (x := (if (bi + 7) / 8 < 400 then (bi + 7) / 8 else 400)) C dX7_take_50 () ?_ ?_ ?_ (by decide) (by decide)
        · exact rfl
        · exact trivial
        · rw [i1, show i = mn 400 ((bi + 7) / 8) by omega]
      · refine z_aload_n C dX7_take_28 0 rfl ?_
        refine z_get C hinX7 (ci := 9) rfl 0 rfl 4 (by decide) k5 rfl (v := .ref (a 5)) rfl dX7_take_29 ?_
        refine z_aload_n C dX7_take_32 0 rfl ?_
        refine z_get C hinX7 (ci := 9) rfl 0 rfl 5 (by decide) k0 rfl (v := .ref (a 6)) rfl dX7_take_33 ?_
        refine z_iload_n C dX7_take_36 2 rfl ?_
        refine z_callV C (As := [vI i]) (st := [.ref (a 5)]) (c_X1_byteAt l D cy tw a kd co mk al dz rd rw wo sa i ps b2 ou bi dm pl re cu i  (by omega) (by omega)) gX7_take_X1_byteAt kn_X1_byteAt rfl ⟨rfl, rfl, Nat.le_of_ble_eq_true rfl, Nat.le_of_ble_eq_true rfl⟩ 6 rfl (ci := 3) rfl rfl (Nat.le_of_ble_eq_true rfl) ⟨Nat.le_of_ble_eq_true rfl, Nat.le_of_ble_eq_true rfl⟩ dX7_take_37 (fun u4 hu4 => ?_)
        clear hu4; clear u4
        show V 0 0 (CW cy a kd co mk al dz rd rw wo sa i ps b2 ou bi dm pl re cu) [(0, .ref (a 0)), (1, vI (if (bi + 7) / 8 < 400 then (bi + 7) / 8 else 400)), (2, vI i)] [vI (obC ou co i), .ref (a 5)] 40
        refine z_callV C (As := [vI (obC ou co i)]) (st := []) (c_X0_append l D cy tw a kd co mk al dz rd rw wo sa i ps b2 ou bi dm pl re cu (obC ou co i)  (by omega)) gX7_take_X0_append kn_X0_append rfl ⟨rfl, rfl, Nat.le_of_ble_eq_true rfl, Nat.le_of_ble_eq_true rfl⟩ 5 rfl (ci := 2) rfl rfl (Nat.le_of_ble_eq_true rfl) ⟨Nat.le_of_ble_eq_true rfl, Nat.le_of_ble_eq_true rfl⟩ dX7_take_40 (fun u5 hu5 => ?_)
        clear hu5; clear u5
        show V 0 0 (CW cy a kd co mk al dz rd rw wo sa (i + 1) ps (va_up b2 (i : Int).toNat (sb (obC ou co i))) ou bi dm pl re cu) [(0, .ref (a 0)), (1, vI (if (bi + 7) / 8 < 400 then (bi + 7) / 8 else 400)), (2, vI i)] [] 43
        refine z_iinc C (lv' := [(2, vI (i + 1)), (0, .ref (a 0)), (1, vI (if (bi + 7) / 8 < 400 then (bi + 7) / 8 else 400))]) dX7_take_43 2 rfl (by decide) rfl ?_
        refine z_goto C (tgt := 23) dX7_take_46 (by decide) ?_
        refine z_lsub C [1, 2, 0] rfl ?_
        exact ih (i + 1) (va_up b2 (i : Int).toNat (sb (obC ou co i))) (by omega) (by rw [show (i + 1).toNat = i.toNat + 1 by omega, apF, ← i1, show (0 + ((i.toNat : Nat) : Int)).toNat = (i : Int).toNat by omega, show ((i.toNat : Nat) : Int) = i by omega]) (by omega)
  refine z_lsub C [2, 1, 0] rfl ?_
  exact J23 _ 0 bt (by omega) (rfl) (Nat.lt_succ_self _)
theorem kn_X7_write : zKn yX7_write wsX7_write cX7_write 1 (some .int) 0 := ⟨⟨_, rfl⟩, by decide +kernel, by decide +kernel, by decide +kernel⟩
set_option maxHeartbeats 400000 in
set_option maxRecDepth 100000 in
theorem c_X7_write (l : Launch) (D : va_G) (cy : Nat → ClassId) (tw : Nat → Nat) (a : Nat → Nat) (kd : Int) (co : Int) (mk : Bool) (al : Bool) (dz : Bool) (rd : Bool) (rw : Int) (wo : Nat → BitVec 64) (sa : Nat → Int) (sz : Int) (ps : Int) (bt : Nat → Int) (ou : Nat → BitVec 64) (bi : Int) (dm : Int) (pl : Bool) (re : Int) (cu : Bool)   (hco : 1 ≤ co ∧ co ≤ 700) (hk : 0 ≤ kd ∧ kd ≤ 2) (hrw : 0 ≤ rw ∧ rw ≤ 24) : zMet l yX7_write wsX7_write { frames := 6, cells := 0, slots := 0, locals := 149 } D (zT cy) tw (CW cy a kd co mk al dz rd rw wo sa sz ps bt ou bi dm pl re cu) [.ref (a 0)] 0 0 (S := Nat → BitVec 64) (fun _ => some (vI (((((encA kd mk al co (px wo co) rw).length : Nat) : Int) + 7) / 8))) (fun u => CW cy a kd co mk al dz rd rw wo sa sz ps bt u (((encA kd mk al co (px wo co) rw).length : Nat) : Int) dm pl re cu) (fun u => OR u (encA kd mk al co (px wo co) rw)) := by
  refine z_met (cc := cX7_write) (nL := 1) (ret := some .int) (by decide +kernel) rfl (Nat.le_of_ble_eq_true rfl) (lv := [(0, .ref (a 0))]) rfl ?_
  intro V p_ e_ s_ m_ args_ below_ meth_ c_ A_ C hmn
  have hinX7 : ∀ w ∈ u_ws RX7 TX7 8, w ∈ wsX7_write := by decide +kernel
  have k0 : Cond.fieldLink RX7 76 "FaxFilter" "sender" "LFaxFilter$Sender;" ∈ wsX7_write := List.mem_of_getElem? (i := 1) rfl
  have k1 : Cond.fieldLink RX7 67 "FaxFilter" "written" "LFaxFilter$BitsOut;" ∈ wsX7_write := List.mem_of_getElem? (i := 2) rfl
  have hbd := encA_bd kd mk al (px wo co) hco hrw
  refine z_aload_n C dX7_write_0 0 rfl ?_
  refine z_get C hinX7 (ci := 9) rfl 0 rfl 6 (by decide) k0 rfl (v := .ref (a 7)) rfl dX7_write_1 ?_
  refine z_callV C (As := []) (st := []) (c_X4_sendAll l D cy tw a kd co mk al dz rd rw wo sa sz ps bt ou bi dm pl re cu   (by omega) (by omega) (by omega)) gX7_write_X4_sendAll kn_X4_sendAll rfl ⟨rfl, rfl, Nat.le_of_ble_eq_true rfl, Nat.le_of_ble_eq_true rfl⟩ 7 rfl (ci := 6) rfl rfl (Nat.le_of_ble_eq_true rfl) ⟨Nat.le_of_ble_eq_true rfl, Nat.le_of_ble_eq_true rfl⟩ dX7_write_4 (fun u1 hu1 => ?_)
  show V 0 0 (CW cy a kd co mk al dz rd rw wo sa sz ps bt u1 (((encA kd mk al co (px wo co) rw).length : Nat) : Int) dm pl re cu) [(0, .ref (a 0))] [] 7
  refine z_aload_n C dX7_write_7 0 rfl ?_
  refine z_get C hinX7 (ci := 9) rfl 0 rfl 5 (by decide) k1 rfl (v := .ref (a 6)) rfl dX7_write_8 ?_
  refine z_callV C (As := []) (st := []) (c_X1_size l D cy tw a kd co mk al dz rd rw wo sa sz ps bt u1 (((encA kd mk al co (px wo co) rw).length : Nat) : Int) dm pl re cu   (by omega)) gX7_write_X1_size kn_X1_size rfl ⟨rfl, rfl, Nat.le_of_ble_eq_true rfl, Nat.le_of_ble_eq_true rfl⟩ 6 rfl (ci := 3) rfl rfl (Nat.le_of_ble_eq_true rfl) ⟨Nat.le_of_ble_eq_true rfl, Nat.le_of_ble_eq_true rfl⟩ dX7_write_11 (fun u2 hu2 => ?_)
  clear hu2; clear u2
  show V 0 0 (CW cy a kd co mk al dz rd rw wo sa sz ps bt u1 (((encA kd mk al co (px wo co) rw).length : Nat) : Int) dm pl re cu) [(0, .ref (a 0))] [vI (((((encA kd mk al co (px wo co) rw).length : Nat) : Int) + 7) / 8)] 14
  refine z_iret (x := (((((encA kd mk al co (px wo co) rw).length : Nat) : Int) + 7) / 8)) C dX7_write_14 u1 ?_ ?_ ?_ (by decide) (by decide)
  · exact rfl
  · exact hu1
  · exact rfl
