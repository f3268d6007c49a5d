def idW (cy : Nat → ClassId) (b : Nat → Nat) (W0 : va_W) : va_W := W0
def MWK (cy : Nat → ClassId) (b : Nat → Nat) (kd co : Int) (gc gb : Nat → Int) : va_W := [(b 0, .inr (10, [vI 0, vI kd, vI co, .ref (b 1), .ref (b 2), .ref (b 3), vI 0, .ref (b 4), .ref (b 5), vI 0, .ref (b 6), vI 0, .ref (b 7), vI 0, vI 0, vI 0, vI 0, vI 0, vI 0, vI 0, vI 0, vI 0])), (b 1, aI (cy 1) 1408 gc), (b 2, aI (cy 1) 1408 gb), (b 3, aZ (cy 3) 4 (fun _ => false)), (b 4, aZ (cy 3) 16800 (fun _ => false)), (b 5, aI (cy 1) 24 (fun _ => 0)), (b 6, aI (cy 1) 400 (fun _ => 0)), (b 7, aZ (cy 3) 140000 (fun _ => false))]
set_option maxHeartbeats 400000 in
set_option maxRecDepth 100000 in
theorem c_X8_isRunG (l : Launch) (D : va_G) (cy : Nat → ClassId) (tw : Nat → Nat) (b : Nat → Nat) (W0 : va_W) (z : Int)  (hz : -2147483648 ≤ z ∧ z ≤ 2147483647) : zMet l yX8_isRun wsX8_isRun { frames := 0, cells := 0, slots := 0, locals := 0 } D (zT cy) tw (idW cy b W0) [vI z] 0 0 (S := Unit) (fun _ => some (vI (b2i (isR z)))) (fun _ => idW cy b W0) (fun _ => True) := by
  refine z_met (cc := cX8_isRun) (nL := 1) (ret := some .boolean) (by decide +kernel) rfl (Nat.le_of_ble_eq_true rfl) (lv := [(0, vI z)]) rfl ?_
  intro V p_ e_ s_ m_ args_ below_ meth_ c_ A_ C hmn
  refine z_iload_n C dX8_isRun_0 0 rfl ?_
  refine z_if_lt C (by omega) (tgt := 10) dX8_isRun_1 (by decide) (fun hc_1 => ?_) (fun hc_1 => ?_)
  · refine z_iload_n C dX8_isRun_10 0 rfl ?_
    refine z_if_le C (by omega) (tgt := 32) dX8_isRun_11 (by decide) (fun hc_2 => ?_) (fun hc_2 => ?_)
    · refine z_iconst C (z := 0) dX8_isRun_32 ?_
      refine z_zret (b := false) C dX8_isRun_33 () ?_ ?_ ?_ (by decide) (by decide)
      · rw [isR, decide_eq_false (by omega)]
      · exact trivial
      · exact rfl
    · refine z_iload_n C dX8_isRun_14 0 rfl ?_
      refine z_sipush C (z := 640) dX8_isRun_15 (by decide) ?_
      refine z_icmp_gt C (by omega) (by decide) (tgt := 32) dX8_isRun_18 (by decide) (fun hc_3 => ?_) (fun hc_3 => ?_)
      · refine z_iconst C (z := 0) dX8_isRun_32 ?_
        refine z_zret (b := false) C dX8_isRun_33 () ?_ ?_ ?_ (by decide) (by decide)
        · rw [isR, decide_eq_false (by omega)]
        · exact trivial
        · exact rfl
      · refine z_iload_n C dX8_isRun_21 0 rfl ?_
        refine z_bipush C (z := 64) dX8_isRun_22 (by decide) ?_
        refine z_irem C dX8_isRun_24 (by omega) (by decide) ?_
        refine z_if_ne C (by omega) (tgt := 32) dX8_isRun_25 (by decide) (fun hc_4 => ?_) (fun hc_4 => ?_)
        · refine z_iconst C (z := 0) dX8_isRun_32 ?_
          refine z_zret (b := false) C dX8_isRun_33 () ?_ ?_ ?_ (by decide) (by decide)
          · rw [isR, decide_eq_false (by omega)]
          · exact trivial
          · exact rfl
        · refine z_iconst C (z := 1) dX8_isRun_28 ?_
          refine z_goto C (tgt := 33) dX8_isRun_29 (by decide) ?_
          refine z_zret (b := true) C dX8_isRun_33 () ?_ ?_ ?_ (by decide) (by decide)
          · rw [isR, decide_eq_true (by omega)]
          · exact trivial
          · exact rfl
  · refine z_iload_n C dX8_isRun_4 0 rfl ?_
    refine z_bipush C (z := 64) dX8_isRun_5 (by decide) ?_
    refine z_icmp_lt C (by omega) (by decide) (tgt := 28) dX8_isRun_7 (by decide) (fun hc_5 => ?_) (fun hc_5 => ?_)
    · refine z_iconst C (z := 1) dX8_isRun_28 ?_
      refine z_goto C (tgt := 33) dX8_isRun_29 (by decide) ?_
      refine z_zret (b := true) C dX8_isRun_33 () ?_ ?_ ?_ (by decide) (by decide)
      · rw [isR, decide_eq_true (by omega)]
      · exact trivial
      · exact rfl
    · refine z_iload_n C dX8_isRun_10 0 rfl ?_
      refine z_if_le C (by omega) (tgt := 32) dX8_isRun_11 (by decide) (fun hc_6 => ?_) (fun hc_6 => ?_)
      · refine z_iconst C (z := 0) dX8_isRun_32 ?_
        refine z_zret (b := false) C dX8_isRun_33 () ?_ ?_ ?_ (by decide) (by decide)
        · rw [isR, decide_eq_false (by omega)]
        · exact trivial
        · exact rfl
      · refine z_iload_n C dX8_isRun_14 0 rfl ?_
        refine z_sipush C (z := 640) dX8_isRun_15 (by decide) ?_
        refine z_icmp_gt C (by omega) (by decide) (tgt := 32) dX8_isRun_18 (by decide) (fun hc_7 => ?_) (fun hc_7 => ?_)
        · refine z_iconst C (z := 0) dX8_isRun_32 ?_
          refine z_zret (b := false) C dX8_isRun_33 () ?_ ?_ ?_ (by decide) (by decide)
          · rw [isR, decide_eq_false (by omega)]
          · exact trivial
          · exact rfl
        · refine z_iload_n C dX8_isRun_21 0 rfl ?_
          refine z_bipush C (z := 64) dX8_isRun_22 (by decide) ?_
          refine z_irem C dX8_isRun_24 (by omega) (by decide) ?_
          refine z_if_ne C (by omega) (tgt := 32) dX8_isRun_25 (by decide) (fun hc_8 => ?_) (fun hc_8 => ?_)
          · refine z_iconst C (z := 0) dX8_isRun_32 ?_
            refine z_zret (b := false) C dX8_isRun_33 () ?_ ?_ ?_ (by decide) (by decide)
            · rw [isR, decide_eq_false (by omega)]
            · exact trivial
            · exact rfl
          · refine z_iconst C (z := 1) dX8_isRun_28 ?_
            refine z_goto C (tgt := 33) dX8_isRun_29 (by decide) ?_
            refine z_zret (b := true) C dX8_isRun_33 () ?_ ?_ ?_ (by decide) (by decide)
            · rw [isR, decide_eq_true (by omega)]
            · exact trivial
            · exact rfl
set_option maxHeartbeats 400000 in
set_option maxRecDepth 100000 in
theorem c_X8_inG (l : Launch) (D : va_G) (cy : Nat → ClassId) (tw : Nat → Nat) (b : Nat → Nat) (W0 : va_W) (z : Int) (f : Int) (t : Int)  (hz : -10000 ≤ z ∧ z ≤ 10000) (hf : -10000 ≤ f ∧ f ≤ 10000) (ht : -10000 ≤ t ∧ t ≤ 10000) : zMet l yX8_in wsX8_in { frames := 0, cells := 0, slots := 0, locals := 0 } D (zT cy) tw (idW cy b W0) [vI z, vI f, vI t] 0 0 (S := Unit) (fun _ => some (vI (b2i (decide (f ≤ z ∧ z ≤ t))))) (fun _ => idW cy b W0) (fun _ => True) := by
  refine z_met (cc := cX8_in) (nL := 3) (ret := some .boolean) (by decide +kernel) rfl (Nat.le_of_ble_eq_true rfl) (lv := [(0, vI z), (1, vI f), (2, vI t)]) rfl ?_
  intro V p_ e_ s_ m_ args_ below_ meth_ c_ A_ C hmn
  refine z_iload_n C dX8_in_0 0 rfl ?_
  refine z_iload_n C dX8_in_1 1 rfl ?_
  refine z_icmp_lt C (by omega) (by omega) (tgt := 14) dX8_in_2 (by decide) (fun hc_1 => ?_) (fun hc_1 => ?_)
  · refine z_iconst C (z := 0) dX8_in_14 ?_
    refine z_zret (b := false) C dX8_in_15 () ?_ ?_ ?_ (by decide) (by decide)
    · rw [decide_eq_false (by omega)]
    · exact trivial
    · exact rfl
  · refine z_iload_n C dX8_in_5 0 rfl ?_
    refine z_iload_n C dX8_in_6 2 rfl ?_
    refine z_icmp_gt C (by omega) (by omega) (tgt := 14) dX8_in_7 (by decide) (fun hc_2 => ?_) (fun hc_2 => ?_)
    · refine z_iconst C (z := 0) dX8_in_14 ?_
      refine z_zret (b := false) C dX8_in_15 () ?_ ?_ ?_ (by decide) (by decide)
      · rw [decide_eq_false (by omega)]
      · exact trivial
      · exact rfl
    · refine z_iconst C (z := 1) dX8_in_10 ?_
      refine z_goto C (tgt := 15) dX8_in_11 (by decide) ?_
      refine z_zret (b := true) C dX8_in_15 () ?_ ?_ ?_ (by decide) (by decide)
      · rw [decide_eq_true (by omega)]
      · exact trivial
      · exact rfl
theorem kn_X8_bitsOf : zKn yX8_bitsOf wsX8_bitsOf cX8_bitsOf 2 (some .int) 2 := ⟨⟨_, rfl⟩, by decide +kernel, by decide +kernel, by decide +kernel⟩
set_option maxHeartbeats 2000000 in
set_option maxRecDepth 100000 in
theorem c_X8_bitsOfG (l : Launch) (D : va_G) (cy : Nat → ClassId) (tw : Nat → Nat) (b : Nat → Nat) (W0 : va_W) (y : Int) (z : Int)  (hy : 0 ≤ y ∧ y ≤ 1) (hz : 0 ≤ z ∧ z ≤ 640) : zMet l yX8_bitsOf wsX8_bitsOf { frames := 1, cells := 0, slots := 0, locals := 22 } D (zT cy) tw (idW cy b W0) [vI y, vI z] 0 0 (S := Unit) (fun _ => some (vI (bO y z))) (fun _ => idW cy b W0) (fun _ => True) := by
  refine z_met (cc := cX8_bitsOf) (nL := 2) (ret := some .int) (by decide +kernel) rfl (Nat.le_of_ble_eq_true rfl) (lv := [(0, vI y), (1, vI z)]) rfl ?_
  intro V p_ e_ s_ m_ args_ below_ meth_ c_ A_ C hmn
  refine z_iload_n C dX8_bitsOf_0 0 rfl ?_
  refine z_if_ne C (by omega) (tgt := 82) dX8_bitsOf_1 (by decide) (fun hc_1 => ?_) (fun hc_1 => ?_)
  · refine z_iload_n C dX8_bitsOf_82 1 rfl ?_
    refine z_iconst C (z := 2) dX8_bitsOf_83 ?_
    refine z_iconst C (z := 3) dX8_bitsOf_84 ?_
    refine z_callS C (As := [vI z, vI 2, vI 3]) (st := []) (c_X8_inG l D cy tw b W0 z 2 3  (by omega) (by omega) (by omega)) gX8_bitsOf_X8_in kn_X8_in ⟨rfl, rfl, Nat.le_of_ble_eq_true rfl, Nat.le_of_ble_eq_true rfl⟩ rfl (Nat.le_of_ble_eq_true rfl) ⟨Nat.le_of_ble_eq_true rfl, Nat.le_of_ble_eq_true rfl⟩ dX8_bitsOf_85 (fun u2 hu2 => ?_)
    clear hu2; clear u2
    show V 0 0 (idW cy b W0) [(0, vI y), (1, vI z)] [vI (b2i (decide (2 ≤ z ∧ z ≤ 3)))] 88
    refine z_ifnz C (tgt := 101) dX8_bitsOf_88 (by decide) (fun hc_3 => ?_) (fun hc_3 => ?_)
    · have hi88 := of_decide_eq_true hc_3
      refine z_iload_n C dX8_bitsOf_101 1 rfl ?_
      refine z_iconst C (z := 2) dX8_bitsOf_102 ?_
      refine z_icmp_eq C (by omega) (by decide) (tgt := 111) dX8_bitsOf_103 (by decide) (fun hc_4 => ?_) (fun hc_4 => ?_)
      · refine z_iconst C (z := 2) dX8_bitsOf_111 ?_
        refine z_goto C (tgt := 116) dX8_bitsOf_112 (by decide) ?_
        refine z_iret (x := 2) C dX8_bitsOf_116 () ?_ ?_ ?_ (by decide) (by decide)
        · have e9 : bO y z = 2 := by
            first | (exfalso; omega) | (unfold bO; (repeat (first | rw [if_pos (by omega)] | rw [if_neg (by omega)])); done)
          rw [e9]
        · exact trivial
        · exact rfl
      · refine z_iload_n C dX8_bitsOf_106 1 rfl ?_
        refine z_iconst C (z := 3) dX8_bitsOf_107 ?_
        refine z_icmp_ne C (by omega) (by decide) (tgt := 115) dX8_bitsOf_108 (by decide) (fun hc_5 => ?_) (fun hc_5 => ?_)
        · refine z_iconst C (z := 3) dX8_bitsOf_115 ?_
          refine z_iret (x := 3) C dX8_bitsOf_116 () ?_ ?_ ?_ (by decide) (by decide)
          · have e9 : bO y z = 3 := by
              first | (exfalso; omega) | (unfold bO; (repeat (first | rw [if_pos (by omega)] | rw [if_neg (by omega)])); done)
            rw [e9]
          · exact trivial
          · exact rfl
        · refine z_iconst C (z := 2) dX8_bitsOf_111 ?_
          refine z_goto C (tgt := 116) dX8_bitsOf_112 (by decide) ?_
          refine z_iret (x := 2) C dX8_bitsOf_116 () ?_ ?_ ?_ (by decide) (by decide)
          · have e9 : bO y z = 2 := by
              first | (exfalso; omega) | (unfold bO; (repeat (first | rw [if_pos (by omega)] | rw [if_neg (by omega)])); done)
            rw [e9]
          · exact trivial
          · exact rfl
    · have hi88 := of_decide_eq_false hc_3
      refine z_iload_n C dX8_bitsOf_91 1 rfl ?_
      refine z_iconst C (z := 1) dX8_bitsOf_92 ?_
      refine z_icmp_eq C (by omega) (by decide) (tgt := 101) dX8_bitsOf_93 (by decide) (fun hc_6 => ?_) (fun hc_6 => ?_)
      · refine z_iload_n C dX8_bitsOf_101 1 rfl ?_
        refine z_iconst C (z := 2) dX8_bitsOf_102 ?_
        refine z_icmp_eq C (by omega) (by decide) (tgt := 111) dX8_bitsOf_103 (by decide) (fun hc_7 => ?_) (fun hc_7 => ?_)
        · refine z_iconst C (z := 2) dX8_bitsOf_111 ?_
          refine z_goto C (tgt := 116) dX8_bitsOf_112 (by decide) ?_
          refine z_iret (x := 2) C dX8_bitsOf_116 () ?_ ?_ ?_ (by decide) (by decide)
          · have e9 : bO y z = 2 := by
              first | (exfalso; omega) | (unfold bO; (repeat (first | rw [if_pos (by omega)] | rw [if_neg (by omega)])); done)
            rw [e9]
          · exact trivial
          · exact rfl
        · refine z_iload_n C dX8_bitsOf_106 1 rfl ?_
          refine z_iconst C (z := 3) dX8_bitsOf_107 ?_
          refine z_icmp_ne C (by omega) (by decide) (tgt := 115) dX8_bitsOf_108 (by decide) (fun hc_8 => ?_) (fun hc_8 => ?_)
          · refine z_iconst C (z := 3) dX8_bitsOf_115 ?_
            refine z_iret (x := 3) C dX8_bitsOf_116 () ?_ ?_ ?_ (by decide) (by decide)
            · have e9 : bO y z = 3 := by
                first | (exfalso; omega) | (unfold bO; (repeat (first | rw [if_pos (by omega)] | rw [if_neg (by omega)])); done)
              rw [e9]
            · exact trivial
            · exact rfl
          · refine z_iconst C (z := 2) dX8_bitsOf_111 ?_
            refine z_goto C (tgt := 116) dX8_bitsOf_112 (by decide) ?_
            refine z_iret (x := 2) C dX8_bitsOf_116 () ?_ ?_ ?_ (by decide) (by decide)
            · have e9 : bO y z = 2 := by
                first | (exfalso; omega) | (unfold bO; (repeat (first | rw [if_pos (by omega)] | rw [if_neg (by omega)])); done)
              rw [e9]
            · exact trivial
            · exact rfl
      · refine z_iload_n C dX8_bitsOf_96 1 rfl ?_
        refine z_iconst C (z := 4) dX8_bitsOf_97 ?_
        refine z_icmp_ne C (by omega) (by decide) (tgt := 117) dX8_bitsOf_98 (by decide) (fun hc_9 => ?_) (fun hc_9 => ?_)
        · refine z_iload_n C dX8_bitsOf_117 1 rfl ?_
          refine z_iconst C (z := 5) dX8_bitsOf_118 ?_
          refine z_bipush C (z := 8) dX8_bitsOf_119 (by decide) ?_
          refine z_callS C (As := [vI z, vI 5, vI 8]) (st := []) (c_X8_inG l D cy tw b W0 z 5 8  (by omega) (by omega) (by omega)) gX8_bitsOf_X8_in kn_X8_in ⟨rfl, rfl, Nat.le_of_ble_eq_true rfl, Nat.le_of_ble_eq_true rfl⟩ rfl (Nat.le_of_ble_eq_true rfl) ⟨Nat.le_of_ble_eq_true rfl, Nat.le_of_ble_eq_true rfl⟩ dX8_bitsOf_121 (fun u10 hu10 => ?_)
          clear hu10; clear u10
          show V 0 0 (idW cy b W0) [(0, vI y), (1, vI z)] [vI (b2i (decide (5 ≤ z ∧ z ≤ 8)))] 124
          refine z_ifz C (tgt := 139) dX8_bitsOf_124 (by decide) (fun hc_11 => ?_) (fun hc_11 => ?_)
          · have hi124 := of_decide_eq_false hc_11
            refine z_iload_n C dX8_bitsOf_139 1 rfl ?_
            refine z_bipush C (z := 9) dX8_bitsOf_140 (by decide) ?_
            refine z_bipush C (z := 12) dX8_bitsOf_142 (by decide) ?_
            refine z_callS C (As := [vI z, vI 9, vI 12]) (st := []) (c_X8_inG l D cy tw b W0 z 9 12  (by omega) (by omega) (by omega)) gX8_bitsOf_X8_in kn_X8_in ⟨rfl, rfl, Nat.le_of_ble_eq_true rfl, Nat.le_of_ble_eq_true rfl⟩ rfl (Nat.le_of_ble_eq_true rfl) ⟨Nat.le_of_ble_eq_true rfl, Nat.le_of_ble_eq_true rfl⟩ dX8_bitsOf_144 (fun u12 hu12 => ?_)
            clear hu12; clear u12
            show V 0 0 (idW cy b W0) [(0, vI y), (1, vI z)] [vI (b2i (decide (9 ≤ z ∧ z ≤ 12)))] 147
            refine z_ifz C (tgt := 155) dX8_bitsOf_147 (by decide) (fun hc_13 => ?_) (fun hc_13 => ?_)
            · have hi147 := of_decide_eq_false hc_13
              refine z_iload_n C dX8_bitsOf_155 1 rfl ?_
              refine z_if_eq C (by omega) (tgt := 170) dX8_bitsOf_156 (by decide) (fun hc_14 => ?_) (fun hc_14 => ?_)
              · refine z_bipush C (z := 9) dX8_bitsOf_170 (by decide) ?_
                refine z_goto C (tgt := 177) dX8_bitsOf_172 (by decide) ?_
                refine z_iret (x := 9) C dX8_bitsOf_177 () ?_ ?_ ?_ (by decide) (by decide)
                · have e9 : bO y z = 9 := by
                    first | (exfalso; omega) | (unfold bO; (repeat (first | rw [if_pos (by omega)] | rw [if_neg (by omega)])); done)
                  rw [e9]
                · exact trivial
                · exact rfl
              · refine z_iload_n C dX8_bitsOf_159 1 rfl ?_
                refine z_bipush C (z := 13) dX8_bitsOf_160 (by decide) ?_
                refine z_bipush C (z := 20) dX8_bitsOf_162 (by decide) ?_
                refine z_callS C (As := [vI z, vI 13, vI 20]) (st := []) (c_X8_inG l D cy tw b W0 z 13 20  (by omega) (by omega) (by omega)) gX8_bitsOf_X8_in kn_X8_in ⟨rfl, rfl, Nat.le_of_ble_eq_true rfl, Nat.le_of_ble_eq_true rfl⟩ rfl (Nat.le_of_ble_eq_true rfl) ⟨Nat.le_of_ble_eq_true rfl, Nat.le_of_ble_eq_true rfl⟩ dX8_bitsOf_164 (fun u15 hu15 => ?_)
                clear hu15; clear u15
                show V 0 0 (idW cy b W0) [(0, vI y), (1, vI z)] [vI (b2i (decide (13 ≤ z ∧ z ≤ 20)))] 167
                refine z_ifz C (tgt := 175) dX8_bitsOf_167 (by decide) (fun hc_16 => ?_) (fun hc_16 => ?_)
                · have hi167 := of_decide_eq_false hc_16
                  refine z_bipush C (z := 12) dX8_bitsOf_175 (by decide) ?_
                  refine z_iret (x := 12) C dX8_bitsOf_177 () ?_ ?_ ?_ (by decide) (by decide)
                  · have e9 : bO y z = 12 := by
                      first | (exfalso; omega) | (unfold bO; (repeat (first | rw [if_pos (by omega)] | rw [if_neg (by omega)])); done)
                    rw [e9]
                  · exact trivial
                  · exact rfl
                · have hi167 := of_decide_eq_true hc_16
                  refine z_bipush C (z := 9) dX8_bitsOf_170 (by decide) ?_
                  refine z_goto C (tgt := 177) dX8_bitsOf_172 (by decide) ?_
                  refine z_iret (x := 9) C dX8_bitsOf_177 () ?_ ?_ ?_ (by decide) (by decide)
                  · have e9 : bO y z = 9 := by
                      first | (exfalso; omega) | (unfold bO; (repeat (first | rw [if_pos (by omega)] | rw [if_neg (by omega)])); done)
                    rw [e9]
                  · exact trivial
                  · exact rfl
            · have hi147 := of_decide_eq_true hc_13
              refine z_bipush C (z := 7) dX8_bitsOf_150 (by decide) ?_
              refine z_goto C (tgt := 177) dX8_bitsOf_152 (by decide) ?_
              refine z_iret (x := 7) C dX8_bitsOf_177 () ?_ ?_ ?_ (by decide) (by decide)
              · have e9 : bO y z = 7 := by
                  first | (exfalso; omega) | (unfold bO; (repeat (first | rw [if_pos (by omega)] | rw [if_neg (by omega)])); done)
                rw [e9]
              · exact trivial
              · exact rfl
          · have hi124 := of_decide_eq_true hc_11
            refine z_iload_n C dX8_bitsOf_127 1 rfl ?_
            refine z_bipush C (z := 7) dX8_bitsOf_128 (by decide) ?_
            refine z_icmp_ge C (by omega) (by decide) (tgt := 137) dX8_bitsOf_130 (by decide) (fun hc_17 => ?_) (fun hc_17 => ?_)
            · refine z_iconst C (z := 5) dX8_bitsOf_137 ?_
              refine z_iret (x := 5) C dX8_bitsOf_138 () ?_ ?_ ?_ (by decide) (by decide)
              · have e9 : bO y z = 5 := by
                  first | (exfalso; omega) | (unfold bO; (repeat (first | rw [if_pos (by omega)] | rw [if_neg (by omega)])); done)
                rw [e9]
              · exact trivial
              · exact rfl
            · refine z_iconst C (z := 4) dX8_bitsOf_133 ?_
              refine z_goto C (tgt := 138) dX8_bitsOf_134 (by decide) ?_
              refine z_iret (x := 4) C dX8_bitsOf_138 () ?_ ?_ ?_ (by decide) (by decide)
              · have e9 : bO y z = 4 := by
                  first | (exfalso; omega) | (unfold bO; (repeat (first | rw [if_pos (by omega)] | rw [if_neg (by omega)])); done)
                rw [e9]
              · exact trivial
              · exact rfl
        · refine z_iload_n C dX8_bitsOf_101 1 rfl ?_
          refine z_iconst C (z := 2) dX8_bitsOf_102 ?_
          refine z_icmp_eq C (by omega) (by decide) (tgt := 111) dX8_bitsOf_103 (by decide) (fun hc_18 => ?_) (fun hc_18 => ?_)
          · refine z_iconst C (z := 2) dX8_bitsOf_111 ?_
            refine z_goto C (tgt := 116) dX8_bitsOf_112 (by decide) ?_
            refine z_iret (x := 2) C dX8_bitsOf_116 () ?_ ?_ ?_ (by decide) (by decide)
            · have e9 : bO y z = 2 := by
                first | (exfalso; omega) | (unfold bO; (repeat (first | rw [if_pos (by omega)] | rw [if_neg (by omega)])); done)
              rw [e9]
            · exact trivial
            · exact rfl
          · refine z_iload_n C dX8_bitsOf_106 1 rfl ?_
            refine z_iconst C (z := 3) dX8_bitsOf_107 ?_
            refine z_icmp_ne C (by omega) (by decide) (tgt := 115) dX8_bitsOf_108 (by decide) (fun hc_19 => ?_) (fun hc_19 => ?_)
            · refine z_iconst C (z := 3) dX8_bitsOf_115 ?_
              refine z_iret (x := 3) C dX8_bitsOf_116 () ?_ ?_ ?_ (by decide) (by decide)
              · have e9 : bO y z = 3 := by
                  first | (exfalso; omega) | (unfold bO; (repeat (first | rw [if_pos (by omega)] | rw [if_neg (by omega)])); done)
                rw [e9]
              · exact trivial
              · exact rfl
            · refine z_iconst C (z := 2) dX8_bitsOf_111 ?_
              refine z_goto C (tgt := 116) dX8_bitsOf_112 (by decide) ?_
              refine z_iret (x := 2) C dX8_bitsOf_116 () ?_ ?_ ?_ (by decide) (by decide)
              · have e9 : bO y z = 2 := by
                  first | (exfalso; omega) | (unfold bO; (repeat (first | rw [if_pos (by omega)] | rw [if_neg (by omega)])); done)
                rw [e9]
              · exact trivial
              · exact rfl
  · refine z_iload_n C dX8_bitsOf_4 1 rfl ?_
    refine z_iconst C (z := 2) dX8_bitsOf_5 ?_
    refine z_bipush C (z := 7) dX8_bitsOf_6 (by decide) ?_
    refine z_callS C (As := [vI z, vI 2, vI 7]) (st := []) (c_X8_inG l D cy tw b W0 z 2 7  (by omega) (by omega) (by omega)) gX8_bitsOf_X8_in kn_X8_in ⟨rfl, rfl, Nat.le_of_ble_eq_true rfl, Nat.le_of_ble_eq_true rfl⟩ rfl (Nat.le_of_ble_eq_true rfl) ⟨Nat.le_of_ble_eq_true rfl, Nat.le_of_ble_eq_true rfl⟩ dX8_bitsOf_8 (fun u20 hu20 => ?_)
    clear hu20; clear u20
    show V 0 0 (idW cy b W0) [(0, vI y), (1, vI z)] [vI (b2i (decide (2 ≤ z ∧ z ≤ 7)))] 11
    refine z_ifz C (tgt := 16) dX8_bitsOf_11 (by decide) (fun hc_21 => ?_) (fun hc_21 => ?_)
    · have hi11 := of_decide_eq_false hc_21
      refine z_iload_n C dX8_bitsOf_16 1 rfl ?_
      refine z_bipush C (z := 8) dX8_bitsOf_17 (by decide) ?_
      refine z_bipush C (z := 11) dX8_bitsOf_19 (by decide) ?_
      refine z_callS C (As := [vI z, vI 8, vI 11]) (st := []) (c_X8_inG l D cy tw b W0 z 8 11  (by omega) (by omega) (by omega)) gX8_bitsOf_X8_in kn_X8_in ⟨rfl, rfl, Nat.le_of_ble_eq_true rfl, Nat.le_of_ble_eq_true rfl⟩ rfl (Nat.le_of_ble_eq_true rfl) ⟨Nat.le_of_ble_eq_true rfl, Nat.le_of_ble_eq_true rfl⟩ dX8_bitsOf_21 (fun u22 hu22 => ?_)
      clear hu22; clear u22
      show V 0 0 (idW cy b W0) [(0, vI y), (1, vI z)] [vI (b2i (decide (8 ≤ z ∧ z ≤ 11)))] 24
      refine z_ifnz C (tgt := 40) dX8_bitsOf_24 (by decide) (fun hc_23 => ?_) (fun hc_23 => ?_)
      · have hi24 := of_decide_eq_true hc_23
        refine z_iconst C (z := 5) dX8_bitsOf_40 ?_
        refine z_iret (x := 5) C dX8_bitsOf_41 () ?_ ?_ ?_ (by decide) (by decide)
        · have e9 : bO y z = 5 := by
            first | (exfalso; omega) | (unfold bO; (repeat (first | rw [if_pos (by omega)] | rw [if_neg (by omega)])); done)
          rw [e9]
        · exact trivial
        · exact rfl
      · have hi24 := of_decide_eq_false hc_23
        refine z_iload_n C dX8_bitsOf_27 1 rfl ?_
        refine z_bipush C (z := 64) dX8_bitsOf_28 (by decide) ?_
        refine z_icmp_eq C (by omega) (by decide) (tgt := 40) dX8_bitsOf_30 (by decide) (fun hc_24 => ?_) (fun hc_24 => ?_)
        · refine z_iconst C (z := 5) dX8_bitsOf_40 ?_
          refine z_iret (x := 5) C dX8_bitsOf_41 () ?_ ?_ ?_ (by decide) (by decide)
          · have e9 : bO y z = 5 := by
              first | (exfalso; omega) | (unfold bO; (repeat (first | rw [if_pos (by omega)] | rw [if_neg (by omega)])); done)
            rw [e9]
          · exact trivial
          · exact rfl
        · refine z_iload_n C dX8_bitsOf_33 1 rfl ?_
          refine z_sipush C (z := 128) dX8_bitsOf_34 (by decide) ?_
          refine z_icmp_ne C (by omega) (by decide) (tgt := 42) dX8_bitsOf_37 (by decide) (fun hc_25 => ?_) (fun hc_25 => ?_)
          · refine z_iload_n C dX8_bitsOf_42 1 rfl ?_
            refine z_iconst C (z := 1) dX8_bitsOf_43 ?_
            refine z_icmp_eq C (by omega) (by decide) (tgt := 58) dX8_bitsOf_44 (by decide) (fun hc_26 => ?_) (fun hc_26 => ?_)
            · refine z_bipush C (z := 6) dX8_bitsOf_58 (by decide) ?_
              refine z_goto C (tgt := 81) dX8_bitsOf_60 (by decide) ?_
              refine z_iret (x := 6) C dX8_bitsOf_81 () ?_ ?_ ?_ (by decide) (by decide)
              · have e9 : bO y z = 6 := by
                  first | (exfalso; omega) | (unfold bO; (repeat (first | rw [if_pos (by omega)] | rw [if_neg (by omega)])); done)
                rw [e9]
              · exact trivial
              · exact rfl
            · refine z_iload_n C dX8_bitsOf_47 1 rfl ?_
              refine z_bipush C (z := 12) dX8_bitsOf_48 (by decide) ?_
              refine z_bipush C (z := 17) dX8_bitsOf_50 (by decide) ?_
              refine z_callS C (As := [vI z, vI 12, vI 17]) (st := []) (c_X8_inG l D cy tw b W0 z 12 17  (by omega) (by omega) (by omega)) gX8_bitsOf_X8_in kn_X8_in ⟨rfl, rfl, Nat.le_of_ble_eq_true rfl, Nat.le_of_ble_eq_true rfl⟩ rfl (Nat.le_of_ble_eq_true rfl) ⟨Nat.le_of_ble_eq_true rfl, Nat.le_of_ble_eq_true rfl⟩ dX8_bitsOf_52 (fun u27 hu27 => ?_)
              clear hu27; clear u27
              show V 0 0 (idW cy b W0) [(0, vI y), (1, vI z)] [vI (b2i (decide (12 ≤ z ∧ z ≤ 17)))] 55
              refine z_ifz C (tgt := 63) dX8_bitsOf_55 (by decide) (fun hc_28 => ?_) (fun hc_28 => ?_)
              · have hi55 := of_decide_eq_false hc_28
                refine z_iload_n C dX8_bitsOf_63 1 rfl ?_
                refine z_bipush C (z := 18) dX8_bitsOf_64 (by decide) ?_
                refine z_bipush C (z := 27) dX8_bitsOf_66 (by decide) ?_
                refine z_callS C (As := [vI z, vI 18, vI 27]) (st := []) (c_X8_inG l D cy tw b W0 z 18 27  (by omega) (by omega) (by omega)) gX8_bitsOf_X8_in kn_X8_in ⟨rfl, rfl, Nat.le_of_ble_eq_true rfl, Nat.le_of_ble_eq_true rfl⟩ rfl (Nat.le_of_ble_eq_true rfl) ⟨Nat.le_of_ble_eq_true rfl, Nat.le_of_ble_eq_true rfl⟩ dX8_bitsOf_68 (fun u29 hu29 => ?_)
                clear hu29; clear u29
                show V 0 0 (idW cy b W0) [(0, vI y), (1, vI z)] [vI (b2i (decide (18 ≤ z ∧ z ≤ 27)))] 71
                refine z_ifz C (tgt := 79) dX8_bitsOf_71 (by decide) (fun hc_30 => ?_) (fun hc_30 => ?_)
                · have hi71 := of_decide_eq_false hc_30
                  refine z_bipush C (z := 8) dX8_bitsOf_79 (by decide) ?_
                  refine z_iret (x := 8) C dX8_bitsOf_81 () ?_ ?_ ?_ (by decide) (by decide)
                  · have e9 : bO y z = 8 := by
                      first | (exfalso; omega) | (unfold bO; (repeat (first | rw [if_pos (by omega)] | rw [if_neg (by omega)])); done)
                    rw [e9]
                  · exact trivial
                  · exact rfl
                · have hi71 := of_decide_eq_true hc_30
                  refine z_bipush C (z := 7) dX8_bitsOf_74 (by decide) ?_
                  refine z_goto C (tgt := 81) dX8_bitsOf_76 (by decide) ?_
                  refine z_iret (x := 7) C dX8_bitsOf_81 () ?_ ?_ ?_ (by decide) (by decide)
                  · have e9 : bO y z = 7 := by
                      first | (exfalso; omega) | (unfold bO; (repeat (first | rw [if_pos (by omega)] | rw [if_neg (by omega)])); done)
                    rw [e9]
                  · exact trivial
                  · exact rfl
              · have hi55 := of_decide_eq_true hc_28
                refine z_bipush C (z := 6) dX8_bitsOf_58 (by decide) ?_
                refine z_goto C (tgt := 81) dX8_bitsOf_60 (by decide) ?_
                refine z_iret (x := 6) C dX8_bitsOf_81 () ?_ ?_ ?_ (by decide) (by decide)
                · have e9 : bO y z = 6 := by
                    first | (exfalso; omega) | (unfold bO; (repeat (first | rw [if_pos (by omega)] | rw [if_neg (by omega)])); done)
                  rw [e9]
                · exact trivial
                · exact rfl
          · refine z_iconst C (z := 5) dX8_bitsOf_40 ?_
            refine z_iret (x := 5) C dX8_bitsOf_41 () ?_ ?_ ?_ (by decide) (by decide)
            · have e9 : bO y z = 5 := by
                first | (exfalso; omega) | (unfold bO; (repeat (first | rw [if_pos (by omega)] | rw [if_neg (by omega)])); done)
              rw [e9]
            · exact trivial
            · exact rfl
    · have hi11 := of_decide_eq_true hc_21
      refine z_iconst C (z := 4) dX8_bitsOf_14 ?_
      refine z_iret (x := 4) C dX8_bitsOf_15 () ?_ ?_ ?_ (by decide) (by decide)
      · have e9 : bO y z = 4 := by
          first | (exfalso; omega) | (unfold bO; (repeat (first | rw [if_pos (by omega)] | rw [if_neg (by omega)])); done)
        rw [e9]
      · exact trivial
      · exact rfl
theorem kn_X8_makeTable : zKn yX8_makeTable wsX8_makeTable cX8_makeTable 5 (none) 1 := ⟨⟨_, rfl⟩, by decide +kernel, by decide +kernel, by decide +kernel⟩
set_option maxHeartbeats 2000000 in
set_option maxRecDepth 100000 in
theorem c_X8_makeTable (l : Launch) (D : va_G) (cy : Nat → ClassId) (tw : Nat → Nat) (b : Nat → Nat) (kd : Int) (co : Int) (y : Int) (lc : List Int) (lb : List Int) (hlc : lc.length = 1408) (hlb : lb.length = 1408) (hy : 0 ≤ y ∧ y ≤ 1) : zMet l yX8_makeTable wsX8_makeTable { frames := 2, cells := 0, slots := 0, locals := 43 } D (zT cy) tw (MWK cy b kd co (LG lc) (LG lb)) [.ref (b 0), vI y] 0 0 (S := Unit) (fun _ => none) (fun _ => MWK cy b kd co (LG (mkOut y lc lb 12).2.1) (LG (mkOut y lc lb 12).2.2)) (fun _ => True) := by
  refine z_met (cc := cX8_makeTable) (nL := 5) (ret := none) (by decide +kernel) rfl (Nat.le_of_ble_eq_true rfl) (lv := [(0, .ref (b 0)), (1, vI y)]) rfl ?_
  intro V p_ e_ s_ m_ args_ below_ meth_ c_ A_ C hmn
  have hinX8 : ∀ w ∈ u_ws RX8 TX8 22, w ∈ wsX8_makeTable := by decide +kernel
  have k0 : Cond.fieldLink RX8 7 "FaxFilterModel" "code" "[I" ∈ wsX8_makeTable := List.mem_of_getElem? (i := 1) rfl
  have k1 : Cond.fieldLink RX8 13 "FaxFilterModel" "bits" "[I" ∈ wsX8_makeTable := List.mem_of_getElem? (i := 2) rfl
  refine z_sipush C (z := 4096) dX8_makeTable_0 (by decide) ?_
  refine z_istore_n C (lv' := [(2, vI 4096), (0, .ref (b 0)), (1, vI y)]) dX8_makeTable_3 rfl (by decide) rfl ?_
  refine z_iconst C (z := 1) dX8_makeTable_4 ?_
  refine z_istore_n C (lv' := [(3, vI 1), (2, vI 4096), (0, .ref (b 0)), (1, vI y)]) dX8_makeTable_5 rfl (by decide) rfl ?_
  have J6 : ∀ (f : Nat) (vv : Int) (mn : Int) (gc : Nat → Int) (gb : Nat → Int), (1 ≤ mn ∧ mn ≤ 13) → (vv = (mkOut y lc lb (mn - 1).toNat).1 ∧ gc = LG (mkOut y lc lb (mn - 1).toNat).2.1 ∧ gb = LG (mkOut y lc lb (mn - 1).toNat).2.2) → (13 - mn).toNat < f → V 0 0 (MWK cy b kd co gc gb) [(0, .ref (b 0)), (1, vI y), (2, vI vv), (3, vI mn)] [] 6 := by
    intro f
    induction f with
    | zero => intro vv mn gc gb i0 e6 hf; exact absurd hf (Nat.not_lt_zero _)
    | succ f ih6 =>
      intro vv mn gc gb i0 e6 hf
      refine z_iload_n C dX8_makeTable_6 3 rfl ?_
      refine z_bipush C (z := 12) dX8_makeTable_7 (by decide) ?_
      refine z_icmp_gt C (by omega) (by decide) (tgt := 94) dX8_makeTable_9 (by decide) (fun hc_1 => ?_) (fun hc_1 => ?_)
      · refine z_vret C dX8_makeTable_94 () ?_ ?_ ?_ (by decide) (by decide)
        · exact rfl
        · exact trivial
        · rw [e6.2.1, e6.2.2, show (mn - 1).toNat = 12 by omega]
      · refine z_iconst C (z := 0) dX8_makeTable_12 ?_
        refine z_istore C (lv' := [(4, vI 0), (0, .ref (b 0)), (1, vI y), (2, vI vv), (3, vI mn)]) dX8_makeTable_13 (by decide) rfl ?_
        have J15 : ∀ (f : Nat) (vv : Int) (z : Int) (gc : Nat → Int) (gb : Nat → Int), (0 ≤ z ∧ z ≤ 641) → (vv = (mkIn y mn z.toNat (mkOut y lc lb (mn - 1).toNat)).1 ∧ gc = LG (mkIn y mn z.toNat (mkOut y lc lb (mn - 1).toNat)).2.1 ∧ gb = LG (mkIn y mn z.toNat (mkOut y lc lb (mn - 1).toNat)).2.2) → (641 - z).toNat < f → V 0 0 (MWK cy b kd co gc gb) [(0, .ref (b 0)), (1, vI y), (2, vI vv), (3, vI mn), (4, vI z)] [] 15 := by
          intro f
          induction f with
          | zero => intro vv z gc gb j0 e15 hf; exact absurd hf (Nat.not_lt_zero _)
          | succ f ih15 =>
            intro vv z gc gb j0 e15 hf
            refine z_iload C dX8_makeTable_15 4 rfl ?_
            obtain ⟨e1, e2, e3⟩ := e15
            obtain ⟨o1, o2, o3⟩ := okM_in y (mn := mn) (by omega) (okM_out y hlc hlb (mn - 1).toNat (by omega)) z.toNat
            rw [← e1] at o1
            refine z_sipush C (z := 640) dX8_makeTable_17 (by decide) ?_
            refine z_icmp_gt C (by omega) (by decide) (tgt := 88) dX8_makeTable_20 (by decide) (fun hc_2 => ?_) (fun hc_2 => ?_)
            · refine z_iinc C (lv' := [(3, vI (mn + 1)), (0, .ref (b 0)), (1, vI y), (2, vI vv), (4, vI z)]) dX8_makeTable_88 3 rfl (by decide) rfl ?_
              refine z_goto C (tgt := 6) dX8_makeTable_91 (by decide) ?_
              refine z_lsub C [1, 2, 3, 0] rfl ?_
              exact ih6 vv (mn + 1) gc gb (by omega) (by rw [show (mn + 1 - 1).toNat = (mn - 1).toNat + 1 by omega, mkOut, show (((mn - 1).toNat : Nat) : Int) + 1 = mn by omega, ← show z.toNat = 641 by omega]; exact ⟨e1, e2, e3⟩) (by omega)
            · refine z_iload C dX8_makeTable_23 4 rfl ?_
              refine z_callS C (As := [vI z]) (st := []) (c_X8_isRunG l D cy tw b (MWK cy b kd co gc gb) z  (by omega)) gX8_makeTable_X8_isRun kn_X8_isRun ⟨rfl, rfl, Nat.le_of_ble_eq_true rfl, Nat.le_of_ble_eq_true rfl⟩ rfl (Nat.le_of_ble_eq_true rfl) ⟨Nat.le_of_ble_eq_true rfl, Nat.le_of_ble_eq_true rfl⟩ dX8_makeTable_25 (fun u3 hu3 => ?_)
              clear hu3; clear u3
              show V 0 0 (MWK cy b kd co gc gb) [(0, .ref (b 0)), (1, vI y), (2, vI vv), (3, vI mn), (4, vI z)] [vI (b2i (isR z))] 28
              refine z_ifz C (tgt := 82) dX8_makeTable_28 (by decide) (fun ci => ?_) (fun ci => ?_)
              · have hst : mkIn y mn (z + 1).toNat (mkOut y lc lb (mn - 1).toNat) = (mkIn y mn z.toNat (mkOut y lc lb (mn - 1).toNat)) := by
                  rw [show (z + 1).toNat = z.toNat + 1 by omega, mkIn, mkSt, show ((z.toNat : Nat) : Int) = z by omega, if_neg (by rw [ci]; decide)]
                refine z_iinc C (lv' := [(4, vI (z + 1)), (0, .ref (b 0)), (1, vI y), (2, vI vv), (3, vI mn)]) dX8_makeTable_82 4 rfl (by decide) rfl ?_
                refine z_goto C (tgt := 15) dX8_makeTable_85 (by decide) ?_
                refine z_lsub C [1, 2, 3, 4, 0] rfl ?_
                exact ih15 vv (z + 1) gc gb (by omega) (by rw [hst]; exact ⟨e1, e2, e3⟩) (by omega)
              · refine z_iload_n C dX8_makeTable_31 1 rfl ?_
                refine z_iload C dX8_makeTable_32 4 rfl ?_
                refine z_callS C (As := [vI y, vI z]) (st := []) (c_X8_bitsOfG l D cy tw b (MWK cy b kd co gc gb) y z  (by omega) (by omega)) gX8_makeTable_X8_bitsOf kn_X8_bitsOf ⟨rfl, rfl, Nat.le_of_ble_eq_true rfl, Nat.le_of_ble_eq_true rfl⟩ rfl (Nat.le_of_ble_eq_true rfl) ⟨Nat.le_of_ble_eq_true rfl, Nat.le_of_ble_eq_true rfl⟩ dX8_makeTable_34 (fun u4 hu4 => ?_)
                clear hu4; clear u4
                show V 0 0 (MWK cy b kd co gc gb) [(0, .ref (b 0)), (1, vI y), (2, vI vv), (3, vI mn), (4, vI z)] [vI (bO y z)] 37
                refine z_iload_n C dX8_makeTable_37 3 rfl ?_
                have hbo : 2 ≤ bO y z ∧ bO y z ≤ 12 := by unfold bO; split <;> (repeat (first | omega | split))
                refine z_icmp_ne C (by omega) (by omega) (tgt := 82) dX8_makeTable_38 (by decide) (fun hc_5 => ?_) (fun hc_5 => ?_)
                · have hst : mkIn y mn (z + 1).toNat (mkOut y lc lb (mn - 1).toNat) = (mkIn y mn z.toNat (mkOut y lc lb (mn - 1).toNat)) := by
                    rw [show (z + 1).toNat = z.toNat + 1 by omega, mkIn, mkSt, show ((z.toNat : Nat) : Int) = z by omega, if_pos ci, if_neg (by omega)]
                  refine z_iinc C (lv' := [(4, vI (z + 1)), (0, .ref (b 0)), (1, vI y), (2, vI vv), (3, vI mn)]) dX8_makeTable_82 4 rfl (by decide) rfl ?_
                  refine z_goto C (tgt := 15) dX8_makeTable_85 (by decide) ?_
                  refine z_lsub C [1, 2, 3, 4, 0] rfl ?_
                  exact ih15 vv (z + 1) gc gb (by omega) (by rw [hst]; exact ⟨e1, e2, e3⟩) (by omega)
                · refine z_iload_n C dX8_makeTable_41 2 rfl ?_
                  refine z_sipush C (z := 4096) dX8_makeTable_42 (by decide) ?_
                  refine z_iload_n C dX8_makeTable_45 3 rfl ?_
                  refine z_ishr C mn.toNat dX8_makeTable_46 (by omega) (by omega) (by omega) ?_
                  refine z_isub C dX8_makeTable_47 ?_
                  refine z_nmI (fun v2 ev2 => ?_)
                  refine z_istore_n C (lv' := [(2, vI v2), (0, .ref (b 0)), (1, vI y), (3, vI mn), (4, vI z)]) dX8_makeTable_48 rfl (by decide) rfl ?_
                  have hp : (4096 : Int) / 2 ^ mn.toNat ≤ 2048 ∧ 0 ≤ (4096 : Int) / 2 ^ mn.toNat := by
                    rcases (by omega : mn = 1 ∨ mn = 2 ∨ mn = 3 ∨ mn = 4 ∨ mn = 5 ∨ mn = 6 ∨ mn = 7 ∨ mn = 8 ∨ mn = 9 ∨ mn = 10 ∨ mn = 11 ∨ mn = 12) with e | e | e | e | e | e | e | e | e | e | e | e <;> rw [e] <;> decide
                  have hst : mkIn y mn (z + 1).toNat (mkOut y lc lb (mn - 1).toNat) = (v2, (mkIn y mn z.toNat (mkOut y lc lb (mn - 1).toNat)).2.1.set (704 * y + z).toNat (v2 / 2 ^ (12 - mn).toNat), (mkIn y mn z.toNat (mkOut y lc lb (mn - 1).toNat)).2.2.set (704 * y + z).toNat mn) := by
                    rw [show (z + 1).toNat = z.toNat + 1 by omega, mkIn, mkSt, show ((z.toNat : Nat) : Int) = z by omega, if_pos ci, if_pos (by omega), ← e1, show vv - 4096 / 2 ^ mn.toNat = v2 by omega]
                  refine z_aload_n C dX8_makeTable_49 1 rfl ?_
                  refine z_get C hinX8 (ci := 10) rfl 0 rfl 3 (by decide) k0 rfl (v := .ref (b 1)) rfl dX8_makeTable_50 ?_
                  refine z_sipush C (z := 704) dX8_makeTable_53 (by decide) ?_
                  refine z_iload_n C dX8_makeTable_56 2 rfl ?_
                  refine z_imul C dX8_makeTable_57 ?_
                  refine z_iload C dX8_makeTable_58 4 rfl ?_
                  refine z_iadd C dX8_makeTable_60 ?_
                  refine z_iload_n C dX8_makeTable_61 0 rfl ?_
                  refine z_bipush C (z := 12) dX8_makeTable_62 (by decide) ?_
                  refine z_iload_n C dX8_makeTable_64 3 rfl ?_
                  refine z_isub C dX8_makeTable_65 ?_
                  refine z_ishr C ((12 - mn).toNat) dX8_makeTable_66 (by omega) (by omega) (by omega) ?_
                  refine z_iast C 1 1 (g := gc) rfl rfl (by omega) (by omega) (by decide) dX8_makeTable_67 (ws' := MWK cy b kd co (va_up gc ((704 * y) + z : Int).toNat (v2 / 2 ^ (12 - mn).toNat)) gb) rfl ?_
                  refine z_aload_n C dX8_makeTable_68 1 rfl ?_
                  refine z_get C hinX8 (ci := 10) rfl 0 rfl 4 (by decide) k1 rfl (v := .ref (b 2)) rfl dX8_makeTable_69 ?_
                  refine z_sipush C (z := 704) dX8_makeTable_72 (by decide) ?_
                  refine z_iload_n C dX8_makeTable_75 2 rfl ?_
                  refine z_imul C dX8_makeTable_76 ?_
                  refine z_iload C dX8_makeTable_77 4 rfl ?_
                  refine z_iadd C dX8_makeTable_79 ?_
                  refine z_iload_n C dX8_makeTable_80 3 rfl ?_
                  refine z_iast C 2 1 (g := gb) rfl rfl (by omega) (by omega) (by decide) dX8_makeTable_81 (ws' := MWK cy b kd co (va_up gc ((704 * y) + z : Int).toNat (v2 / 2 ^ (12 - mn).toNat)) (va_up gb ((704 * y) + z : Int).toNat mn)) rfl ?_
                  refine z_iinc C (lv' := [(4, vI (z + 1)), (2, vI v2), (0, .ref (b 0)), (1, vI y), (3, vI mn)]) dX8_makeTable_82 4 rfl (by decide) rfl ?_
                  refine z_goto C (tgt := 15) dX8_makeTable_85 (by decide) ?_
                  refine z_lsub C [2, 3, 1, 4, 0] rfl ?_
                  exact ih15 v2 (z + 1) (va_up gc ((704 * y) + z : Int).toNat (v2 / 2 ^ (12 - mn).toNat)) (va_up gb ((704 * y) + z : Int).toNat mn) (by omega) (⟨by rw [hst], by rw [hst, e2]; exact LG_up (by rw [o2]; omega) _, by rw [hst, e3]; exact LG_up (by rw [o3]; omega) _⟩) (by omega)
        refine z_lsub C [1, 2, 3, 4, 0] rfl ?_
        exact J15 _ vv 0 gc gb (by omega) (e6) (Nat.lt_succ_self _)
  refine z_lsub C [2, 3, 1, 0] rfl ?_
  exact J6 _ 4096 1 (LG lc) (LG lb) (by omega) (⟨rfl, rfl, rfl⟩) (Nat.lt_succ_self _)
theorem kn_X8_init : zKn yX8_init wsX8_init cX8_init 3 (none) 2 := ⟨⟨_, rfl⟩, by decide +kernel, by decide +kernel, by decide +kernel⟩
set_option maxHeartbeats 4000000 in
set_option maxRecDepth 100000 in
theorem c_X8_init (l : Launch) (D : va_G) (cy : Nat → ClassId) (tw : Nat → Nat) (h : Nat) (kz cz : Int) (hkz : -2147483648 ≤ kz ∧ kz < 2147483648) (hcz : -2147483648 ≤ cz ∧ cz < 2147483648) : zMet l yX8_init wsX8_init { frames := 3, cells := 7, slots := 160044, locals := 67 } D (zT cy) tw [(h, .inr (10, [vI 0, vI 0, vI 0, .null, .null, .null, vI 0, .null, .null, vI 0, .null, vI 0, .null, vI 0, vI 0, vI 0, vI 0, vI 0, vI 0, vI 0, vI 0, vI 0]))] [.ref h, vI kz, vI cz] 7 160044 (S := Nat → Nat) (fun _ => none) (fun u => MW cy u (kdOf kz) (coOf cz) 0 0 0 0 0 0 0 0 false false 0 0 false (fun _ => false) (fun _ => false) (fun _ => 0) (fun _ => 0) (fun _ => false)) (fun u => u 0 = h) := by
  refine z_met (cc := cX8_init) (nL := 3) (ret := none) (by decide +kernel) rfl (Nat.le_of_ble_eq_true rfl) (lv := [(0, .ref h), (1, vI kz), (2, vI cz)]) rfl ?_
  intro V p_ e_ s_ m_ args_ below_ meth_ c_ A_ C hmn0
  have hmn : meth_.name = "<init>" := hmn0
  have hinX8 : ∀ w ∈ u_ws RX8 TX8 22, w ∈ wsX8_init := by decide +kernel
  have k0 : Cond.methodLink RX8 1 objectInit ∈ wsX8_init := List.mem_of_getElem? (i := 1) rfl
  have k1 : Cond.instanceMethod objectInit ∈ wsX8_init := List.mem_of_getElem? (i := 2) rfl
  have k2 : Cond.code objectInit ⟨#[0xb1]⟩ 1 none ∈ wsX8_init := List.mem_of_getElem? (i := 3) rfl
  have k3 : Cond.arrayClass .int ∈ wsX8_init := List.mem_of_getElem? (i := 4) rfl
  have k4 : Cond.fieldLink RX8 7 "FaxFilterModel" "code" "[I" ∈ wsX8_init := List.mem_of_getElem? (i := 5) rfl
  have k5 : Cond.fieldLink RX8 13 "FaxFilterModel" "bits" "[I" ∈ wsX8_init := List.mem_of_getElem? (i := 6) rfl
  have k6 : Cond.arrayClass .boolean ∈ wsX8_init := List.mem_of_getElem? (i := 7) rfl
  have k7 : Cond.fieldLink RX8 16 "FaxFilterModel" "settings" "[Z" ∈ wsX8_init := List.mem_of_getElem? (i := 8) rfl
  have k8 : Cond.fieldLink RX8 20 "FaxFilterModel" "dark" "[Z" ∈ wsX8_init := List.mem_of_getElem? (i := 9) rfl
  have k9 : Cond.fieldLink RX8 23 "FaxFilterModel" "states" "[I" ∈ wsX8_init := List.mem_of_getElem? (i := 10) rfl
  have k10 : Cond.fieldLink RX8 26 "FaxFilterModel" "bytes" "[I" ∈ wsX8_init := List.mem_of_getElem? (i := 11) rfl
  have k11 : Cond.constant RX8 29 (140000) ∈ wsX8_init := List.mem_of_getElem? (i := 12) rfl
  have k12 : Cond.fieldLink RX8 30 "FaxFilterModel" "out" "[Z" ∈ wsX8_init := List.mem_of_getElem? (i := 13) rfl
  have k13 : Cond.fieldLink RX8 33 "FaxFilterModel" "kind" "I" ∈ wsX8_init := List.mem_of_getElem? (i := 14) rfl
  have k14 : Cond.fieldLink RX8 37 "FaxFilterModel" "columns" "I" ∈ wsX8_init := List.mem_of_getElem? (i := 15) rfl
  have J112 : ∀ (b : Nat → Nat) (kd co : Int), b 0 = h → kd = kdOf kz → co = coOf cz → V 7 160044 (MWK cy b kd co (LG mk0) (LG mk0)) [(0, .ref (b 0)), (1, vI kz), (2, vI cz)] [] 112 := by
    intro b kd co hb0 ekd eco
    refine z_aload_n C dX8_init_112 0 rfl ?_
    refine z_iconst C (z := 0) dX8_init_113 ?_
    refine z_callV C (As := [vI 0]) (st := []) (c_X8_makeTable l D cy tw b kd co 0 mk0 mk0 (List.length_replicate) (List.length_replicate) (by omega)) gX8_init_X8_makeTable kn_X8_makeTable rfl ⟨rfl, rfl, Nat.le_of_ble_eq_true rfl, Nat.le_of_ble_eq_true rfl⟩ 0 rfl (ci := 10) rfl rfl (Nat.le_of_ble_eq_true rfl) ⟨Nat.le_of_ble_eq_true rfl, Nat.le_of_ble_eq_true rfl⟩ dX8_init_114 (fun u101 hu101 => ?_)
    show V 7 160044 (MWK cy b kd co (LG (mkOut 0 mk0 mk0 12).2.1) (LG (mkOut 0 mk0 mk0 12).2.2)) [(0, .ref (b 0)), (1, vI kz), (2, vI cz)] [] 117
    refine z_aload_n C dX8_init_117 0 rfl ?_
    refine z_iconst C (z := 1) dX8_init_118 ?_
    refine z_callV C (As := [vI 1]) (st := []) (c_X8_makeTable l D cy tw b kd co 1 ((mkOut 0 mk0 mk0 12).2.1) ((mkOut 0 mk0 mk0 12).2.2) ((okM_out 0 List.length_replicate List.length_replicate 12 (Nat.le_refl 12)).2.1) ((okM_out 0 List.length_replicate List.length_replicate 12 (Nat.le_refl 12)).2.2) (by omega)) gX8_init_X8_makeTable kn_X8_makeTable rfl ⟨rfl, rfl, Nat.le_of_ble_eq_true rfl, Nat.le_of_ble_eq_true rfl⟩ 0 rfl (ci := 10) rfl rfl (Nat.le_of_ble_eq_true rfl) ⟨Nat.le_of_ble_eq_true rfl, Nat.le_of_ble_eq_true rfl⟩ dX8_init_119 (fun u102 hu102 => ?_)
    show V 7 160044 (MWK cy b kd co (LG (mkOut 1 ((mkOut 0 mk0 mk0 12).2.1) ((mkOut 0 mk0 mk0 12).2.2) 12).2.1) (LG (mkOut 1 ((mkOut 0 mk0 mk0 12).2.1) ((mkOut 0 mk0 mk0 12).2.2) 12).2.2)) [(0, .ref (b 0)), (1, vI kz), (2, vI cz)] [] 122
    refine z_aeq C 1 mC rfl (fun i hi => by rw [mk_end]; exact LG_map _ hi) (ws' := MWK cy b kd co mC (LG (mkOut 1 ((mkOut 0 mk0 mk0 12).2.1) ((mkOut 0 mk0 mk0 12).2.2) 12).2.2)) rfl ?_
    refine z_aeq C 2 mB rfl (fun i hi => by rw [mk_end]; exact LG_map _ hi) (ws' := MWK cy b kd co mC mB) rfl ?_
    refine z_vret C dX8_init_122 b ?_ ?_ ?_ (by decide) (by decide)
    · exact rfl
    · exact hb0
    · rw [← ekd, ← eco]; rfl
  refine z_aload_n C dX8_init_0 0 rfl ?_
  refine z_objInit C k0 k1 k2 (Nat.le_of_ble_eq_true rfl) (Nat.le_of_ble_eq_true rfl) dX8_init_1 ?_
  refine z_aload_n C dX8_init_4 0 rfl ?_
  refine z_sipush C (z := 1408) dX8_init_5 (by decide) ?_
  refine z_newaI C 1408 (rfl) (Nat.le_of_ble_eq_true rfl) k3 1 rfl (Nat.le_of_ble_eq_true rfl) (Nat.le_of_ble_eq_true rfl) dX8_init_8 (fun q1 => ?_)
  show V 1 1408 [(h, .inr (10, [vI 0, vI 0, vI 0, .null, .null, .null, vI 0, .null, .null, vI 0, .null, vI 0, .null, vI 0, vI 0, vI 0, vI 0, vI 0, vI 0, vI 0, vI 0, vI 0])), (q1, aI (cy 1) 1408 (fun _ => 0))] [(0, .ref h), (1, vI kz), (2, vI cz)] [.ref q1, .ref h] 10
  refine z_putF C hmn hinX8 tyX8 tyX8_ok nmX8 (ci := 10) rfl 0 rfl 3 (by decide) k4 rfl rfl rfl rfl rfl (Nat.le_of_ble_eq_true rfl) dX8_init_10 (ws' := [(h, .inr (10, [vI 0, vI 0, vI 0, .ref q1, .null, .null, vI 0, .null, .null, vI 0, .null, vI 0, .null, vI 0, vI 0, vI 0, vI 0, vI 0, vI 0, vI 0, vI 0, vI 0])), (q1, aI (cy 1) 1408 (fun _ => 0))]) rfl ?_
  refine z_aload_n C dX8_init_13 0 rfl ?_
  refine z_sipush C (z := 1408) dX8_init_14 (by decide) ?_
  refine z_newaI C 1408 (rfl) (Nat.le_of_ble_eq_true rfl) k3 1 rfl (Nat.le_of_ble_eq_true rfl) (Nat.le_of_ble_eq_true rfl) dX8_init_17 (fun q2 => ?_)
  show V 2 2816 [(h, .inr (10, [vI 0, vI 0, vI 0, .ref q1, .null, .null, vI 0, .null, .null, vI 0, .null, vI 0, .null, vI 0, vI 0, vI 0, vI 0, vI 0, vI 0, vI 0, vI 0, vI 0])), (q1, aI (cy 1) 1408 (fun _ => 0)), (q2, aI (cy 1) 1408 (fun _ => 0))] [(0, .ref h), (1, vI kz), (2, vI cz)] [.ref q2, .ref h] 19
  refine z_putF C hmn hinX8 tyX8 tyX8_ok nmX8 (ci := 10) rfl 0 rfl 4 (by decide) k5 rfl rfl rfl rfl rfl (Nat.le_of_ble_eq_true rfl) dX8_init_19 (ws' := [(h, .inr (10, [vI 0, vI 0, vI 0, .ref q1, .ref q2, .null, vI 0, .null, .null, vI 0, .null, vI 0, .null, vI 0, vI 0, vI 0, vI 0, vI 0, vI 0, vI 0, vI 0, vI 0])), (q1, aI (cy 1) 1408 (fun _ => 0)), (q2, aI (cy 1) 1408 (fun _ => 0))]) rfl ?_
  refine z_aload_n C dX8_init_22 0 rfl ?_
  refine z_iconst C (z := 4) dX8_init_23 ?_
  refine z_newaZ C 4 (rfl) (Nat.le_of_ble_eq_true rfl) k6 3 rfl (Nat.le_of_ble_eq_true rfl) (Nat.le_of_ble_eq_true rfl) dX8_init_24 (fun q3 => ?_)
  show V 3 2820 [(h, .inr (10, [vI 0, vI 0, vI 0, .ref q1, .ref q2, .null, vI 0, .null, .null, vI 0, .null, vI 0, .null, vI 0, vI 0, vI 0, vI 0, vI 0, vI 0, vI 0, vI 0, vI 0])), (q1, aI (cy 1) 1408 (fun _ => 0)), (q2, aI (cy 1) 1408 (fun _ => 0)), (q3, aZ (cy 3) 4 (fun _ => false))] [(0, .ref h), (1, vI kz), (2, vI cz)] [.ref q3, .ref h] 26
  refine z_putF C hmn hinX8 tyX8 tyX8_ok nmX8 (ci := 10) rfl 0 rfl 5 (by decide) k7 rfl rfl rfl rfl rfl (Nat.le_of_ble_eq_true rfl) dX8_init_26 (ws' := [(h, .inr (10, [vI 0, vI 0, vI 0, .ref q1, .ref q2, .ref q3, vI 0, .null, .null, vI 0, .null, vI 0, .null, vI 0, vI 0, vI 0, vI 0, vI 0, vI 0, vI 0, vI 0, vI 0])), (q1, aI (cy 1) 1408 (fun _ => 0)), (q2, aI (cy 1) 1408 (fun _ => 0)), (q3, aZ (cy 3) 4 (fun _ => false))]) rfl ?_
  refine z_aload_n C dX8_init_29 0 rfl ?_
  refine z_sipush C (z := 16800) dX8_init_30 (by decide) ?_
  refine z_newaZ C 16800 (rfl) (Nat.le_of_ble_eq_true rfl) k6 3 rfl (Nat.le_of_ble_eq_true rfl) (Nat.le_of_ble_eq_true rfl) dX8_init_33 (fun q4 => ?_)
  show V 4 19620 [(h, .inr (10, [vI 0, vI 0, vI 0, .ref q1, .ref q2, .ref q3, vI 0, .null, .null, vI 0, .null, vI 0, .null, vI 0, vI 0, vI 0, vI 0, vI 0, vI 0, vI 0, vI 0, vI 0])), (q1, aI (cy 1) 1408 (fun _ => 0)), (q2, aI (cy 1) 1408 (fun _ => 0)), (q3, aZ (cy 3) 4 (fun _ => false)), (q4, aZ (cy 3) 16800 (fun _ => false))] [(0, .ref h), (1, vI kz), (2, vI cz)] [.ref q4, .ref h] 35
  refine z_putF C hmn hinX8 tyX8 tyX8_ok nmX8 (ci := 10) rfl 0 rfl 7 (by decide) k8 rfl rfl rfl rfl rfl (Nat.le_of_ble_eq_true rfl) dX8_init_35 (ws' := [(h, .inr (10, [vI 0, vI 0, vI 0, .ref q1, .ref q2, .ref q3, vI 0, .ref q4, .null, vI 0, .null, vI 0, .null, vI 0, vI 0, vI 0, vI 0, vI 0, vI 0, vI 0, vI 0, vI 0])), (q1, aI (cy 1) 1408 (fun _ => 0)), (q2, aI (cy 1) 1408 (fun _ => 0)), (q3, aZ (cy 3) 4 (fun _ => false)), (q4, aZ (cy 3) 16800 (fun _ => false))]) rfl ?_
  refine z_aload_n C dX8_init_38 0 rfl ?_
  refine z_bipush C (z := 24) dX8_init_39 (by decide) ?_
  refine z_newaI C 24 (rfl) (Nat.le_of_ble_eq_true rfl) k3 1 rfl (Nat.le_of_ble_eq_true rfl) (Nat.le_of_ble_eq_true rfl) dX8_init_41 (fun q5 => ?_)
  show V 5 19644 [(h, .inr (10, [vI 0, vI 0, vI 0, .ref q1, .ref q2, .ref q3, vI 0, .ref q4, .null, vI 0, .null, vI 0, .null, vI 0, vI 0, vI 0, vI 0, vI 0, vI 0, vI 0, vI 0, vI 0])), (q1, aI (cy 1) 1408 (fun _ => 0)), (q2, aI (cy 1) 1408 (fun _ => 0)), (q3, aZ (cy 3) 4 (fun _ => false)), (q4, aZ (cy 3) 16800 (fun _ => false)), (q5, aI (cy 1) 24 (fun _ => 0))] [(0, .ref h), (1, vI kz), (2, vI cz)] [.ref q5, .ref h] 43
  refine z_putF C hmn hinX8 tyX8 tyX8_ok nmX8 (ci := 10) rfl 0 rfl 8 (by decide) k9 rfl rfl rfl rfl rfl (Nat.le_of_ble_eq_true rfl) dX8_init_43 (ws' := [(h, .inr (10, [vI 0, vI 0, vI 0, .ref q1, .ref q2, .ref q3, vI 0, .ref q4, .ref q5, vI 0, .null, vI 0, .null, vI 0, vI 0, vI 0, vI 0, vI 0, vI 0, vI 0, vI 0, vI 0])), (q1, aI (cy 1) 1408 (fun _ => 0)), (q2, aI (cy 1) 1408 (fun _ => 0)), (q3, aZ (cy 3) 4 (fun _ => false)), (q4, aZ (cy 3) 16800 (fun _ => false)), (q5, aI (cy 1) 24 (fun _ => 0))]) rfl ?_
  refine z_aload_n C dX8_init_46 0 rfl ?_
  refine z_sipush C (z := 400) dX8_init_47 (by decide) ?_
  refine z_newaI C 400 (rfl) (Nat.le_of_ble_eq_true rfl) k3 1 rfl (Nat.le_of_ble_eq_true rfl) (Nat.le_of_ble_eq_true rfl) dX8_init_50 (fun q6 => ?_)
  show V 6 20044 [(h, .inr (10, [vI 0, vI 0, vI 0, .ref q1, .ref q2, .ref q3, vI 0, .ref q4, .ref q5, vI 0, .null, vI 0, .null, vI 0, vI 0, vI 0, vI 0, vI 0, vI 0, vI 0, vI 0, vI 0])), (q1, aI (cy 1) 1408 (fun _ => 0)), (q2, aI (cy 1) 1408 (fun _ => 0)), (q3, aZ (cy 3) 4 (fun _ => false)), (q4, aZ (cy 3) 16800 (fun _ => false)), (q5, aI (cy 1) 24 (fun _ => 0)), (q6, aI (cy 1) 400 (fun _ => 0))] [(0, .ref h), (1, vI kz), (2, vI cz)] [.ref q6, .ref h] 52
  refine z_putF C hmn hinX8 tyX8 tyX8_ok nmX8 (ci := 10) rfl 0 rfl 10 (by decide) k10 rfl rfl rfl rfl rfl (Nat.le_of_ble_eq_true rfl) dX8_init_52 (ws' := [(h, .inr (10, [vI 0, vI 0, vI 0, .ref q1, .ref q2, .ref q3, vI 0, .ref q4, .ref q5, vI 0, .ref q6, vI 0, .null, vI 0, vI 0, vI 0, vI 0, vI 0, vI 0, vI 0, vI 0, vI 0])), (q1, aI (cy 1) 1408 (fun _ => 0)), (q2, aI (cy 1) 1408 (fun _ => 0)), (q3, aZ (cy 3) 4 (fun _ => false)), (q4, aZ (cy 3) 16800 (fun _ => false)), (q5, aI (cy 1) 24 (fun _ => 0)), (q6, aI (cy 1) 400 (fun _ => 0))]) rfl ?_
  refine z_aload_n C dX8_init_55 0 rfl ?_
  refine z_ldc C (z := 140000) k11 dX8_init_56 ?_
  refine z_newaZ C 140000 (rfl) (Nat.le_of_ble_eq_true rfl) k6 3 rfl (Nat.le_of_ble_eq_true rfl) (Nat.le_of_ble_eq_true rfl) dX8_init_58 (fun q7 => ?_)
  show V 7 160044 [(h, .inr (10, [vI 0, vI 0, vI 0, .ref q1, .ref q2, .ref q3, vI 0, .ref q4, .ref q5, vI 0, .ref q6, vI 0, .null, vI 0, vI 0, vI 0, vI 0, vI 0, vI 0, vI 0, vI 0, vI 0])), (q1, aI (cy 1) 1408 (fun _ => 0)), (q2, aI (cy 1) 1408 (fun _ => 0)), (q3, aZ (cy 3) 4 (fun _ => false)), (q4, aZ (cy 3) 16800 (fun _ => false)), (q5, aI (cy 1) 24 (fun _ => 0)), (q6, aI (cy 1) 400 (fun _ => 0)), (q7, aZ (cy 3) 140000 (fun _ => false))] [(0, .ref h), (1, vI kz), (2, vI cz)] [.ref q7, .ref h] 60
  refine z_putF C hmn hinX8 tyX8 tyX8_ok nmX8 (ci := 10) rfl 0 rfl 12 (by decide) k12 rfl rfl rfl rfl rfl (Nat.le_of_ble_eq_true rfl) dX8_init_60 (ws' := [(h, .inr (10, [vI 0, vI 0, vI 0, .ref q1, .ref q2, .ref q3, vI 0, .ref q4, .ref q5, vI 0, .ref q6, vI 0, .ref q7, vI 0, vI 0, vI 0, vI 0, vI 0, vI 0, vI 0, vI 0, vI 0])), (q1, aI (cy 1) 1408 (fun _ => 0)), (q2, aI (cy 1) 1408 (fun _ => 0)), (q3, aZ (cy 3) 4 (fun _ => false)), (q4, aZ (cy 3) 16800 (fun _ => false)), (q5, aI (cy 1) 24 (fun _ => 0)), (q6, aI (cy 1) 400 (fun _ => 0)), (q7, aZ (cy 3) 140000 (fun _ => false))]) rfl ?_
  have J82 : ∀ (kd : Int), (kd = kdOf kz) → V 7 160044 [(h, .inr (10, [vI 0, vI 0, vI 0, .ref q1, .ref q2, .ref q3, vI 0, .ref q4, .ref q5, vI 0, .ref q6, vI 0, .ref q7, vI 0, vI 0, vI 0, vI 0, vI 0, vI 0, vI 0, vI 0, vI 0])), (q1, aI (cy 1) 1408 (fun _ => 0)), (q2, aI (cy 1) 1408 (fun _ => 0)), (q3, aZ (cy 3) 4 (fun _ => false)), (q4, aZ (cy 3) 16800 (fun _ => false)), (q5, aI (cy 1) 24 (fun _ => 0)), (q6, aI (cy 1) 400 (fun _ => 0)), (q7, aZ (cy 3) 140000 (fun _ => false))] [(0, .ref h), (1, vI kz), (2, vI cz)] [vI kd, .ref h] 82 := by
    intro kd ekd
    refine z_putF C hmn hinX8 tyX8 tyX8_ok nmX8 (ci := 10) rfl 0 rfl 1 (by decide) k13 rfl rfl rfl rfl rfl (Nat.le_of_ble_eq_true rfl) dX8_init_82 (ws' := [(h, .inr (10, [vI 0, vI kd, vI 0, .ref q1, .ref q2, .ref q3, vI 0, .ref q4, .ref q5, vI 0, .ref q6, vI 0, .ref q7, vI 0, vI 0, vI 0, vI 0, vI 0, vI 0, vI 0, vI 0, vI 0])), (q1, aI (cy 1) 1408 (fun _ => 0)), (q2, aI (cy 1) 1408 (fun _ => 0)), (q3, aZ (cy 3) 4 (fun _ => false)), (q4, aZ (cy 3) 16800 (fun _ => false)), (q5, aI (cy 1) 24 (fun _ => 0)), (q6, aI (cy 1) 400 (fun _ => 0)), (q7, aZ (cy 3) 140000 (fun _ => false))]) rfl ?_
    have J109 : ∀ (co : Int), (co = coOf cz) → V 7 160044 [(h, .inr (10, [vI 0, vI kd, vI 0, .ref q1, .ref q2, .ref q3, vI 0, .ref q4, .ref q5, vI 0, .ref q6, vI 0, .ref q7, vI 0, vI 0, vI 0, vI 0, vI 0, vI 0, vI 0, vI 0, vI 0])), (q1, aI (cy 1) 1408 (fun _ => 0)), (q2, aI (cy 1) 1408 (fun _ => 0)), (q3, aZ (cy 3) 4 (fun _ => false)), (q4, aZ (cy 3) 16800 (fun _ => false)), (q5, aI (cy 1) 24 (fun _ => 0)), (q6, aI (cy 1) 400 (fun _ => 0)), (q7, aZ (cy 3) 140000 (fun _ => false))] [(0, .ref h), (1, vI kz), (2, vI cz)] [vI co, .ref h] 109 := by
      intro co eco
      refine z_putF C hmn hinX8 tyX8 tyX8_ok nmX8 (ci := 10) rfl 0 rfl 2 (by decide) k14 rfl rfl rfl rfl rfl (Nat.le_of_ble_eq_true rfl) dX8_init_109 (ws' := [(h, .inr (10, [vI 0, vI kd, vI co, .ref q1, .ref q2, .ref q3, vI 0, .ref q4, .ref q5, vI 0, .ref q6, vI 0, .ref q7, vI 0, vI 0, vI 0, vI 0, vI 0, vI 0, vI 0, vI 0, vI 0])), (q1, aI (cy 1) 1408 (fun _ => 0)), (q2, aI (cy 1) 1408 (fun _ => 0)), (q3, aZ (cy 3) 4 (fun _ => false)), (q4, aZ (cy 3) 16800 (fun _ => false)), (q5, aI (cy 1) 24 (fun _ => 0)), (q6, aI (cy 1) 400 (fun _ => 0)), (q7, aZ (cy 3) 140000 (fun _ => false))]) rfl ?_
      refine z_aeq C 1 (LG mk0) rfl (fun i _ => by rw [mk0, LG_0]) (ws' := [(h, .inr (10, [vI 0, vI kd, vI co, .ref q1, .ref q2, .ref q3, vI 0, .ref q4, .ref q5, vI 0, .ref q6, vI 0, .ref q7, vI 0, vI 0, vI 0, vI 0, vI 0, vI 0, vI 0, vI 0, vI 0])), (q1, aI (cy 1) 1408 (LG mk0)), (q2, aI (cy 1) 1408 (fun _ => 0)), (q3, aZ (cy 3) 4 (fun _ => false)), (q4, aZ (cy 3) 16800 (fun _ => false)), (q5, aI (cy 1) 24 (fun _ => 0)), (q6, aI (cy 1) 400 (fun _ => 0)), (q7, aZ (cy 3) 140000 (fun _ => false))]) rfl ?_
      refine z_aeq C 2 (LG mk0) rfl (fun i _ => by rw [mk0, LG_0]) (ws' := [(h, .inr (10, [vI 0, vI kd, vI co, .ref q1, .ref q2, .ref q3, vI 0, .ref q4, .ref q5, vI 0, .ref q6, vI 0, .ref q7, vI 0, vI 0, vI 0, vI 0, vI 0, vI 0, vI 0, vI 0, vI 0])), (q1, aI (cy 1) 1408 (LG mk0)), (q2, aI (cy 1) 1408 (LG mk0)), (q3, aZ (cy 3) 4 (fun _ => false)), (q4, aZ (cy 3) 16800 (fun _ => false)), (q5, aI (cy 1) 24 (fun _ => 0)), (q6, aI (cy 1) 400 (fun _ => 0)), (q7, aZ (cy 3) 140000 (fun _ => false))]) rfl ?_
      exact J112 (fun i => match i with | 0 => h | 1 => q1 | 2 => q2 | 3 => q3 | 4 => q4 | 5 => q5 | 6 => q6 | _ => q7) kd co rfl ekd eco
    refine z_aload_n C dX8_init_85 0 rfl ?_
    refine z_iload_n C dX8_init_86 2 rfl ?_
    refine z_iconst C (z := 1) dX8_init_87 ?_
    refine z_icmp_ge C (by omega) (by decide) (tgt := 95) dX8_init_88 (by decide) (fun hc_8 => ?_) (fun hc_8 => ?_)
    · refine z_iload_n C dX8_init_95 2 rfl ?_
      refine z_sipush C (z := 700) dX8_init_96 (by decide) ?_
      refine z_icmp_le C (by omega) (by decide) (tgt := 108) dX8_init_99 (by decide) (fun hc_9 => ?_) (fun hc_9 => ?_)
      · refine z_iload_n C dX8_init_108 2 rfl ?_
        exact J109 cz (by unfold coOf; repeat (first | rw [if_pos (by omega)] | rw [if_neg (by omega)]))
      · refine z_sipush C (z := 700) dX8_init_102 (by decide) ?_
        refine z_goto C (tgt := 109) dX8_init_105 (by decide) ?_
        exact J109 700 (by unfold coOf; repeat (first | rw [if_pos (by omega)] | rw [if_neg (by omega)]))
    · refine z_iconst C (z := 1) dX8_init_91 ?_
      refine z_goto C (tgt := 109) dX8_init_92 (by decide) ?_
      exact J109 1 (by unfold coOf; repeat (first | rw [if_pos (by omega)] | rw [if_neg (by omega)]))
  refine z_aload_n C dX8_init_63 0 rfl ?_
  refine z_iload_n C dX8_init_64 1 rfl ?_
  refine z_if_ge C (by omega) (tgt := 72) dX8_init_65 (by decide) (fun hc_10 => ?_) (fun hc_10 => ?_)
  · refine z_iload_n C dX8_init_72 1 rfl ?_
    refine z_iconst C (z := 2) dX8_init_73 ?_
    refine z_icmp_le C (by omega) (by decide) (tgt := 81) dX8_init_74 (by decide) (fun hc_11 => ?_) (fun hc_11 => ?_)
    · refine z_iload_n C dX8_init_81 1 rfl ?_
      exact J82 kz (by unfold kdOf; repeat (first | rw [if_pos (by omega)] | rw [if_neg (by omega)]))
    · refine z_iconst C (z := 2) dX8_init_77 ?_
      refine z_goto C (tgt := 82) dX8_init_78 (by decide) ?_
      exact J82 2 (by unfold kdOf; repeat (first | rw [if_pos (by omega)] | rw [if_neg (by omega)]))
  · refine z_iconst C (z := 0) dX8_init_68 ?_
    refine z_goto C (tgt := 82) dX8_init_69 (by decide) ?_
    exact J82 0 (by unfold kdOf; repeat (first | rw [if_pos (by omega)] | rw [if_neg (by omega)]))
