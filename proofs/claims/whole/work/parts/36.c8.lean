theorem kn_X3_reachRow : zKn yX3_reachRow wsX3_reachRow cX3_reachRow 3 (some .boolean) 0 := ⟨⟨_, rfl⟩, by decide +kernel, by decide +kernel, by decide +kernel⟩
set_option maxHeartbeats 2000000 in
set_option maxRecDepth 100000 in
theorem c_X3_reachRow (l : Launch) (D : va_G) (cy : Nat → ClassId) (tw : Nat → Nat) (a : Nat → Nat) (kd : Int) (co : Int) (mk : Bool) (al : Bool) (dz : Bool) (rd : Bool) (rw : Int) (wo : Nat → BitVec 64) (sa : Nat → Int) (sz : Int) (ps : Int) (bt : Nat → Int) (ou : Nat → BitVec 64) (bi : Int) (dm : Int) (pl : Bool) (re : Int) (cu : Bool)   (hk : 0 ≤ kd ∧ kd ≤ 2) (h0 : 0 ≤ sz ∧ sz ≤ 400) (h1 : 0 ≤ ps ∧ ps ≤ 8 * sz) : zMet l yX3_reachRow wsX3_reachRow { frames := 3, cells := 0, slots := 0, locals := 65 } D (zT cy) tw (CW cy a kd co mk al dz rd rw wo sa sz ps bt ou bi dm pl re cu) [.ref (a 8)] 0 0 (S := Bool) (fun _ => some (vI (b2i (hd (inC bt sz) (8 * sz) kd mk al ps).1))) (fun u => CW cy a kd co mk al dz rd rw wo sa sz ((hd (inC bt sz) (8 * sz) kd mk al ps).2.2) bt ou bi dm u re cu) (fun u => (hd (inC bt sz) (8 * sz) kd mk al ps).1 = true → u = (hd (inC bt sz) (8 * sz) kd mk al ps).2.1) := by
  refine z_met (cc := cX3_reachRow) (nL := 3) (ret := some .boolean) (by decide +kernel) rfl (Nat.le_of_ble_eq_true rfl) (lv := [(0, .ref (a 8))]) rfl ?_
  intro V p_ e_ s_ m_ args_ below_ meth_ c_ A_ C hmn
  have hinX3 : ∀ w ∈ u_ws RX3 TX3 9, w ∈ wsX3_reachRow := by decide +kernel
  have hinX5 : ∀ w ∈ u_ws RX5 TX5 5, w ∈ wsX3_reachRow := by decide +kernel
  have k0 : Cond.fieldLink RX3 9 "FaxFilter$Receiver" "settings" "LFaxFilter$Settings;" ∈ wsX3_reachRow := List.mem_of_getElem? (i := 1) rfl
  have k1 : Cond.fieldLink RX3 53 "FaxFilter$Settings" "kind" "I" ∈ wsX3_reachRow := List.mem_of_getElem? (i := 3) rfl
  have k2 : Cond.fieldLink RX3 56 "FaxFilter$Receiver" "isPlain" "Z" ∈ wsX3_reachRow := List.mem_of_getElem? (i := 4) rfl
  have k3 : Cond.fieldLink RX3 72 "FaxFilter$Settings" "aligned" "Z" ∈ wsX3_reachRow := List.mem_of_getElem? (i := 5) rfl
  have k4 : Cond.fieldLink RX3 26 "FaxFilter$Receiver" "in" "LFaxFilter$BitsIn;" ∈ wsX3_reachRow := List.mem_of_getElem? (i := 2) rfl
  refine z_aload_n C dX3_reachRow_0 0 rfl ?_
  refine z_get C hinX3 (ci := 5) rfl 8 rfl 1 (by decide) k0 rfl (v := .ref (a 1)) rfl dX3_reachRow_1 ?_
  refine z_callV C (As := []) (st := []) (c_X5_hasMarks l D cy tw a kd co mk al dz rd rw wo sa sz ps bt ou bi dm pl re cu   (by omega)) gX3_reachRow_X5_hasMarks kn_X5_hasMarks rfl ⟨rfl, rfl, Nat.le_of_ble_eq_true rfl, Nat.le_of_ble_eq_true rfl⟩ 1 rfl (ci := 7) rfl rfl (Nat.le_of_ble_eq_true rfl) ⟨Nat.le_of_ble_eq_true rfl, Nat.le_of_ble_eq_true rfl⟩ dX3_reachRow_4 (fun u1 hu1 => ?_)
  clear hu1; clear u1
  show V 0 0 (CW cy a kd co mk al dz rd rw wo sa sz ps bt ou bi dm pl re cu) [(0, .ref (a 8))] [vI (b2i (hasMk kd mk))] 7
  refine z_nmZ (fun mm emm => ?_)
  refine z_istore_n C (lv' := [(1, vI (b2i mm)), (0, .ref (a 8))]) dX3_reachRow_7 rfl (by decide) rfl ?_
  refine z_iload_n C dX3_reachRow_8 0 rfl ?_
  refine z_ifz C (tgt := 24) dX3_reachRow_9 (by decide) (fun cm => ?_) (fun cm => ?_)
  · have hk1 : ¬ kd = 1 := by intro z; rw [emm, hasMk, decide_eq_true z] at cm; exact absurd cm (by simp)
    refine z_aload_n C dX3_reachRow_24 1 rfl ?_
    refine z_aload_n C dX3_reachRow_25 1 rfl ?_
    refine z_get C hinX3 (ci := 5) rfl 8 rfl 1 (by decide) k0 rfl (v := .ref (a 1)) rfl dX3_reachRow_26 ?_
    refine z_get C hinX5 (ci := 7) rfl 1 rfl 0 (by decide) k1 rfl (v := vI kd) rfl dX3_reachRow_29 ?_
    refine z_selz C (fun z => decide (z = 0)) (by omega) (Or.inr (Or.inl ⟨rfl, rfl⟩)) dX3_reachRow_32 dX3_reachRow_35 dX3_reachRow_36 dX3_reachRow_39 ?_
    refine z_put C hinX3 tyX3 tyX3_ok nmX3 (ci := 5) rfl 8 rfl 6 (by decide) k2 rfl rfl (z_narZ (decide (kd = 0))).1 (z_narZ (decide (kd = 0))).2 (Nat.le_of_ble_eq_true rfl) dX3_reachRow_40 (ws' := CW cy a kd co mk al dz rd rw wo sa sz ps bt ou bi dm (decide (kd = 0)) re cu) rfl ?_
    refine z_aload_n C dX3_reachRow_43 1 rfl ?_
    refine z_get C hinX3 (ci := 5) rfl 8 rfl 1 (by decide) k0 rfl (v := .ref (a 1)) rfl dX3_reachRow_44 ?_
    refine z_get C hinX5 (ci := 7) rfl 1 rfl 0 (by decide) k1 rfl (v := vI kd) rfl dX3_reachRow_47 ?_
    refine z_iconst C (z := 1) dX3_reachRow_50 ?_
    refine z_icmp_ne C (by omega) (by decide) (tgt := 96) dX3_reachRow_51 (by decide) (fun hc_2 => ?_) (fun hc_2 => ?_)
    · refine z_iload_n C dX3_reachRow_96 0 rfl ?_
      refine z_ifnz C (tgt := 117) dX3_reachRow_97 (by decide) (fun hc_3 => ?_) (fun hc_3 => ?_)
      · exfalso; rw [cm] at hc_3; exact absurd hc_3 (by decide)
      · refine z_aload_n C dX3_reachRow_100 1 rfl ?_
        refine z_get C hinX3 (ci := 5) rfl 8 rfl 1 (by decide) k0 rfl (v := .ref (a 1)) rfl dX3_reachRow_101 ?_
        refine z_get C hinX5 (ci := 7) rfl 1 rfl 2 (by decide) k3 rfl (v := vI (b2i al)) rfl dX3_reachRow_104 ?_
        refine z_ifz C (tgt := 117) dX3_reachRow_107 (by decide) (fun ca => ?_) (fun ca => ?_)
        · refine z_iload_n C dX3_reachRow_117 0 rfl ?_
          refine z_ifnz C (tgt := 132) dX3_reachRow_118 (by decide) (fun hc_4 => ?_) (fun hc_4 => ?_)
          · exfalso; rw [cm] at hc_4; exact absurd hc_4 (by decide)
          · refine z_aload_n C dX3_reachRow_121 1 rfl ?_
            refine z_get C hinX3 (ci := 5) rfl 8 rfl 1 (by decide) k0 rfl (v := .ref (a 1)) rfl dX3_reachRow_122 ?_
            refine z_get C hinX5 (ci := 7) rfl 1 rfl 0 (by decide) k1 rfl (v := vI kd) rfl dX3_reachRow_125 ?_
            refine z_iconst C (z := 2) dX3_reachRow_128 ?_
            refine z_icmp_ne C (by omega) (by decide) (tgt := 136) dX3_reachRow_129 (by decide) (fun hc_5 => ?_) (fun hc_5 => ?_)
            · refine z_iconst C (z := 0) dX3_reachRow_136 ?_
              refine z_istore_n C (lv' := [(2, vI 0), (1, vI (b2i mm)), (0, .ref (a 8))]) dX3_reachRow_137 rfl (by decide) rfl ?_
              refine z_iload_n C dX3_reachRow_138 0 rfl ?_
              refine z_if_eq C (by decide) (tgt := 152) dX3_reachRow_139 (by decide) (fun hc_6 => ?_) (fun hc_6 => ?_)
              rotate_left; · exact absurd hc_6 (by decide)
              refine z_iconst C (z := 1) dX3_reachRow_152 ?_
              refine z_goto C (tgt := 157) dX3_reachRow_153 (by decide) ?_
              have i4 : hd (inC bt sz) (8 * sz) kd mk al ps = (true, true, ps) := by
                rw [hd, ← emm, cm, if_neg (by decide), if_neg (by omega), ca, if_neg (by decide)]
              
              refine z_zret (b := true) C dX3_reachRow_157 (decide (kd = 0)) ?_ ?_ ?_ (by decide) (by decide)
              · rw [i4]
              · rw [i4]; intro _
                show decide (kd = 0) = _; first | exact decide_eq_true (by omega) | exact decide_eq_false (by omega)
              · rw [i4]
            · refine z_iconst C (z := 1) dX3_reachRow_132 ?_
              refine z_goto C (tgt := 137) dX3_reachRow_133 (by decide) ?_
              refine z_istore_n C (lv' := [(2, vI 1), (1, vI (b2i mm)), (0, .ref (a 8))]) dX3_reachRow_137 rfl (by decide) rfl ?_
              refine z_iload_n C dX3_reachRow_138 0 rfl ?_
              refine z_if_eq C (by decide) (tgt := 152) dX3_reachRow_139 (by decide) (fun hc_7 => ?_) (fun hc_7 => ?_)
              · exact absurd hc_7 (by decide)
              refine z_aload_n C dX3_reachRow_142 2 rfl ?_
              refine z_get C hinX3 (ci := 5) rfl 8 rfl 5 (by decide) k4 rfl (v := .ref (a 5)) rfl dX3_reachRow_143 ?_
              refine z_callV C (As := []) (st := []) (c_X0_isMarkNext l D cy tw a kd co mk al dz rd rw wo sa sz ps bt ou bi dm (decide (kd = 0)) re cu   (by omega) (by omega)) gX3_reachRow_X0_isMarkNext kn_X0_isMarkNext rfl ⟨rfl, rfl, Nat.le_of_ble_eq_true rfl, Nat.le_of_ble_eq_true rfl⟩ 5 rfl (ci := 2) rfl rfl (Nat.le_of_ble_eq_true rfl) ⟨Nat.le_of_ble_eq_true rfl, Nat.le_of_ble_eq_true rfl⟩ dX3_reachRow_146 (fun u8 hu8 => ?_)
              clear hu8; clear u8
              show V 0 0 (CW cy a kd co mk al dz rd rw wo sa sz ps bt ou bi dm (decide (kd = 0)) re cu) [(2, vI 1), (1, vI (b2i mm)), (0, .ref (a 8))] [vI (b2i (isMk (inC bt sz) (8 * sz) ps))] 149
              refine z_not C dX3_reachRow_149 dX3_reachRow_152 dX3_reachRow_153 dX3_reachRow_156 ?_
              have i4 : hd (inC bt sz) (8 * sz) kd mk al ps = (!isMk (inC bt sz) (8 * sz) (ps), false, ps) := by
                rw [hd, ← emm, cm, if_neg (by decide), if_pos (by omega), ca, if_neg (by decide)]
              
              refine z_zret (b := (!(isMk (inC bt sz) (8 * sz) ps))) C dX3_reachRow_157 (decide (kd = 0)) ?_ ?_ ?_ (by decide) (by decide)
              · rw [i4]
              · rw [i4]; intro _
                show decide (kd = 0) = _; first | exact decide_eq_true (by omega) | exact decide_eq_false (by omega)
              · rw [i4]
        · refine z_aload_n C dX3_reachRow_110 1 rfl ?_
          refine z_get C hinX3 (ci := 5) rfl 8 rfl 5 (by decide) k4 rfl (v := .ref (a 5)) rfl dX3_reachRow_111 ?_
          refine z_callV C (As := []) (st := []) (c_X0_passToByteE l D cy tw a kd co mk al dz rd rw wo sa sz ps bt ou bi dm (decide (kd = 0)) re cu   (by omega) (by omega)) gX3_reachRow_X0_passToByte kn_X0_passToByte rfl ⟨rfl, rfl, Nat.le_of_ble_eq_true rfl, Nat.le_of_ble_eq_true rfl⟩ 5 rfl (ci := 2) rfl rfl (Nat.le_of_ble_eq_true rfl) ⟨Nat.le_of_ble_eq_true rfl, Nat.le_of_ble_eq_true rfl⟩ dX3_reachRow_114 (fun u9 hu9 => ?_)
          clear hu9; clear u9
          show V 0 0 (CW cy a kd co mk al dz rd rw wo sa sz (ps + -ps % 2 ^ 3) bt ou bi dm (decide (kd = 0)) re cu) [(1, vI (b2i mm)), (0, .ref (a 8))] [] 117
          refine z_iload_n C dX3_reachRow_117 0 rfl ?_
          refine z_ifnz C (tgt := 132) dX3_reachRow_118 (by decide) (fun hc_10 => ?_) (fun hc_10 => ?_)
          · exfalso; rw [cm] at hc_10; exact absurd hc_10 (by decide)
          · refine z_aload_n C dX3_reachRow_121 1 rfl ?_
            refine z_get C hinX3 (ci := 5) rfl 8 rfl 1 (by decide) k0 rfl (v := .ref (a 1)) rfl dX3_reachRow_122 ?_
            refine z_get C hinX5 (ci := 7) rfl 1 rfl 0 (by decide) k1 rfl (v := vI kd) rfl dX3_reachRow_125 ?_
            refine z_iconst C (z := 2) dX3_reachRow_128 ?_
            refine z_icmp_ne C (by omega) (by decide) (tgt := 136) dX3_reachRow_129 (by decide) (fun hc_11 => ?_) (fun hc_11 => ?_)
            · refine z_iconst C (z := 0) dX3_reachRow_136 ?_
              refine z_istore_n C (lv' := [(2, vI 0), (1, vI (b2i mm)), (0, .ref (a 8))]) dX3_reachRow_137 rfl (by decide) rfl ?_
              refine z_iload_n C dX3_reachRow_138 0 rfl ?_
              refine z_if_eq C (by decide) (tgt := 152) dX3_reachRow_139 (by decide) (fun hc_12 => ?_) (fun hc_12 => ?_)
              rotate_left; · exact absurd hc_12 (by decide)
              refine z_iconst C (z := 1) dX3_reachRow_152 ?_
              refine z_goto C (tgt := 157) dX3_reachRow_153 (by decide) ?_
              have i4 : hd (inC bt sz) (8 * sz) kd mk al ps = (true, true, ps + -ps % 2 ^ 3) := by
                rw [hd, ← emm, cm, if_neg (by decide), if_neg (by omega), ca, if_pos rfl]
              
              refine z_zret (b := true) C dX3_reachRow_157 (decide (kd = 0)) ?_ ?_ ?_ (by decide) (by decide)
              · rw [i4]
              · rw [i4]; intro _
                show decide (kd = 0) = _; first | exact decide_eq_true (by omega) | exact decide_eq_false (by omega)
              · rw [i4]
            · refine z_iconst C (z := 1) dX3_reachRow_132 ?_
              refine z_goto C (tgt := 137) dX3_reachRow_133 (by decide) ?_
              refine z_istore_n C (lv' := [(2, vI 1), (1, vI (b2i mm)), (0, .ref (a 8))]) dX3_reachRow_137 rfl (by decide) rfl ?_
              refine z_iload_n C dX3_reachRow_138 0 rfl ?_
              refine z_if_eq C (by decide) (tgt := 152) dX3_reachRow_139 (by decide) (fun hc_13 => ?_) (fun hc_13 => ?_)
              · exact absurd hc_13 (by decide)
              refine z_aload_n C dX3_reachRow_142 2 rfl ?_
              refine z_get C hinX3 (ci := 5) rfl 8 rfl 5 (by decide) k4 rfl (v := .ref (a 5)) rfl dX3_reachRow_143 ?_
              refine z_callV C (As := []) (st := []) (c_X0_isMarkNext l D cy tw a kd co mk al dz rd rw wo sa sz (ps + -ps % 2 ^ 3) bt ou bi dm (decide (kd = 0)) re cu   (by omega) (by omega)) gX3_reachRow_X0_isMarkNext kn_X0_isMarkNext rfl ⟨rfl, rfl, Nat.le_of_ble_eq_true rfl, Nat.le_of_ble_eq_true rfl⟩ 5 rfl (ci := 2) rfl rfl (Nat.le_of_ble_eq_true rfl) ⟨Nat.le_of_ble_eq_true rfl, Nat.le_of_ble_eq_true rfl⟩ dX3_reachRow_146 (fun u14 hu14 => ?_)
              clear hu14; clear u14
              show V 0 0 (CW cy a kd co mk al dz rd rw wo sa sz (ps + -ps % 2 ^ 3) bt ou bi dm (decide (kd = 0)) re cu) [(2, vI 1), (1, vI (b2i mm)), (0, .ref (a 8))] [vI (b2i (isMk (inC bt sz) (8 * sz) (ps + -ps % 2 ^ 3)))] 149
              refine z_not C dX3_reachRow_149 dX3_reachRow_152 dX3_reachRow_153 dX3_reachRow_156 ?_
              have i4 : hd (inC bt sz) (8 * sz) kd mk al ps = (!isMk (inC bt sz) (8 * sz) (ps + -ps % 2 ^ 3), false, ps + -ps % 2 ^ 3) := by
                rw [hd, ← emm, cm, if_neg (by decide), if_pos (by omega), ca, if_pos rfl]
              
              refine z_zret (b := (!(isMk (inC bt sz) (8 * sz) (ps + -ps % 2 ^ 3)))) C dX3_reachRow_157 (decide (kd = 0)) ?_ ?_ ?_ (by decide) (by decide)
              · rw [i4]
              · rw [i4]; intro _
                show decide (kd = 0) = _; first | exact decide_eq_true (by omega) | exact decide_eq_false (by omega)
              · rw [i4]
    · exfalso; omega
  · have hk2 : kd = 0 ∨ kd = 1 := by rw [emm, hasMk] at cm; simp only [Bool.or_eq_true, Bool.and_eq_true, decide_eq_true_eq] at cm; omega
    have hfr := fmk_rg (inC bt sz) (8 * sz) ps 0
    refine z_aload_n C dX3_reachRow_12 1 rfl ?_
    refine z_get C hinX3 (ci := 5) rfl 8 rfl 5 (by decide) k4 rfl (v := .ref (a 5)) rfl dX3_reachRow_13 ?_
    refine z_callV C (As := []) (st := []) (c_X0_passMark l D cy tw a kd co mk al dz rd rw wo sa sz ps bt ou bi dm pl re cu   (by omega) (by omega)) gX3_reachRow_X0_passMark kn_X0_passMark rfl ⟨rfl, rfl, Nat.le_of_ble_eq_true rfl, Nat.le_of_ble_eq_true rfl⟩ 5 rfl (ci := 2) rfl rfl (Nat.le_of_ble_eq_true rfl) ⟨Nat.le_of_ble_eq_true rfl, Nat.le_of_ble_eq_true rfl⟩ dX3_reachRow_16 (fun u15 hu15 => ?_)
    clear hu15; clear u15
    show V 0 0 (CW cy a kd co mk al dz rd rw wo sa sz (if 0 ≤ fmk (inC bt sz) (8 * sz) ps 0 then fmk (inC bt sz) (8 * sz) ps 0 else 8 * sz) bt ou bi dm pl re cu) [(1, vI (b2i mm)), (0, .ref (a 8))] [vI (b2i (decide (0 ≤ fmk (inC bt sz) (8 * sz) ps 0)))] 19
    obtain ⟨p1, ep1⟩ : ∃ z, z = (if 0 ≤ fmk (inC bt sz) (8 * sz) ps 0 then fmk (inC bt sz) (8 * sz) ps 0 else 8 * sz) := ⟨_, rfl⟩
    rw [← ep1]
    refine z_nmZ (fun ok1 eok1 => ?_)
    refine z_ifnz C (tgt := 24) dX3_reachRow_19 (by decide) (fun ck => ?_) (fun ck => ?_)
    · have hf : 0 ≤ fmk (inC bt sz) (8 * sz) ps 0 := by rw [eok1] at ck; exact of_decide_eq_true ck
      rw [if_pos hf] at ep1
      have hp1 := ep1
      refine z_aload_n C dX3_reachRow_24 1 rfl ?_
      refine z_aload_n C dX3_reachRow_25 1 rfl ?_
      refine z_get C hinX3 (ci := 5) rfl 8 rfl 1 (by decide) k0 rfl (v := .ref (a 1)) rfl dX3_reachRow_26 ?_
      refine z_get C hinX5 (ci := 7) rfl 1 rfl 0 (by decide) k1 rfl (v := vI kd) rfl dX3_reachRow_29 ?_
      refine z_selz C (fun z => decide (z = 0)) (by omega) (Or.inr (Or.inl ⟨rfl, rfl⟩)) dX3_reachRow_32 dX3_reachRow_35 dX3_reachRow_36 dX3_reachRow_39 ?_
      refine z_put C hinX3 tyX3 tyX3_ok nmX3 (ci := 5) rfl 8 rfl 6 (by decide) k2 rfl rfl (z_narZ (decide (kd = 0))).1 (z_narZ (decide (kd = 0))).2 (Nat.le_of_ble_eq_true rfl) dX3_reachRow_40 (ws' := CW cy a kd co mk al dz rd rw wo sa sz p1 bt ou bi dm (decide (kd = 0)) re cu) rfl ?_
      refine z_aload_n C dX3_reachRow_43 1 rfl ?_
      refine z_get C hinX3 (ci := 5) rfl 8 rfl 1 (by decide) k0 rfl (v := .ref (a 1)) rfl dX3_reachRow_44 ?_
      refine z_get C hinX5 (ci := 7) rfl 1 rfl 0 (by decide) k1 rfl (v := vI kd) rfl dX3_reachRow_47 ?_
      refine z_iconst C (z := 1) dX3_reachRow_50 ?_
      refine z_icmp_ne C (by omega) (by decide) (tgt := 96) dX3_reachRow_51 (by decide) (fun hc_16 => ?_) (fun hc_16 => ?_)
      · refine z_iload_n C dX3_reachRow_96 0 rfl ?_
        refine z_ifnz C (tgt := 117) dX3_reachRow_97 (by decide) (fun hc_17 => ?_) (fun hc_17 => ?_)
        · refine z_iload_n C dX3_reachRow_117 0 rfl ?_
          refine z_ifnz C (tgt := 132) dX3_reachRow_118 (by decide) (fun hc_18 => ?_) (fun hc_18 => ?_)
          · refine z_iconst C (z := 1) dX3_reachRow_132 ?_
            refine z_goto C (tgt := 137) dX3_reachRow_133 (by decide) ?_
            refine z_istore_n C (lv' := [(2, vI 1), (1, vI (b2i mm)), (0, .ref (a 8))]) dX3_reachRow_137 rfl (by decide) rfl ?_
            refine z_iload_n C dX3_reachRow_138 0 rfl ?_
            refine z_if_eq C (by decide) (tgt := 152) dX3_reachRow_139 (by decide) (fun hc_19 => ?_) (fun hc_19 => ?_)
            · exact absurd hc_19 (by decide)
            refine z_aload_n C dX3_reachRow_142 2 rfl ?_
            refine z_get C hinX3 (ci := 5) rfl 8 rfl 5 (by decide) k4 rfl (v := .ref (a 5)) rfl dX3_reachRow_143 ?_
            refine z_callV C (As := []) (st := []) (c_X0_isMarkNext l D cy tw a kd co mk al dz rd rw wo sa sz p1 bt ou bi dm (decide (kd = 0)) re cu   (by omega) (by omega)) gX3_reachRow_X0_isMarkNext kn_X0_isMarkNext rfl ⟨rfl, rfl, Nat.le_of_ble_eq_true rfl, Nat.le_of_ble_eq_true rfl⟩ 5 rfl (ci := 2) rfl rfl (Nat.le_of_ble_eq_true rfl) ⟨Nat.le_of_ble_eq_true rfl, Nat.le_of_ble_eq_true rfl⟩ dX3_reachRow_146 (fun u20 hu20 => ?_)
            clear hu20; clear u20
            show V 0 0 (CW cy a kd co mk al dz rd rw wo sa sz p1 bt ou bi dm (decide (kd = 0)) re cu) [(2, vI 1), (1, vI (b2i mm)), (0, .ref (a 8))] [vI (b2i (isMk (inC bt sz) (8 * sz) p1))] 149
            refine z_not C dX3_reachRow_149 dX3_reachRow_152 dX3_reachRow_153 dX3_reachRow_156 ?_
            have i4 : hd (inC bt sz) (8 * sz) kd mk al ps = (!isMk (inC bt sz) (8 * sz) p1, true, p1) := by
              rw [hd, ← emm, cm, if_pos rfl, if_neg (by omega), if_neg (by omega), ← hp1]
            
            refine z_zret (b := (!(isMk (inC bt sz) (8 * sz) p1))) C dX3_reachRow_157 (decide (kd = 0)) ?_ ?_ ?_ (by decide) (by decide)
            · rw [i4]
            · rw [i4]; intro _
              show decide (kd = 0) = _; first | exact decide_eq_true (by omega) | exact decide_eq_false (by omega)
            · rw [i4]
          · exfalso; rw [cm] at hc_18; exact absurd hc_18 (by decide)
        · exfalso; rw [cm] at hc_17; exact absurd hc_17 (by decide)
      · refine z_aload_n C dX3_reachRow_54 1 rfl ?_
        refine z_get C hinX3 (ci := 5) rfl 8 rfl 5 (by decide) k4 rfl (v := .ref (a 5)) rfl dX3_reachRow_55 ?_
        refine z_callV C (As := []) (st := []) (c_X0_left l D cy tw a kd co mk al dz rd rw wo sa sz p1 bt ou bi dm (decide (kd = 0)) re cu   ) gX3_reachRow_X0_left kn_X0_left rfl ⟨rfl, rfl, Nat.le_of_ble_eq_true rfl, Nat.le_of_ble_eq_true rfl⟩ 5 rfl (ci := 2) rfl rfl (Nat.le_of_ble_eq_true rfl) ⟨Nat.le_of_ble_eq_true rfl, Nat.le_of_ble_eq_true rfl⟩ dX3_reachRow_58 (fun u21 hu21 => ?_)
        clear hu21; clear u21
        show V 0 0 (CW cy a kd co mk al dz rd rw wo sa sz p1 bt ou bi dm (decide (kd = 0)) re cu) [(1, vI (b2i mm)), (0, .ref (a 8))] [vI (8 * sz - p1)] 61
        refine z_iconst C (z := 1) dX3_reachRow_61 ?_
        refine z_icmp_ge C (by omega) (by decide) (tgt := 67) dX3_reachRow_62 (by decide) (fun hc_22 => ?_) (fun hc_22 => ?_)
        · have hpk : pkC bt sz p1 1 = b2i (inC bt sz p1) := by
            rw [pkC_eq (by omega) (by omega)]; show 2 * 0 + b2i (inC bt sz (p1 + 0)) = _; rw [Int.add_zero]; omega
          have hb1 := b2i_01 (inC bt sz p1)
          refine z_aload_n C dX3_reachRow_67 1 rfl ?_
          refine z_aload_n C dX3_reachRow_68 1 rfl ?_
          refine z_get C hinX3 (ci := 5) rfl 8 rfl 5 (by decide) k4 rfl (v := .ref (a 5)) rfl dX3_reachRow_69 ?_
          refine z_iconst C (z := 1) dX3_reachRow_72 ?_
          refine z_callV C (As := [vI 1]) (st := [.ref (a 8)]) (c_X0_peek l D cy tw a kd co mk al dz rd rw wo sa sz p1 bt ou bi dm (decide (kd = 0)) re cu 1  (by omega) (by omega) (by omega)) gX3_reachRow_X0_peek kn_X0_peek rfl ⟨rfl, rfl, Nat.le_of_ble_eq_true rfl, Nat.le_of_ble_eq_true rfl⟩ 5 rfl (ci := 2) rfl rfl (Nat.le_of_ble_eq_true rfl) ⟨Nat.le_of_ble_eq_true rfl, Nat.le_of_ble_eq_true rfl⟩ dX3_reachRow_73 (fun u23 hu23 => ?_)
          clear hu23; clear u23
          show V 0 0 (CW cy a kd co mk al dz rd rw wo sa sz p1 bt ou bi dm (decide (kd = 0)) re cu) [(1, vI (b2i mm)), (0, .ref (a 8))] [vI (pkC bt sz p1 1), .ref (a 8)] 76
          refine z_iconst C (z := 1) dX3_reachRow_76 ?_
          refine z_sel2 C (fun z w => decide (z = w)) (by omega) (by decide) (Or.inr (Or.inl ⟨rfl, rfl⟩)) dX3_reachRow_77 dX3_reachRow_80 dX3_reachRow_81 dX3_reachRow_84 ?_
          refine z_put C hinX3 tyX3 tyX3_ok nmX3 (ci := 5) rfl 8 rfl 6 (by decide) k2 rfl rfl (z_narZ (decide ((pkC bt sz p1 1) = 1))).1 (z_narZ (decide ((pkC bt sz p1 1) = 1))).2 (Nat.le_of_ble_eq_true rfl) dX3_reachRow_85 (ws' := CW cy a kd co mk al dz rd rw wo sa sz p1 bt ou bi dm (decide ((pkC bt sz p1 1) = 1)) re cu) rfl ?_
          refine z_aload_n C dX3_reachRow_88 1 rfl ?_
          refine z_get C hinX3 (ci := 5) rfl 8 rfl 5 (by decide) k4 rfl (v := .ref (a 5)) rfl dX3_reachRow_89 ?_
          refine z_iconst C (z := 1) dX3_reachRow_92 ?_
          refine z_callV C (As := [vI 1]) (st := []) (c_X0_passE l D cy tw a kd co mk al dz rd rw wo sa sz p1 bt ou bi dm (decide ((pkC bt sz p1 1) = 1)) re cu 1  (by omega) (by omega) (by omega)) gX3_reachRow_X0_pass kn_X0_pass rfl ⟨rfl, rfl, Nat.le_of_ble_eq_true rfl, Nat.le_of_ble_eq_true rfl⟩ 5 rfl (ci := 2) rfl rfl (Nat.le_of_ble_eq_true rfl) ⟨Nat.le_of_ble_eq_true rfl, Nat.le_of_ble_eq_true rfl⟩ dX3_reachRow_93 (fun u24 hu24 => ?_)
          clear hu24; clear u24
          show V 0 0 (CW cy a kd co mk al dz rd rw wo sa sz (p1 + 1) bt ou bi dm (decide ((pkC bt sz p1 1) = 1)) re cu) [(1, vI (b2i mm)), (0, .ref (a 8))] [] 96
          refine z_iload_n C dX3_reachRow_96 0 rfl ?_
          refine z_ifnz C (tgt := 117) dX3_reachRow_97 (by decide) (fun hc_25 => ?_) (fun hc_25 => ?_)
          · refine z_iload_n C dX3_reachRow_117 0 rfl ?_
            refine z_ifnz C (tgt := 132) dX3_reachRow_118 (by decide) (fun hc_26 => ?_) (fun hc_26 => ?_)
            · refine z_iconst C (z := 1) dX3_reachRow_132 ?_
              refine z_goto C (tgt := 137) dX3_reachRow_133 (by decide) ?_
              refine z_istore_n C (lv' := [(2, vI 1), (1, vI (b2i mm)), (0, .ref (a 8))]) dX3_reachRow_137 rfl (by decide) rfl ?_
              refine z_iload_n C dX3_reachRow_138 0 rfl ?_
              refine z_if_eq C (by decide) (tgt := 152) dX3_reachRow_139 (by decide) (fun hc_27 => ?_) (fun hc_27 => ?_)
              · exact absurd hc_27 (by decide)
              refine z_aload_n C dX3_reachRow_142 2 rfl ?_
              refine z_get C hinX3 (ci := 5) rfl 8 rfl 5 (by decide) k4 rfl (v := .ref (a 5)) rfl dX3_reachRow_143 ?_
              refine z_callV C (As := []) (st := []) (c_X0_isMarkNext l D cy tw a kd co mk al dz rd rw wo sa sz (p1 + 1) bt ou bi dm (decide ((pkC bt sz p1 1) = 1)) re cu   (by omega) (by omega)) gX3_reachRow_X0_isMarkNext kn_X0_isMarkNext rfl ⟨rfl, rfl, Nat.le_of_ble_eq_true rfl, Nat.le_of_ble_eq_true rfl⟩ 5 rfl (ci := 2) rfl rfl (Nat.le_of_ble_eq_true rfl) ⟨Nat.le_of_ble_eq_true rfl, Nat.le_of_ble_eq_true rfl⟩ dX3_reachRow_146 (fun u28 hu28 => ?_)
              clear hu28; clear u28
              show V 0 0 (CW cy a kd co mk al dz rd rw wo sa sz (p1 + 1) bt ou bi dm (decide ((pkC bt sz p1 1) = 1)) re cu) [(2, vI 1), (1, vI (b2i mm)), (0, .ref (a 8))] [vI (b2i (isMk (inC bt sz) (8 * sz) (p1 + 1)))] 149
              refine z_not C dX3_reachRow_149 dX3_reachRow_152 dX3_reachRow_153 dX3_reachRow_156 ?_
              have i4 : hd (inC bt sz) (8 * sz) kd mk al ps = (!isMk (inC bt sz) (8 * sz) (p1 + 1), (inC bt sz) p1, p1 + 1) := by
                rw [hd, ← emm, cm, if_pos rfl, if_neg (by omega), if_pos (by omega), if_neg (by omega), ← hp1]
              
              refine z_zret (b := (!(isMk (inC bt sz) (8 * sz) (p1 + 1)))) C dX3_reachRow_157 (decide ((pkC bt sz p1 1) = 1)) ?_ ?_ ?_ (by decide) (by decide)
              · rw [i4]
              · rw [i4]; intro _
                show decide (pkC bt sz p1 1 = 1) = inC bt sz p1; rw [hpk]; cases inC bt sz p1 <;> rfl
              · rw [i4]
            · exfalso; rw [cm] at hc_26; exact absurd hc_26 (by decide)
          · exfalso; rw [cm] at hc_25; exact absurd hc_25 (by decide)
        · have i4 : hd (inC bt sz) (8 * sz) kd mk al ps = (false, false, p1) := by
            rw [hd, ← emm, cm, if_pos rfl, if_neg (by omega), if_pos (by omega), if_pos (by omega), hp1]
          refine z_iconst C (z := 0) dX3_reachRow_65 ?_
          refine z_zret (b := false) C dX3_reachRow_66 (decide (kd = 0)) ?_ ?_ ?_ (by decide) (by decide)
          · rw [i4]
          · rw [i4]; intro z; exact absurd z Bool.false_ne_true
          · rw [i4]
    · have hf : ¬ 0 ≤ fmk (inC bt sz) (8 * sz) ps 0 := by rw [eok1] at ck; exact of_decide_eq_false ck
      rw [if_neg hf] at ep1
      have i4 : hd (inC bt sz) (8 * sz) kd mk al ps = (false, false, p1) := by
        rw [hd, ← emm, cm, if_pos rfl, if_pos (by omega), ep1]
      refine z_iconst C (z := 0) dX3_reachRow_22 ?_
      refine z_zret (b := false) C dX3_reachRow_23 pl ?_ ?_ ?_ (by decide) (by decide)
      · rw [i4]
      · rw [i4]; intro z; exact absurd z Bool.false_ne_true
      · rw [i4]
theorem kn_X3_readRow : zKn yX3_readRow wsX3_readRow cX3_readRow 3 (some .boolean) 0 := ⟨⟨_, rfl⟩, by decide +kernel, by decide +kernel, by decide +kernel⟩
set_option maxHeartbeats 2000000 in
set_option maxRecDepth 100000 in
theorem c_X3_readRow (l : Launch) (D : va_G) (cy : Nat → ClassId) (tw : Nat → Nat) (a : Nat → Nat) (kd : Int) (co : Int) (mk : Bool) (al : Bool) (dz : Bool) (rd : Bool) (rw : Int) (wo : Nat → BitVec 64) (sa : Nat → Int) (sz : Int) (ps : Int) (bt : Nat → Int) (ou : Nat → BitVec 64) (bi : Int) (dm : Int) (pl : Bool) (re : Int) (cu : Bool)   (hco : 1 ≤ co ∧ co ≤ 700) (hk : 0 ≤ kd ∧ kd ≤ 2) (h0 : 0 ≤ sz ∧ sz ≤ 400) (h1 : 0 ≤ ps ∧ ps ≤ 8 * sz) (hrw : 0 ≤ rw ∧ rw < 24) (hdm : 0 ≤ dm ∧ dm ≤ 100) : zMet l yX3_readRow wsX3_readRow { frames := 5, cells := 0, slots := 0, locals := 130 } D (zT cy) tw (CW cy a kd co mk al dz rd rw wo sa sz ps bt ou bi dm pl re cu) [.ref (a 8)] 0 0 (S := (Nat → BitVec 64) × Int × Bool) (fun _ => some (vI (b2i (decide (¬ (rdRow (inC bt sz) (8 * sz) co (hasMk kd mk) (px wo co (rw - 1)) pl ps).1 = -1) && (decide (¬ (rdRow (inC bt sz) (8 * sz) co (hasMk kd mk) (px wo co (rw - 1)) pl ps).1 = 3) || (hasMk kd mk && decide (dm + 1 < 5))))))) (fun u => CW cy a kd co mk al dz rd (if (rdRow (inC bt sz) (8 * sz) co (hasMk kd mk) (px wo co (rw - 1)) pl ps).1 = -1 then rw else rw + 1) u.1 (if (rdRow (inC bt sz) (8 * sz) co (hasMk kd mk) (px wo co (rw - 1)) pl ps).1 = -1 then sa else va_up sa (rw : Int).toNat (rdRow (inC bt sz) (8 * sz) co (hasMk kd mk) (px wo co (rw - 1)) pl ps).1) sz ((rdRow (inC bt sz) (8 * sz) co (hasMk kd mk) (px wo co (rw - 1)) pl ps).2.1) bt ou bi (if (rdRow (inC bt sz) (8 * sz) co (hasMk kd mk) (px wo co (rw - 1)) pl ps).1 = 3 then dm + 1 else dm) pl u.2.1 u.2.2) (fun u => RowRel wo u.1 co rw (if (rdRow (inC bt sz) (8 * sz) co (hasMk kd mk) (px wo co (rw - 1)) pl ps).1 = 3 then (if rd = true then px wo co (rw - 1) else fun _ => false) else (rdRow (inC bt sz) (8 * sz) co (hasMk kd mk) (px wo co (rw - 1)) pl ps).2.2)) := by
  refine z_met (cc := cX3_readRow) (nL := 3) (ret := some .boolean) (by decide +kernel) rfl (Nat.le_of_ble_eq_true rfl) (lv := [(0, .ref (a 8))]) rfl ?_
  intro V p_ e_ s_ m_ args_ below_ meth_ c_ A_ C hmn
  have hinX2 : ∀ w ∈ u_ws RX2 TX2 5, w ∈ wsX3_readRow := by decide +kernel
  have hinX3 : ∀ w ∈ u_ws RX3 TX3 9, w ∈ wsX3_readRow := by decide +kernel
  have hinX5 : ∀ w ∈ u_ws RX5 TX5 5, w ∈ wsX3_readRow := by decide +kernel
  have k0 : Cond.fieldLink RX3 15 "FaxFilter$Receiver" "picture" "LFaxFilter$Picture;" ∈ wsX3_readRow := List.mem_of_getElem? (i := 1) rfl
  have k1 : Cond.fieldLink RX3 35 "FaxFilter$Picture" "rows" "I" ∈ wsX3_readRow := List.mem_of_getElem? (i := 2) rfl
  have k2 : Cond.fieldLink RX3 84 "FaxFilter$Receiver" "reached" "I" ∈ wsX3_readRow := List.mem_of_getElem? (i := 3) rfl
  have k3 : Cond.fieldLink RX3 87 "FaxFilter$Receiver" "isCut" "Z" ∈ wsX3_readRow := List.mem_of_getElem? (i := 4) rfl
  have k4 : Cond.fieldLink RX3 41 "FaxFilter$Receiver" "damaged" "I" ∈ wsX3_readRow := List.mem_of_getElem? (i := 6) rfl
  have k5 : Cond.fieldLink RX3 9 "FaxFilter$Receiver" "settings" "LFaxFilter$Settings;" ∈ wsX3_readRow := List.mem_of_getElem? (i := 7) rfl
  have k6 : Cond.fieldLink RX3 96 "FaxFilter$Settings" "repeatDamaged" "Z" ∈ wsX3_readRow := List.mem_of_getElem? (i := 8) rfl
  have k7 : Cond.fieldLink RX3 56 "FaxFilter$Receiver" "isPlain" "Z" ∈ wsX3_readRow := List.mem_of_getElem? (i := 5) rfl
  have hR0 := RR_wh hrw (RR_rf wo co rw)
  refine z_aload_n C dX3_readRow_0 0 rfl ?_
  refine z_get C hinX3 (ci := 5) rfl 8 rfl 2 (by decide) k0 rfl (v := .ref (a 2)) rfl dX3_readRow_1 ?_
  refine z_get C hinX2 (ci := 4) rfl 2 rfl 1 (by decide) k1 rfl (v := vI rw) rfl dX3_readRow_4 ?_
  refine z_istore_n C (lv' := [(1, vI rw), (0, .ref (a 8))]) dX3_readRow_7 rfl (by decide) rfl ?_
  refine z_aload_n C dX3_readRow_8 1 rfl ?_
  refine z_get C hinX3 (ci := 5) rfl 8 rfl 2 (by decide) k0 rfl (v := .ref (a 2)) rfl dX3_readRow_9 ?_
  refine z_iload_n C dX3_readRow_12 0 rfl ?_
  refine z_callV C (As := [vI rw]) (st := []) (c_X2_whiten l D cy tw a kd co mk al dz rd rw wo sa sz ps bt ou bi dm pl re cu rw  (by omega) (by omega)) gX3_readRow_X2_whiten kn_X2_whiten rfl ⟨rfl, rfl, Nat.le_of_ble_eq_true rfl, Nat.le_of_ble_eq_true rfl⟩ 2 rfl (ci := 4) rfl rfl (Nat.le_of_ble_eq_true rfl) ⟨Nat.le_of_ble_eq_true rfl, Nat.le_of_ble_eq_true rfl⟩ dX3_readRow_13 (fun u1 hu1 => ?_)
  clear hu1; clear u1
  show V 0 0 (CW cy a kd co mk al dz rd rw (pnC wo co rw 0 co false) sa sz ps bt ou bi dm pl re cu) [(1, vI rw), (0, .ref (a 8))] [] 16
  refine z_aload_n C dX3_readRow_16 1 rfl ?_
  refine z_iconst C (z := 0) dX3_readRow_17 ?_
  refine z_put C hinX3 tyX3 tyX3_ok nmX3 (ci := 5) rfl 8 rfl 7 (by decide) k2 rfl rfl rfl rfl (Nat.le_of_ble_eq_true rfl) dX3_readRow_18 (ws' := CW cy a kd co mk al dz rd rw (pnC wo co rw 0 co false) sa sz ps bt ou bi dm pl 0 cu) rfl ?_
  refine z_aload_n C dX3_readRow_21 1 rfl ?_
  refine z_iconst C (z := 0) dX3_readRow_22 ?_
  refine z_put C hinX3 tyX3 tyX3_ok nmX3 (ci := 5) rfl 8 rfl 8 (by decide) k3 rfl rfl (z_narZ false).1 (z_narZ false).2 (Nat.le_of_ble_eq_true rfl) dX3_readRow_23 (ws' := CW cy a kd co mk al dz rd rw (pnC wo co rw 0 co false) sa sz ps bt ou bi dm pl 0 false) rfl ?_
  refine z_aload_n C dX3_readRow_26 1 rfl ?_
  have J47 : ∀ (sv : Int) (p2 : Int) (w2 : Nat → BitVec 64) (x2 : Int) (c2 : Bool) (gq : Int → Bool), (rdRow (inC bt sz) (8 * sz) co (hasMk kd mk) (px wo co (rw - 1)) pl ps = (sv, p2, gq)) → (RowRel wo w2 co rw gq) → V 0 0 (CW cy a kd co mk al dz rd rw w2 sa sz p2 bt ou bi dm pl x2 c2) [(0, .ref (a 8)), (1, vI rw), (2, vI sv)] [] 47 := by
    intro sv p2 w2 x2 c2 gq i5 hR
    have hqr := rdRow_rg (inC bt sz) (8 * sz) co (hasMk kd mk) (px wo co (rw - 1)) pl ps (by omega) (by omega)
    rw [i5] at hqr
    dsimp only at hqr
    refine z_iload_n C dX3_readRow_47 2 rfl ?_
    refine z_iconst C (z := (-1)) dX3_readRow_48 ?_
    refine z_icmp_ne C (by omega) (by omega) (tgt := 54) dX3_readRow_49 (by decide) (fun hc_2 => ?_) (fun hc_2 => ?_)
    · refine z_iload_n C dX3_readRow_54 2 rfl ?_
      refine z_iconst C (z := 3) dX3_readRow_55 ?_
      refine z_icmp_ne C (by omega) (by decide) (tgt := 98) dX3_readRow_56 (by decide) (fun hc_3 => ?_) (fun hc_3 => ?_)
      · refine z_aload_n C dX3_readRow_98 0 rfl ?_
        refine z_get C hinX3 (ci := 5) rfl 8 rfl 2 (by decide) k0 rfl (v := .ref (a 2)) rfl dX3_readRow_99 ?_
        refine z_iload_n C dX3_readRow_102 2 rfl ?_
        refine z_callV C (As := [vI sv]) (st := []) (c_X2_keep l D cy tw a kd co mk al dz rd rw w2 sa sz p2 bt ou bi dm pl x2 c2 sv  (by omega)) gX3_readRow_X2_keep kn_X2_keep rfl ⟨rfl, rfl, Nat.le_of_ble_eq_true rfl, Nat.le_of_ble_eq_true rfl⟩ 2 rfl (ci := 4) rfl rfl (Nat.le_of_ble_eq_true rfl) ⟨Nat.le_of_ble_eq_true rfl, Nat.le_of_ble_eq_true rfl⟩ dX3_readRow_103 (fun u4 hu4 => ?_)
        clear hu4; clear u4
        show V 0 0 (CW cy a kd co mk al dz rd (rw + 1) w2 (va_up sa (rw : Int).toNat sv) sz p2 bt ou bi dm pl x2 c2) [(0, .ref (a 8)), (1, vI rw), (2, vI sv)] [] 106
        refine z_iload_n C dX3_readRow_106 2 rfl ?_
        refine z_iconst C (z := 3) dX3_readRow_107 ?_
        refine z_icmp_ne C (by omega) (by decide) (tgt := 129) dX3_readRow_108 (by decide) (fun hc_5 => ?_) (fun hc_5 => ?_)
        · refine z_iconst C (z := 1) dX3_readRow_129 ?_
          refine z_goto C (tgt := 134) dX3_readRow_130 (by decide) ?_
          refine z_zret (b := true) C dX3_readRow_134 (w2, x2, c2) ?_ ?_ ?_ (by decide) (by decide)
          · rw [i5]; dsimp only; rw [decide_eq_true (by omega), decide_eq_true (by omega)]; rfl
          · show RowRel wo _ co rw _
            rw [i5]; dsimp only; rw [if_neg (by omega)]; exact hR
          · rw [i5]; dsimp only; rw [if_neg (by omega), if_neg (by omega), if_neg (by omega)]
        · exfalso; omega
      · refine z_aload_n C dX3_readRow_59 0 rfl ?_
        refine z_dup C dX3_readRow_60 rfl ?_
        refine z_get C hinX3 (ci := 5) rfl 8 rfl 0 (by decide) k4 rfl (v := vI dm) rfl dX3_readRow_61 ?_
        refine z_iconst C (z := 1) dX3_readRow_64 ?_
        refine z_iadd C dX3_readRow_65 ?_
        refine z_put C hinX3 tyX3 tyX3_ok nmX3 (ci := 5) rfl 8 rfl 0 (by decide) k4 rfl rfl rfl rfl (Nat.le_of_ble_eq_true rfl) dX3_readRow_66 (ws' := CW cy a kd co mk al dz rd rw w2 sa sz p2 bt ou bi (dm + 1) pl x2 c2) rfl ?_
        refine z_aload_n C dX3_readRow_69 0 rfl ?_
        refine z_get C hinX3 (ci := 5) rfl 8 rfl 1 (by decide) k5 rfl (v := .ref (a 1)) rfl dX3_readRow_70 ?_
        refine z_get C hinX5 (ci := 7) rfl 1 rfl 4 (by decide) k6 rfl (v := vI (b2i rd)) rfl dX3_readRow_73 ?_
        refine z_ifz C (tgt := 90) dX3_readRow_76 (by decide) (fun crd => ?_) (fun crd => ?_)
        · refine z_aload_n C dX3_readRow_90 0 rfl ?_
          refine z_get C hinX3 (ci := 5) rfl 8 rfl 2 (by decide) k0 rfl (v := .ref (a 2)) rfl dX3_readRow_91 ?_
          refine z_iload_n C dX3_readRow_94 1 rfl ?_
          refine z_callV C (As := [vI rw]) (st := []) (c_X2_whiten l D cy tw a kd co mk al dz rd rw w2 sa sz p2 bt ou bi (dm + 1) pl x2 c2 rw  (by omega) (by omega)) gX3_readRow_X2_whiten kn_X2_whiten rfl ⟨rfl, rfl, Nat.le_of_ble_eq_true rfl, Nat.le_of_ble_eq_true rfl⟩ 2 rfl (ci := 4) rfl rfl (Nat.le_of_ble_eq_true rfl) ⟨Nat.le_of_ble_eq_true rfl, Nat.le_of_ble_eq_true rfl⟩ dX3_readRow_95 (fun u6 hu6 => ?_)
          clear hu6; clear u6
          show V 0 0 (CW cy a kd co mk al dz rd rw (pnC w2 co rw 0 co false) sa sz p2 bt ou bi (dm + 1) pl x2 c2) [(0, .ref (a 8)), (1, vI rw), (2, vI sv)] [] 98
          refine z_aload_n C dX3_readRow_98 0 rfl ?_
          refine z_get C hinX3 (ci := 5) rfl 8 rfl 2 (by decide) k0 rfl (v := .ref (a 2)) rfl dX3_readRow_99 ?_
          refine z_iload_n C dX3_readRow_102 2 rfl ?_
          refine z_callV C (As := [vI sv]) (st := []) (c_X2_keep l D cy tw a kd co mk al dz rd rw (pnC w2 co rw 0 co false) sa sz p2 bt ou bi (dm + 1) pl x2 c2 sv  (by omega)) gX3_readRow_X2_keep kn_X2_keep rfl ⟨rfl, rfl, Nat.le_of_ble_eq_true rfl, Nat.le_of_ble_eq_true rfl⟩ 2 rfl (ci := 4) rfl rfl (Nat.le_of_ble_eq_true rfl) ⟨Nat.le_of_ble_eq_true rfl, Nat.le_of_ble_eq_true rfl⟩ dX3_readRow_103 (fun u7 hu7 => ?_)
          clear hu7; clear u7
          show V 0 0 (CW cy a kd co mk al dz rd (rw + 1) (pnC w2 co rw 0 co false) (va_up sa (rw : Int).toNat sv) sz p2 bt ou bi (dm + 1) pl x2 c2) [(0, .ref (a 8)), (1, vI rw), (2, vI sv)] [] 106
          refine z_iload_n C dX3_readRow_106 2 rfl ?_
          refine z_iconst C (z := 3) dX3_readRow_107 ?_
          refine z_icmp_ne C (by omega) (by decide) (tgt := 129) dX3_readRow_108 (by decide) (fun hc_8 => ?_) (fun hc_8 => ?_)
          · exfalso; omega
          · refine z_aload_n C dX3_readRow_111 0 rfl ?_
            refine z_get C hinX3 (ci := 5) rfl 8 rfl 1 (by decide) k5 rfl (v := .ref (a 1)) rfl dX3_readRow_112 ?_
            refine z_callV C (As := []) (st := []) (c_X5_hasMarks l D cy tw a kd co mk al dz rd (rw + 1) (pnC w2 co rw 0 co false) (va_up sa (rw : Int).toNat sv) sz p2 bt ou bi (dm + 1) pl x2 c2   (by omega)) gX3_readRow_X5_hasMarks kn_X5_hasMarks rfl ⟨rfl, rfl, Nat.le_of_ble_eq_true rfl, Nat.le_of_ble_eq_true rfl⟩ 1 rfl (ci := 7) rfl rfl (Nat.le_of_ble_eq_true rfl) ⟨Nat.le_of_ble_eq_true rfl, Nat.le_of_ble_eq_true rfl⟩ dX3_readRow_115 (fun u9 hu9 => ?_)
            clear hu9; clear u9
            show V 0 0 (CW cy a kd co mk al dz rd (rw + 1) (pnC w2 co rw 0 co false) (va_up sa (rw : Int).toNat sv) sz p2 bt ou bi (dm + 1) pl x2 c2) [(0, .ref (a 8)), (1, vI rw), (2, vI sv)] [vI (b2i (hasMk kd mk))] 118
            refine z_ifz C (tgt := 133) dX3_readRow_118 (by decide) (fun cmk => ?_) (fun cmk => ?_)
            · refine z_iconst C (z := 0) dX3_readRow_133 ?_
              refine z_zret (b := false) C dX3_readRow_134 (pnC w2 co rw 0 co false, x2, c2) ?_ ?_ ?_ (by decide) (by decide)
              · rw [i5]; dsimp only; rw [decide_eq_true (by omega), decide_eq_false (by omega)]; rw [cmk]; rfl
              · show RowRel wo _ co rw _
                rw [i5]; dsimp only; rw [if_pos (by omega), crd, if_neg (by decide)]; exact RR_wh hrw hR
              · rw [i5]; dsimp only; rw [if_neg (by omega), if_neg (by omega), if_pos (by omega)]
            · refine z_aload_n C dX3_readRow_121 0 rfl ?_
              refine z_get C hinX3 (ci := 5) rfl 8 rfl 0 (by decide) k4 rfl (v := vI (dm + 1)) rfl dX3_readRow_122 ?_
              refine z_iconst C (z := 5) dX3_readRow_125 ?_
              refine z_icmp_ge C (by omega) (by decide) (tgt := 133) dX3_readRow_126 (by decide) (fun hc_10 => ?_) (fun hc_10 => ?_)
              · refine z_iconst C (z := 0) dX3_readRow_133 ?_
                refine z_zret (b := false) C dX3_readRow_134 (pnC w2 co rw 0 co false, x2, c2) ?_ ?_ ?_ (by decide) (by decide)
                · rw [i5]; dsimp only; rw [decide_eq_true (by omega), decide_eq_false (by omega)]; rw [cmk, decide_eq_false (by omega)]; rfl
                · show RowRel wo _ co rw _
                  rw [i5]; dsimp only; rw [if_pos (by omega), crd, if_neg (by decide)]; exact RR_wh hrw hR
                · rw [i5]; dsimp only; rw [if_neg (by omega), if_neg (by omega), if_pos (by omega)]
              · refine z_iconst C (z := 1) dX3_readRow_129 ?_
                refine z_goto C (tgt := 134) dX3_readRow_130 (by decide) ?_
                refine z_zret (b := true) C dX3_readRow_134 (pnC w2 co rw 0 co false, x2, c2) ?_ ?_ ?_ (by decide) (by decide)
                · rw [i5]; dsimp only; rw [decide_eq_true (by omega), decide_eq_false (by omega)]; rw [cmk, decide_eq_true (by omega)]; rfl
                · show RowRel wo _ co rw _
                  rw [i5]; dsimp only; rw [if_pos (by omega), crd, if_neg (by decide)]; exact RR_wh hrw hR
                · rw [i5]; dsimp only; rw [if_neg (by omega), if_neg (by omega), if_pos (by omega)]
        · refine z_aload_n C dX3_readRow_79 0 rfl ?_
          refine z_get C hinX3 (ci := 5) rfl 8 rfl 2 (by decide) k0 rfl (v := .ref (a 2)) rfl dX3_readRow_80 ?_
          refine z_iload_n C dX3_readRow_83 1 rfl ?_
          refine z_callV C (As := [vI rw]) (st := []) (c_X2_copyAbove l D cy tw a kd co mk al dz rd rw w2 sa sz p2 bt ou bi (dm + 1) pl x2 c2 rw  (by omega) (by omega)) gX3_readRow_X2_copyAbove kn_X2_copyAbove rfl ⟨rfl, rfl, Nat.le_of_ble_eq_true rfl, Nat.le_of_ble_eq_true rfl⟩ 2 rfl (ci := 4) rfl rfl (Nat.le_of_ble_eq_true rfl) ⟨Nat.le_of_ble_eq_true rfl, Nat.le_of_ble_eq_true rfl⟩ dX3_readRow_84 (fun u11 hu11 => ?_)
          clear hu11; clear u11
          show V 0 0 (CW cy a kd co mk al dz rd rw (cpC w2 co rw ((co + 63) / 64)) sa sz p2 bt ou bi (dm + 1) pl x2 c2) [(0, .ref (a 8)), (1, vI rw), (2, vI sv)] [] 87
          refine z_goto C (tgt := 98) dX3_readRow_87 (by decide) ?_
          refine z_aload_n C dX3_readRow_98 0 rfl ?_
          refine z_get C hinX3 (ci := 5) rfl 8 rfl 2 (by decide) k0 rfl (v := .ref (a 2)) rfl dX3_readRow_99 ?_
          refine z_iload_n C dX3_readRow_102 2 rfl ?_
          refine z_callV C (As := [vI sv]) (st := []) (c_X2_keep l D cy tw a kd co mk al dz rd rw (cpC w2 co rw ((co + 63) / 64)) sa sz p2 bt ou bi (dm + 1) pl x2 c2 sv  (by omega)) gX3_readRow_X2_keep kn_X2_keep rfl ⟨rfl, rfl, Nat.le_of_ble_eq_true rfl, Nat.le_of_ble_eq_true rfl⟩ 2 rfl (ci := 4) rfl rfl (Nat.le_of_ble_eq_true rfl) ⟨Nat.le_of_ble_eq_true rfl, Nat.le_of_ble_eq_true rfl⟩ dX3_readRow_103 (fun u12 hu12 => ?_)
          clear hu12; clear u12
          show V 0 0 (CW cy a kd co mk al dz rd (rw + 1) (cpC w2 co rw ((co + 63) / 64)) (va_up sa (rw : Int).toNat sv) sz p2 bt ou bi (dm + 1) pl x2 c2) [(0, .ref (a 8)), (1, vI rw), (2, vI sv)] [] 106
          refine z_iload_n C dX3_readRow_106 2 rfl ?_
          refine z_iconst C (z := 3) dX3_readRow_107 ?_
          refine z_icmp_ne C (by omega) (by decide) (tgt := 129) dX3_readRow_108 (by decide) (fun hc_13 => ?_) (fun hc_13 => ?_)
          · exfalso; omega
          · refine z_aload_n C dX3_readRow_111 0 rfl ?_
            refine z_get C hinX3 (ci := 5) rfl 8 rfl 1 (by decide) k5 rfl (v := .ref (a 1)) rfl dX3_readRow_112 ?_
            refine z_callV C (As := []) (st := []) (c_X5_hasMarks l D cy tw a kd co mk al dz rd (rw + 1) (cpC w2 co rw ((co + 63) / 64)) (va_up sa (rw : Int).toNat sv) sz p2 bt ou bi (dm + 1) pl x2 c2   (by omega)) gX3_readRow_X5_hasMarks kn_X5_hasMarks rfl ⟨rfl, rfl, Nat.le_of_ble_eq_true rfl, Nat.le_of_ble_eq_true rfl⟩ 1 rfl (ci := 7) rfl rfl (Nat.le_of_ble_eq_true rfl) ⟨Nat.le_of_ble_eq_true rfl, Nat.le_of_ble_eq_true rfl⟩ dX3_readRow_115 (fun u14 hu14 => ?_)
            clear hu14; clear u14
            show V 0 0 (CW cy a kd co mk al dz rd (rw + 1) (cpC w2 co rw ((co + 63) / 64)) (va_up sa (rw : Int).toNat sv) sz p2 bt ou bi (dm + 1) pl x2 c2) [(0, .ref (a 8)), (1, vI rw), (2, vI sv)] [vI (b2i (hasMk kd mk))] 118
            refine z_ifz C (tgt := 133) dX3_readRow_118 (by decide) (fun cmk => ?_) (fun cmk => ?_)
            · refine z_iconst C (z := 0) dX3_readRow_133 ?_
              refine z_zret (b := false) C dX3_readRow_134 (cpC w2 co rw ((co + 63) / 64), x2, c2) ?_ ?_ ?_ (by decide) (by decide)
              · rw [i5]; dsimp only; rw [decide_eq_true (by omega), decide_eq_false (by omega)]; rw [cmk]; rfl
              · show RowRel wo _ co rw _
                rw [i5]; dsimp only; rw [if_pos (by omega), crd, if_pos rfl]; exact RR_cp hrw hR
              · rw [i5]; dsimp only; rw [if_neg (by omega), if_neg (by omega), if_pos (by omega)]
            · refine z_aload_n C dX3_readRow_121 0 rfl ?_
              refine z_get C hinX3 (ci := 5) rfl 8 rfl 0 (by decide) k4 rfl (v := vI (dm + 1)) rfl dX3_readRow_122 ?_
              refine z_iconst C (z := 5) dX3_readRow_125 ?_
              refine z_icmp_ge C (by omega) (by decide) (tgt := 133) dX3_readRow_126 (by decide) (fun hc_15 => ?_) (fun hc_15 => ?_)
              · refine z_iconst C (z := 0) dX3_readRow_133 ?_
                refine z_zret (b := false) C dX3_readRow_134 (cpC w2 co rw ((co + 63) / 64), x2, c2) ?_ ?_ ?_ (by decide) (by decide)
                · rw [i5]; dsimp only; rw [decide_eq_true (by omega), decide_eq_false (by omega)]; rw [cmk, decide_eq_false (by omega)]; rfl
                · show RowRel wo _ co rw _
                  rw [i5]; dsimp only; rw [if_pos (by omega), crd, if_pos rfl]; exact RR_cp hrw hR
                · rw [i5]; dsimp only; rw [if_neg (by omega), if_neg (by omega), if_pos (by omega)]
              · refine z_iconst C (z := 1) dX3_readRow_129 ?_
                refine z_goto C (tgt := 134) dX3_readRow_130 (by decide) ?_
                refine z_zret (b := true) C dX3_readRow_134 (cpC w2 co rw ((co + 63) / 64), x2, c2) ?_ ?_ ?_ (by decide) (by decide)
                · rw [i5]; dsimp only; rw [decide_eq_true (by omega), decide_eq_false (by omega)]; rw [cmk, decide_eq_true (by omega)]; rfl
                · show RowRel wo _ co rw _
                  rw [i5]; dsimp only; rw [if_pos (by omega), crd, if_pos rfl]; exact RR_cp hrw hR
                · rw [i5]; dsimp only; rw [if_neg (by omega), if_neg (by omega), if_pos (by omega)]
    · refine z_iconst C (z := 0) dX3_readRow_52 ?_
      refine z_zret (b := false) C dX3_readRow_53 (w2, x2, c2) ?_ ?_ ?_ (by decide) (by decide)
      · rw [i5]; dsimp only; rw [decide_eq_false (by omega)]; rfl
      · show RowRel wo w2 co rw _
        rw [i5]; dsimp only; rw [if_neg (by omega)]; exact hR
      · rw [i5]; dsimp only; rw [if_pos (by omega), if_pos (by omega), if_neg (by omega)]
  refine z_get C hinX3 (ci := 5) rfl 8 rfl 6 (by decide) k7 rfl (v := vI (b2i pl)) rfl dX3_readRow_27 ?_
  refine z_ifz C (tgt := 41) dX3_readRow_30 (by decide) (fun cp => ?_) (fun cp => ?_)
  · refine z_aload_n C dX3_readRow_41 1 rfl ?_
    refine z_iload_n C dX3_readRow_42 0 rfl ?_
    refine z_callV C (As := [vI rw]) (st := []) (c_X3_readDrawn l D cy tw a kd co mk al dz rd rw (pnC wo co rw 0 co false) sa sz ps bt ou bi dm pl 0 false rw (fun _ => false) (by omega) (by omega) (by omega) (by omega) (by omega) (by omega) (⟨hR0.1, fun _ _ _ => rfl⟩)) gX3_readRow_X3_readDrawn kn_X3_readDrawn rfl ⟨rfl, rfl, Nat.le_of_ble_eq_true rfl, Nat.le_of_ble_eq_true rfl⟩ 8 rfl (ci := 5) rfl rfl (Nat.le_of_ble_eq_true rfl) ⟨Nat.le_of_ble_eq_true rfl, Nat.le_of_ble_eq_true rfl⟩ dX3_readRow_43 (fun u16 hu16 => ?_)
    show V 0 0 (CW cy a kd co mk al dz rd rw u16.1 sa sz ((rdDr (inC bt sz) (8 * sz) co (px (pnC wo co rw 0 co false) co (rw - 1)) 3201 ps 0 false true false (fun _ => false)).2.1) bt ou bi dm pl u16.2.1 u16.2.2) [(1, vI rw), (0, .ref (a 8))] [vI ((rdDr (inC bt sz) (8 * sz) co (px (pnC wo co rw 0 co false) co (rw - 1)) 3201 ps 0 false true false (fun _ => false)).1)] 46
    refine z_istore_n C (lv' := [(2, vI ((rdDr (inC bt sz) (8 * sz) co (px (pnC wo co rw 0 co false) co (rw - 1)) 3201 ps 0 false true false (fun _ => false)).1)), (1, vI rw), (0, .ref (a 8))]) dX3_readRow_46 rfl (by decide) rfl ?_
    refine z_lsub C [2, 1, 0] rfl ?_
    exact J47 ((rdDr (inC bt sz) (8 * sz) co (px (pnC wo co rw 0 co false) co (rw - 1)) 3201 ps 0 false true false (fun _ => false)).1) ((rdDr (inC bt sz) (8 * sz) co (px (pnC wo co rw 0 co false) co (rw - 1)) 3201 ps 0 false true false (fun _ => false)).2.1) u16.1 u16.2.1 u16.2.2 _ (by rw [rdRow, cp, if_neg (by decide), ← show px (pnC wo co rw 0 co false) co (rw - 1) = px wo co (rw - 1) from funext (fun j => hR0.2 _ j (by omega))]) (RR_tr hR0 hu16)
  · refine z_aload_n C dX3_readRow_33 1 rfl ?_
    refine z_iload_n C dX3_readRow_34 0 rfl ?_
    refine z_callV C (As := [vI rw]) (st := []) (c_X3_readPlain l D cy tw a kd co mk al dz rd rw (pnC wo co rw 0 co false) sa sz ps bt ou bi dm pl 0 false rw (fun _ => false) (by omega) (by omega) (by omega) (by omega) (by omega) (by omega) (⟨hR0.1, fun _ _ _ => rfl⟩)) gX3_readRow_X3_readPlain kn_X3_readPlain rfl ⟨rfl, rfl, Nat.le_of_ble_eq_true rfl, Nat.le_of_ble_eq_true rfl⟩ 8 rfl (ci := 5) rfl rfl (Nat.le_of_ble_eq_true rfl) ⟨Nat.le_of_ble_eq_true rfl, Nat.le_of_ble_eq_true rfl⟩ dX3_readRow_35 (fun u17 hu17 => ?_)
    show V 0 0 (CW cy a kd co mk al dz rd rw u17.1 sa sz ((rdPl (inC bt sz) (8 * sz) co (hasMk kd mk) 3201 ps 0 false false (fun _ => false)).2.1) bt ou bi dm pl u17.2.1 u17.2.2) [(1, vI rw), (0, .ref (a 8))] [vI ((rdPl (inC bt sz) (8 * sz) co (hasMk kd mk) 3201 ps 0 false false (fun _ => false)).1)] 38
    refine z_goto C (tgt := 46) dX3_readRow_38 (by decide) ?_
    refine z_istore_n C (lv' := [(2, vI ((rdPl (inC bt sz) (8 * sz) co (hasMk kd mk) 3201 ps 0 false false (fun _ => false)).1)), (1, vI rw), (0, .ref (a 8))]) dX3_readRow_46 rfl (by decide) rfl ?_
    refine z_lsub C [2, 1, 0] rfl ?_
    exact J47 ((rdPl (inC bt sz) (8 * sz) co (hasMk kd mk) 3201 ps 0 false false (fun _ => false)).1) ((rdPl (inC bt sz) (8 * sz) co (hasMk kd mk) 3201 ps 0 false false (fun _ => false)).2.1) u17.1 u17.2.1 u17.2.2 _ (by rw [rdRow, cp, if_pos rfl]) (RR_tr hR0 hu17)
