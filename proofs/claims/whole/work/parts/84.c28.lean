theorem kn_X8_runs : zKn yX8_runs wsX8_runs cX8_runs 2 (some .int) 1 := ⟨⟨_, rfl⟩, by decide +kernel, by decide +kernel, by decide +kernel⟩
set_option maxHeartbeats 400000 in
set_option maxRecDepth 100000 in
theorem c_X8_runs (l : Launch) (D : va_G) (cy : Nat → ClassId) (tw : Nat → Nat) (b : Nat → Nat) (kd : Int) (co : Int) (th : Int) (rw : Int) (cl : Int) (wr : Int) (po : Int) (dm : Int) (sx : Int) (aa : Int) (dk : Bool) (fi : Bool) (bb : Int) (cz : Int) (hm : Bool) (se : Nat → Bool) (da : Nat → Bool) (sa : Nat → Int) (bt : Nat → Int) (oz : Nat → Bool) (r : Int)  (hco : 1 ≤ co ∧ co ≤ 700) (hrw : 0 ≤ rw ∧ rw ≤ 24) (hyr : -2147483648 ≤ r ∧ r ≤ 2147483647) : zMet l yX8_runs wsX8_runs { frames := 3, cells := 0, slots := 0, locals := 67 } D (zT cy) tw (MW cy b kd co th rw cl wr po dm sx aa dk fi bb cz hm se da sa bt oz) [.ref (b 0), vI r] 0 0 (S := Unit) (fun _ => some (vI (if 0 ≤ r ∧ r < rw then 1 + cntC (pd da r) (co : Int).toNat else 0))) (fun _ => MW cy b kd co (if 0 ≤ r ∧ r < rw then 0 else 1) rw cl wr po dm sx aa dk fi bb cz hm se da sa bt oz) (fun _ => True) := by
  refine z_met (cc := cX8_runs) (nL := 2) (ret := some .int) (by decide +kernel) rfl (Nat.le_of_ble_eq_true rfl) (lv := [(0, .ref (b 0)), (1, vI r)]) rfl ?_
  intro V p_ e_ s_ m_ args_ below_ meth_ c_ A_ C hmn
  have hinX8 : ∀ w ∈ u_ws RX8 TX8 22, w ∈ wsX8_runs := by decide +kernel
  have k0 : Cond.fieldLink RX8 44 "FaxFilterModel" "thrown" "I" ∈ wsX8_runs := List.mem_of_getElem? (i := 1) rfl
  refine z_aload_n C dX8_runs_0 0 rfl ?_
  refine z_aload_n C dX8_runs_1 0 rfl ?_
  refine z_iload_n C dX8_runs_2 1 rfl ?_
  refine z_callV C (As := [vI r]) (st := [.ref (b 0)]) (c_X8_isRow l D cy tw b kd co th rw cl wr po dm sx aa dk fi bb cz hm se da sa bt oz r  (by omega) (by omega)) gX8_runs_X8_isRow kn_X8_isRow rfl ⟨rfl, rfl, Nat.le_of_ble_eq_true rfl, Nat.le_of_ble_eq_true rfl⟩ 0 rfl (ci := 10) rfl rfl (Nat.le_of_ble_eq_true rfl) ⟨Nat.le_of_ble_eq_true rfl, Nat.le_of_ble_eq_true rfl⟩ dX8_runs_3 (fun u1 hu1 => ?_)
  clear hu1; clear u1
  show V 0 0 (MW cy b kd co th rw cl wr po dm sx aa dk fi bb cz hm se da sa bt oz) [(0, .ref (b 0)), (1, vI r)] [vI (b2i (decide (0 ≤ r ∧ r < rw))), .ref (b 0)] 6
  refine z_ifz C (tgt := 13) dX8_runs_6 (by decide) (fun ci => ?_) (fun ci => ?_)
  · have hi := of_decide_eq_false ci
    refine z_iconst C (z := 1) dX8_runs_13 ?_
    refine z_put C hinX8 tyX8 tyX8_ok nmX8 (ci := 10) rfl 0 rfl 0 (by decide) k0 rfl rfl rfl rfl (Nat.le_of_ble_eq_true rfl) dX8_runs_14 (ws' := MW cy b kd co 1 rw cl wr po dm sx aa dk fi bb cz hm se da sa bt oz) rfl ?_
    refine z_aload_n C dX8_runs_17 0 rfl ?_
    refine z_get C hinX8 (ci := 10) rfl 0 rfl 0 (by decide) k0 rfl (v := vI 1) rfl dX8_runs_18 ?_
    refine z_if_le C (by decide) (tgt := 28) dX8_runs_21 (by decide) (fun hc_2 => ?_) (fun hc_2 => ?_)
    · exact absurd hc_2 (by decide)
    refine z_iconst C (z := 0) dX8_runs_24 ?_
    refine z_goto C (tgt := 33) dX8_runs_25 (by decide) ?_
    refine z_iret (x := 0) C dX8_runs_33 () ?_ ?_ ?_ (by decide) (by decide)
    · rw [if_neg (by omega)]
    · exact trivial
    · rw [if_neg (by omega)]
  · have hi := of_decide_eq_true ci
    refine z_iconst C (z := 0) dX8_runs_9 ?_
    refine z_goto C (tgt := 14) dX8_runs_10 (by decide) ?_
    refine z_put C hinX8 tyX8 tyX8_ok nmX8 (ci := 10) rfl 0 rfl 0 (by decide) k0 rfl rfl rfl rfl (Nat.le_of_ble_eq_true rfl) dX8_runs_14 (ws' := MW cy b kd co 0 rw cl wr po dm sx aa dk fi bb cz hm se da sa bt oz) rfl ?_
    refine z_aload_n C dX8_runs_17 0 rfl ?_
    refine z_get C hinX8 (ci := 10) rfl 0 rfl 0 (by decide) k0 rfl (v := vI 0) rfl dX8_runs_18 ?_
    refine z_if_le C (by decide) (tgt := 28) dX8_runs_21 (by decide) (fun hc_3 => ?_) (fun hc_3 => ?_)
    rotate_left; · exact absurd hc_3 (by decide)
    refine z_aload_n C dX8_runs_28 0 rfl ?_
    refine z_iload_n C dX8_runs_29 1 rfl ?_
    refine z_callV C (As := [vI r]) (st := []) (c_X8_runsOf l D cy tw b kd co 0 rw cl wr po dm sx aa dk fi bb cz hm se da sa bt oz r  (by omega) (by omega)) gX8_runs_X8_runsOf kn_X8_runsOf rfl ⟨rfl, rfl, Nat.le_of_ble_eq_true rfl, Nat.le_of_ble_eq_true rfl⟩ 0 rfl (ci := 10) rfl rfl (Nat.le_of_ble_eq_true rfl) ⟨Nat.le_of_ble_eq_true rfl, Nat.le_of_ble_eq_true rfl⟩ dX8_runs_30 (fun u4 hu4 => ?_)
    clear hu4; clear u4
    show V 0 0 (MW cy b kd co 0 rw cl wr po dm sx aa dk fi bb cz hm se da sa bt oz) [(0, .ref (b 0)), (1, vI r)] [vI (1 + cntC (pd da r) (co : Int).toNat)] 33
    refine z_iret (x := (1 + cntC (pd da r) (co : Int).toNat)) C dX8_runs_33 () ?_ ?_ ?_ (by decide) (by decide)
    · rw [if_pos (by omega)]
    · exact trivial
    · rw [if_pos (by omega)]
theorem kn_X7_read : zKn yX7_read wsX7_read cX7_read 4 (some .int) 1 := ⟨⟨_, rfl⟩, by decide +kernel, by decide +kernel, by decide +kernel⟩
set_option maxHeartbeats 4000000 in
set_option maxRecDepth 100000 in
theorem c_X7_read (l : Launch) (D : va_G) (cy : Nat → ClassId) (tw : Nat → Nat) (a : Nat → Nat) (kd : Int) (co : Int) (mk : Bool) (al : Bool) (dz : Bool) (rd : Bool) (rw : Int) (wo : Nat → BitVec 64) (sa : Nat → Int) (sz : Int) (ps : Int) (bt : Nat → Int) (ou : Nat → BitVec 64) (bi : Int) (dm : Int) (pl : Bool) (re : Int) (cu : Bool) (z : Int)  (hco : 1 ≤ co ∧ co ≤ 700) (hk : 0 ≤ kd ∧ kd ≤ 2) (h0 : 0 ≤ sz ∧ sz ≤ 400) (hz : 0 ≤ z ∧ z ≤ 24) : zMet l yX7_read wsX7_read { frames := 6, cells := 0, slots := 0, locals := 152 } D (zT cy) tw (CW cy a kd co mk al dz rd rw wo sa sz ps bt ou bi dm pl re cu) [.ref (a 0), vI z] 0 0 (S := (Nat → BitVec 64) × (Nat → Int) × Bool × Int × Bool) (fun _ => some (vI (rdAll (inC bt sz) (8 * sz) co kd mk al rd (z : Int).toNat 0 0 0 P00 S00).1)) (fun u => CW cy a kd co mk al dz rd ((rdAll (inC bt sz) (8 * sz) co kd mk al rd (z : Int).toNat 0 0 0 P00 S00).1) u.1 u.2.1 sz ((rdAll (inC bt sz) (8 * sz) co kd mk al rd (z : Int).toNat 0 0 0 P00 S00).2.1) bt ou bi ((rdAll (inC bt sz) (8 * sz) co kd mk al rd (z : Int).toNat 0 0 0 P00 S00).2.2.1) u.2.2.1 u.2.2.2.1 u.2.2.2.2) (fun u => PR (px u.1 co) co (rdAll (inC bt sz) (8 * sz) co kd mk al rd (z : Int).toNat 0 0 0 P00 S00).1 (rdAll (inC bt sz) (8 * sz) co kd mk al rd (z : Int).toNat 0 0 0 P00 S00).2.2.2.1 ∧ SR u.2.1 (rdAll (inC bt sz) (8 * sz) co kd mk al rd (z : Int).toNat 0 0 0 P00 S00).1 (rdAll (inC bt sz) (8 * sz) co kd mk al rd (z : Int).toNat 0 0 0 P00 S00).2.2.2.2) := by
  refine z_met (cc := cX7_read) (nL := 4) (ret := some .int) (by decide +kernel) rfl (Nat.le_of_ble_eq_true rfl) (lv := [(0, .ref (a 0)), (1, vI z)]) rfl ?_
  intro V p_ e_ s_ m_ args_ below_ meth_ c_ A_ C hmn
  have hinX2 : ∀ w ∈ u_ws RX2 TX2 5, w ∈ wsX7_read := by decide +kernel
  have hinX7 : ∀ w ∈ u_ws RX7 TX7 8, w ∈ wsX7_read := by decide +kernel
  have k0 : Cond.fieldLink RX7 85 "FaxFilter" "receiver" "LFaxFilter$Receiver;" ∈ wsX7_read := List.mem_of_getElem? (i := 3) rfl
  have k1 : Cond.fieldLink RX7 30 "FaxFilter" "picture" "LFaxFilter$Picture;" ∈ wsX7_read := List.mem_of_getElem? (i := 4) rfl
  have k2 : Cond.fieldLink RX7 92 "FaxFilter$Picture" "rows" "I" ∈ wsX7_read := List.mem_of_getElem? (i := 5) rfl
  refine z_iload_n C dX7_read_0 1 rfl ?_
  refine z_if_lt C (by omega) (tgt := 10) dX7_read_1 (by decide) (fun hc_1 => ?_) (fun hc_1 => ?_)
  · exfalso; omega
  · refine z_iload_n C dX7_read_4 1 rfl ?_
    refine z_bipush C (z := 24) dX7_read_5 (by decide) ?_
    refine z_icmp_le C (by omega) (by decide) (tgt := 20) dX7_read_7 (by decide) (fun hc_2 => ?_) (fun hc_2 => ?_)
    · refine z_aload_n C dX7_read_20 0 rfl ?_
      refine z_get C hinX7 (ci := 9) rfl 0 rfl 7 (by decide) k0 rfl (v := .ref (a 8)) rfl dX7_read_21 ?_
      refine z_callV C (As := []) (st := []) (c_X3_begin l D cy tw a kd co mk al dz rd rw wo sa sz ps bt ou bi dm pl re cu   ) gX7_read_X3_begin kn_X3_begin rfl ⟨rfl, rfl, Nat.le_of_ble_eq_true rfl, Nat.le_of_ble_eq_true rfl⟩ 8 rfl (ci := 5) rfl rfl (Nat.le_of_ble_eq_true rfl) ⟨Nat.le_of_ble_eq_true rfl, Nat.le_of_ble_eq_true rfl⟩ dX7_read_24 (fun u3 hu3 => ?_)
      clear hu3; clear u3
      show V 0 0 (CW cy a kd co mk al dz rd 0 wo sa sz 0 bt ou bi 0 pl re cu) [(0, .ref (a 0)), (1, vI z)] [] 27
      refine z_iconst C (z := 1) dX7_read_27 ?_
      refine z_istore_n C (lv' := [(2, vI 1), (0, .ref (a 0)), (1, vI z)]) dX7_read_28 rfl (by decide) rfl ?_
      refine z_iconst C (z := 0) dX7_read_29 ?_
      refine z_istore_n C (lv' := [(3, vI 0), (2, vI 1), (0, .ref (a 0)), (1, vI z)]) dX7_read_30 rfl (by decide) rfl ?_
      have J31 : ∀ (f : Nat) (ok : Bool) (i : Int) (n1 : Int) (w : Nat → BitVec 64) (s2 : Nat → Int) (p : Int) (d2 : Int) (pl1 : Bool) (re1 : Int) (cu1 : Bool) (PP : Int → Int → Bool) (SS : Nat → Int), (0 ≤ i ∧ i ≤ z ∧ 0 ≤ n1 ∧ n1 ≤ i ∧ 0 ≤ d2 ∧ d2 ≤ n1) → (0 ≤ p ∧ p ≤ 8 * sz) → (PR (px w co) co n1 PP) → (SR s2 n1 SS) → ((ok = true ∧ rdAll (inC bt sz) (8 * sz) co kd mk al rd (z : Int).toNat 0 0 0 P00 S00 = rdAll (inC bt sz) (8 * sz) co kd mk al rd (z - i).toNat n1 p d2 PP SS) ∨ (ok = false ∧ rdAll (inC bt sz) (8 * sz) co kd mk al rd (z : Int).toNat 0 0 0 P00 S00 = (n1, p, d2, PP, SS))) → (z - i).toNat < f → V 0 0 (CW cy a kd co mk al dz rd n1 w s2 sz p bt ou bi d2 pl1 re1 cu1) [(0, .ref (a 0)), (1, vI z), (2, vI (b2i ok)), (3, vI i)] [] 31 := by
        intro f
        induction f with
        | zero => intro ok i n1 w s2 p d2 pl1 re1 cu1 PP SS i0 iq hPR hSR hRR hf; exact absurd hf (Nat.not_lt_zero _)
        | succ f ih =>
          intro ok i n1 w s2 p d2 pl1 re1 cu1 PP SS i0 iq hPR hSR hRR hf
          refine z_iload_n C dX7_read_31 3 rfl ?_
          refine z_iload_n C dX7_read_32 1 rfl ?_
          refine z_icmp_ge C (by omega) (by omega) (tgt := 72) dX7_read_33 (by decide) (fun hc_4 => ?_) (fun hc_4 => ?_)
          · refine z_aload_n C dX7_read_72 0 rfl ?_
            refine z_get C hinX7 (ci := 9) rfl 0 rfl 1 (by decide) k1 rfl (v := .ref (a 2)) rfl dX7_read_73 ?_
            refine z_get C hinX2 (ci := 4) rfl 2 rfl 1 (by decide) k2 rfl (v := vI n1) rfl dX7_read_76 ?_
            refine z_iret (x := n1) C dX7_read_79 (w, s2, pl1, re1, cu1) ?_ ?_ ?_ (by decide) (by decide)
            · have i5 : rdAll (inC bt sz) (8 * sz) co kd mk al rd (z : Int).toNat 0 0 0 P00 S00 = (n1, p, d2, PP, SS) := by
                rcases hRR with ⟨y1, y2⟩ | ⟨y1, y2⟩
                · rw [y2, show (z - i).toNat = 0 by omega, rdAll]
                · exact y2
              rw [i5]
            · have i5 : rdAll (inC bt sz) (8 * sz) co kd mk al rd (z : Int).toNat 0 0 0 P00 S00 = (n1, p, d2, PP, SS) := by
                rcases hRR with ⟨y1, y2⟩ | ⟨y1, y2⟩
                · rw [y2, show (z - i).toNat = 0 by omega, rdAll]
                · exact y2
              rw [i5]; exact ⟨hPR, hSR⟩
            · have i5 : rdAll (inC bt sz) (8 * sz) co kd mk al rd (z : Int).toNat 0 0 0 P00 S00 = (n1, p, d2, PP, SS) := by
                rcases hRR with ⟨y1, y2⟩ | ⟨y1, y2⟩
                · rw [y2, show (z - i).toNat = 0 by omega, rdAll]
                · exact y2
              rw [i5]
          · refine z_iload_n C dX7_read_36 2 rfl ?_
            refine z_ifz C (tgt := 72) dX7_read_37 (by decide) (fun cok => ?_) (fun cok => ?_)
            · refine z_aload_n C dX7_read_72 0 rfl ?_
              refine z_get C hinX7 (ci := 9) rfl 0 rfl 1 (by decide) k1 rfl (v := .ref (a 2)) rfl dX7_read_73 ?_
              refine z_get C hinX2 (ci := 4) rfl 2 rfl 1 (by decide) k2 rfl (v := vI n1) rfl dX7_read_76 ?_
              refine z_iret (x := n1) C dX7_read_79 (w, s2, pl1, re1, cu1) ?_ ?_ ?_ (by decide) (by decide)
              · have i5 : rdAll (inC bt sz) (8 * sz) co kd mk al rd (z : Int).toNat 0 0 0 P00 S00 = (n1, p, d2, PP, SS) := by
                  rcases hRR with ⟨y1, y2⟩ | ⟨y1, y2⟩
                  · rw [y1] at cok; exact absurd cok (by decide)
                  · exact y2
                rw [i5]
              · have i5 : rdAll (inC bt sz) (8 * sz) co kd mk al rd (z : Int).toNat 0 0 0 P00 S00 = (n1, p, d2, PP, SS) := by
                  rcases hRR with ⟨y1, y2⟩ | ⟨y1, y2⟩
                  · rw [y1] at cok; exact absurd cok (by decide)
                  · exact y2
                rw [i5]; exact ⟨hPR, hSR⟩
              · have i5 : rdAll (inC bt sz) (8 * sz) co kd mk al rd (z : Int).toNat 0 0 0 P00 S00 = (n1, p, d2, PP, SS) := by
                  rcases hRR with ⟨y1, y2⟩ | ⟨y1, y2⟩
                  · rw [y1] at cok; exact absurd cok (by decide)
                  · exact y2
                rw [i5]
            · obtain ⟨hok, hR0⟩ := hRR.resolve_right (fun y => by rw [cok] at y; exact absurd y.1 (by decide))
              refine z_aload_n C dX7_read_40 0 rfl ?_
              refine z_get C hinX7 (ci := 9) rfl 0 rfl 7 (by decide) k0 rfl (v := .ref (a 8)) rfl dX7_read_41 ?_
              refine z_callV C (As := []) (st := []) (c_X3_reachRow l D cy tw a kd co mk al dz rd n1 w s2 sz p bt ou bi d2 pl1 re1 cu1   (by omega) (by omega) (by omega)) gX7_read_X3_reachRow kn_X3_reachRow rfl ⟨rfl, rfl, Nat.le_of_ble_eq_true rfl, Nat.le_of_ble_eq_true rfl⟩ 8 rfl (ci := 5) rfl rfl (Nat.le_of_ble_eq_true rfl) ⟨Nat.le_of_ble_eq_true rfl, Nat.le_of_ble_eq_true rfl⟩ dX7_read_44 (fun u5 hu5 => ?_)
              show V 0 0 (CW cy a kd co mk al dz rd n1 w s2 sz ((hd (inC bt sz) (8 * sz) kd mk al p).2.2) bt ou bi d2 u5 re1 cu1) [(0, .ref (a 0)), (1, vI z), (2, vI (b2i ok)), (3, vI i)] [vI (b2i ((hd (inC bt sz) (8 * sz) kd mk al p).1))] 47
              have hhr := hd_rg (inC bt sz) (8 * sz) kd mk al (p := p) (by omega) (by omega) sz rfl
              obtain ⟨p2, ep2⟩ : ∃ z, z = ((hd (inC bt sz) (8 * sz) kd mk al p).2.2) := ⟨_, rfl⟩
              rw [← ep2]
              refine z_ifz C (tgt := 64) dX7_read_47 (by decide) (fun ch => ?_) (fun ch => ?_)
              · have i5 : rdAll (inC bt sz) (8 * sz) co kd mk al rd (z : Int).toNat 0 0 0 P00 S00 = (n1, p2, d2, PP, SS) := by rw [hR0, show (z - i).toNat = (z - (i + 1)).toNat + 1 by omega, ra_end ch, ← ep2]
                refine z_iconst C (z := 0) dX7_read_64 ?_
                refine z_istore_n C (lv' := [(2, vI 0), (0, .ref (a 0)), (1, vI z), (3, vI i)]) dX7_read_65 rfl (by decide) rfl ?_
                refine z_iinc C (lv' := [(3, vI (i + 1)), (2, vI 0), (0, .ref (a 0)), (1, vI z)]) dX7_read_66 3 rfl (by decide) rfl ?_
                refine z_goto C (tgt := 31) dX7_read_69 (by decide) ?_
                refine z_lsub C [2, 3, 1, 0] rfl ?_
                exact ih false (i + 1) n1 w s2 p2 d2 u5 re1 cu1 PP SS (by omega) (by omega) (hPR) (hSR) (Or.inr ⟨rfl, i5⟩) (by omega)
              · have hht := ch
                rw [← ep2] at hhr
                obtain ⟨pv, epv⟩ : ∃ y, y = u5 := ⟨_, rfl⟩
                rw [← epv]
                have hpv : pv = (hd (inC bt sz) (8 * sz) kd mk al p).2.1 := by rw [epv]; exact hu5 ch
                refine z_aload_n C dX7_read_50 0 rfl ?_
                refine z_get C hinX7 (ci := 9) rfl 0 rfl 7 (by decide) k0 rfl (v := .ref (a 8)) rfl dX7_read_51 ?_
                refine z_callV C (As := []) (st := []) (c_X3_readRow l D cy tw a kd co mk al dz rd n1 w s2 sz p2 bt ou bi d2 pv re1 cu1   (by omega) (by omega) (by omega) (by omega) (by omega) (by omega)) gX7_read_X3_readRow kn_X3_readRow rfl ⟨rfl, rfl, Nat.le_of_ble_eq_true rfl, Nat.le_of_ble_eq_true rfl⟩ 8 rfl (ci := 5) rfl rfl (Nat.le_of_ble_eq_true rfl) ⟨Nat.le_of_ble_eq_true rfl, Nat.le_of_ble_eq_true rfl⟩ dX7_read_54 (fun u6 hu6 => ?_)
                show V 0 0 (CW cy a kd co mk al dz rd (if (rdRow (inC bt sz) (8 * sz) co (hasMk kd mk) (px w co (n1 - 1)) pv p2).1 = -1 then n1 else n1 + 1) u6.1 (if (rdRow (inC bt sz) (8 * sz) co (hasMk kd mk) (px w co (n1 - 1)) pv p2).1 = -1 then s2 else va_up s2 (n1 : Int).toNat (rdRow (inC bt sz) (8 * sz) co (hasMk kd mk) (px w co (n1 - 1)) pv p2).1) sz ((rdRow (inC bt sz) (8 * sz) co (hasMk kd mk) (px w co (n1 - 1)) pv p2).2.1) bt ou bi (if (rdRow (inC bt sz) (8 * sz) co (hasMk kd mk) (px w co (n1 - 1)) pv p2).1 = 3 then d2 + 1 else d2) pv u6.2.1 u6.2.2) [(0, .ref (a 0)), (1, vI z), (2, vI (b2i ok)), (3, vI i)] [vI (b2i (decide (¬ (rdRow (inC bt sz) (8 * sz) co (hasMk kd mk) (px w co (n1 - 1)) pv p2).1 = -1) && (decide (¬ (rdRow (inC bt sz) (8 * sz) co (hasMk kd mk) (px w co (n1 - 1)) pv p2).1 = 3) || (hasMk kd mk && decide (d2 + 1 < 5)))))] 57
                obtain ⟨qq, eqq⟩ : ∃ y, y = rdRow (inC bt sz) (8 * sz) co (hasMk kd mk) (px w co (n1 - 1)) pv p2 := ⟨_, rfl⟩
                rw [← eqq] at hu6 ⊢
                have hqq : qq = rdQ (inC bt sz) (8 * sz) co kd mk al PP n1 p := by
                  rw [eqq, rdQ, ← hpv, ← ep2]; exact rdRow_cg (fun j hj => hPR (n1 - 1) j (by omega) (by omega) hj)
                have hqr : (p2 ≤ qq.2.1 ∧ qq.2.1 ≤ 8 * sz) ∧ -1 ≤ qq.1 ∧ qq.1 ≤ 3 := by rw [eqq]; exact rdRow_rg _ _ _ _ _ _ _ (by omega) (by omega)
                obtain ⟨n2, en2⟩ : ∃ z, z = (if qq.1 = -1 then n1 else n1 + 1) := ⟨_, rfl⟩
                rw [← en2]
                obtain ⟨s3, es3⟩ : ∃ z, z = (if qq.1 = -1 then s2 else va_up s2 (n1 : Int).toNat qq.1) := ⟨_, rfl⟩
                rw [← es3]
                obtain ⟨d3, ed3⟩ : ∃ z, z = (if qq.1 = 3 then d2 + 1 else d2) := ⟨_, rfl⟩
                rw [← ed3]
                refine z_ifz C (tgt := 64) dX7_read_57 (by decide) (fun cr => ?_) (fun cr => ?_)
                · obtain ⟨P3, S3, i5, hP3, hS3⟩ := ra_step (n := (z - (i + 1)).toNat) (dm := d2) (rd := rd) (q := qq) (F := px w co) (F' := px u6.1 co) (sa := s2) (s3 := s3) (n2 := n2) (p3 := qq.2.1) (d3 := d3) (bv := false) hht hqq (cr) (by omega) en2 rfl ed3 es3 hPR hSR (fun r j y1 y2 => hu6.2 r j y1) (fun j hj => px_n _ _ _ hj) (fun y j y1 y2 => by rw [hu6.1 j y1 y2]; split <;> first | rfl | (cases rd <;> rfl))
                  rw [show (z - (i + 1)).toNat + 1 = (z - i).toNat by omega, ← hR0, if_neg (by decide)] at i5
                  have hn3 : n1 ≤ n2 ∧ n2 ≤ n1 + 1 ∧ d2 ≤ d3 ∧ d3 ≤ d2 + 1 ∧ d3 ≤ n2 := by
                    rw [en2, ed3]; split <;> split <;> omega
                  refine z_iconst C (z := 0) dX7_read_64 ?_
                  refine z_istore_n C (lv' := [(2, vI 0), (0, .ref (a 0)), (1, vI z), (3, vI i)]) dX7_read_65 rfl (by decide) rfl ?_
                  refine z_iinc C (lv' := [(3, vI (i + 1)), (2, vI 0), (0, .ref (a 0)), (1, vI z)]) dX7_read_66 3 rfl (by decide) rfl ?_
                  refine z_goto C (tgt := 31) dX7_read_69 (by decide) ?_
                  refine z_lsub C [2, 3, 1, 0] rfl ?_
                  exact ih false (i + 1) n2 u6.1 s3 qq.2.1 d3 pv u6.2.1 u6.2.2 P3 S3 (by omega) (by omega) (hP3) (hS3) (Or.inr ⟨rfl, i5⟩) (by omega)
                · obtain ⟨P3, S3, i5, hP3, hS3⟩ := ra_step (n := (z - (i + 1)).toNat) (dm := d2) (rd := rd) (q := qq) (F := px w co) (F' := px u6.1 co) (sa := s2) (s3 := s3) (n2 := n2) (p3 := qq.2.1) (d3 := d3) (bv := true) hht hqq (cr) (by omega) en2 rfl ed3 es3 hPR hSR (fun r j y1 y2 => hu6.2 r j y1) (fun j hj => px_n _ _ _ hj) (fun y j y1 y2 => by rw [hu6.1 j y1 y2]; split <;> first | rfl | (cases rd <;> rfl))
                  rw [show (z - (i + 1)).toNat + 1 = (z - i).toNat by omega, ← hR0, if_pos rfl] at i5
                  have hn3 : n1 ≤ n2 ∧ n2 ≤ n1 + 1 ∧ d2 ≤ d3 ∧ d3 ≤ d2 + 1 ∧ d3 ≤ n2 := by
                    rw [en2, ed3]; split <;> split <;> omega
                  refine z_iconst C (z := 1) dX7_read_60 ?_
                  refine z_goto C (tgt := 65) dX7_read_61 (by decide) ?_
                  refine z_istore_n C (lv' := [(2, vI 1), (0, .ref (a 0)), (1, vI z), (3, vI i)]) dX7_read_65 rfl (by decide) rfl ?_
                  refine z_iinc C (lv' := [(3, vI (i + 1)), (2, vI 1), (0, .ref (a 0)), (1, vI z)]) dX7_read_66 3 rfl (by decide) rfl ?_
                  refine z_goto C (tgt := 31) dX7_read_69 (by decide) ?_
                  refine z_lsub C [2, 3, 1, 0] rfl ?_
                  exact ih true (i + 1) n2 u6.1 s3 qq.2.1 d3 pv u6.2.1 u6.2.2 P3 S3 (by omega) (by omega) (hP3) (hS3) (Or.inl ⟨rfl, i5⟩) (by omega)
      refine z_lsub C [2, 3, 1, 0] rfl ?_
      exact J31 _ true 0 0 wo sa 0 0 pl re cu P00 S00 (by omega) (by omega) (PR_0 (fun j => px_neg wo co j)) (SR_0 sa) (Or.inl ⟨rfl, by rw [Int.sub_zero]⟩) (Nat.lt_succ_self _)
    · exfalso; omega
