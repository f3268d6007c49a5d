theorem kn_X8_read : zKn yX8_read wsX8_read cX8_read 4 (some .int) 1 := ⟨⟨_, rfl⟩, by decide +kernel, by decide +kernel, by decide +kernel⟩
set_option maxHeartbeats 4000000 in
set_option maxRecDepth 100000 in
theorem c_X8_read (l : Launch) (D : va_G) (cy : Nat → ClassId) (tw : Nat → Nat) (b : Nat → Nat) (kd : Int) (co : Int) (th : Int) (rw : Int) (cl : Int) (wr : Int) (po : Int) (dm : Int) (sx : Int) (aa : Int) (dk : Bool) (fi : Bool) (bb : Int) (cz : Int) (hm : Bool) (se : Nat → Bool) (da : Nat → Bool) (sa : Nat → Int) (bt : Nat → Int) (oz : Nat → Bool) (z : Int)  (hco : 1 ≤ co ∧ co ≤ 700) (hk : 0 ≤ kd ∧ kd ≤ 2) (hcl : 0 ≤ cl ∧ cl ≤ 400) (hbt : ∀ j : Nat, 0 ≤ bt j ∧ bt j < 256) (hz : 0 ≤ z ∧ z ≤ 24) : zMet l yX8_read wsX8_read { frames := 6, cells := 0, slots := 0, locals := 137 } D (zT cy) tw (MW cy b kd co th rw cl wr po dm sx aa dk fi bb cz hm se da sa bt oz) [.ref (b 0), vI z] 0 0 (S := Int × Int × Bool × Bool × Int × Int × Bool × (Nat → Bool) × (Nat → Int)) (fun _ => some (vI (rdAll (inC bt cl) (8 * cl) co kd (se 0) (se 1) (se 3) (z : Int).toNat 0 0 0 P00 S00).1)) (fun u => MW cy b kd co 0 ((rdAll (inC bt cl) (8 * cl) co kd (se 0) (se 1) (se 3) (z : Int).toNat 0 0 0 P00 S00).1) cl wr ((rdAll (inC bt cl) (8 * cl) co kd (se 0) (se 1) (se 3) (z : Int).toNat 0 0 0 P00 S00).2.1) ((rdAll (inC bt cl) (8 * cl) co kd (se 0) (se 1) (se 3) (z : Int).toNat 0 0 0 P00 S00).2.2.1) u.1 u.2.1 u.2.2.1 u.2.2.2.1 u.2.2.2.2.1 u.2.2.2.2.2.1 u.2.2.2.2.2.2.1 se u.2.2.2.2.2.2.2.1 u.2.2.2.2.2.2.2.2 bt oz) (fun u => (PR (pd u.2.2.2.2.2.2.2.1) co (rdAll (inC bt cl) (8 * cl) co kd (se 0) (se 1) (se 3) (z : Int).toNat 0 0 0 P00 S00).1 (rdAll (inC bt cl) (8 * cl) co kd (se 0) (se 1) (se 3) (z : Int).toNat 0 0 0 P00 S00).2.2.2.1 ∧ SR u.2.2.2.2.2.2.2.2 (rdAll (inC bt cl) (8 * cl) co kd (se 0) (se 1) (se 3) (z : Int).toNat 0 0 0 P00 S00).1 (rdAll (inC bt cl) (8 * cl) co kd (se 0) (se 1) (se 3) (z : Int).toNat 0 0 0 P00 S00).2.2.2.2) ∧ (0 ≤ (rdAll (inC bt cl) (8 * cl) co kd (se 0) (se 1) (se 3) (z : Int).toNat 0 0 0 P00 S00).1 ∧ (rdAll (inC bt cl) (8 * cl) co kd (se 0) (se 1) (se 3) (z : Int).toNat 0 0 0 P00 S00).1 ≤ 24) ∧ (0 ≤ (rdAll (inC bt cl) (8 * cl) co kd (se 0) (se 1) (se 3) (z : Int).toNat 0 0 0 P00 S00).2.1 ∧ (rdAll (inC bt cl) (8 * cl) co kd (se 0) (se 1) (se 3) (z : Int).toNat 0 0 0 P00 S00).2.1 ≤ 8 * cl) ∧ 0 ≤ (rdAll (inC bt cl) (8 * cl) co kd (se 0) (se 1) (se 3) (z : Int).toNat 0 0 0 P00 S00).2.2.1 ∧ (rdAll (inC bt cl) (8 * cl) co kd (se 0) (se 1) (se 3) (z : Int).toNat 0 0 0 P00 S00).2.2.1 ≤ 24) := by
  refine z_met (cc := cX8_read) (nL := 4) (ret := some .int) (by decide +kernel) rfl (Nat.le_of_ble_eq_true rfl) (lv := [(0, .ref (b 0)), (1, vI z)]) rfl ?_
  intro V p_ e_ s_ m_ args_ below_ meth_ c_ A_ C hmn
  have hinX8 : ∀ w ∈ u_ws RX8 TX8 22, w ∈ wsX8_read := by decide +kernel
  have k0 : Cond.fieldLink RX8 44 "FaxFilterModel" "thrown" "I" ∈ wsX8_read := List.mem_of_getElem? (i := 1) rfl
  have k1 : Cond.fieldLink RX8 60 "FaxFilterModel" "rows" "I" ∈ wsX8_read := List.mem_of_getElem? (i := 2) rfl
  have k2 : Cond.fieldLink RX8 69 "FaxFilterModel" "place" "I" ∈ wsX8_read := List.mem_of_getElem? (i := 3) rfl
  have k3 : Cond.fieldLink RX8 72 "FaxFilterModel" "damaged" "I" ∈ wsX8_read := List.mem_of_getElem? (i := 4) rfl
  have k4 : Cond.fieldLink RX8 183 "FaxFilterModel" "state" "I" ∈ wsX8_read := List.mem_of_getElem? (i := 5) rfl
  have k5 : Cond.fieldLink RX8 23 "FaxFilterModel" "states" "[I" ∈ wsX8_read := List.mem_of_getElem? (i := 6) rfl
  refine z_aload_n C dX8_read_0 0 rfl ?_
  refine z_iload_n C dX8_read_1 1 rfl ?_
  refine z_if_lt C (by omega) (tgt := 11) dX8_read_2 (by decide) (fun hc_1 => ?_) (fun hc_1 => ?_)
  · exfalso; omega
  · refine z_iload_n C dX8_read_5 1 rfl ?_
    refine z_bipush C (z := 24) dX8_read_6 (by decide) ?_
    refine z_icmp_le C (by omega) (by decide) (tgt := 15) dX8_read_8 (by decide) (fun hc_2 => ?_) (fun hc_2 => ?_)
    · refine z_iconst C (z := 0) dX8_read_15 ?_
      refine z_put C hinX8 tyX8 tyX8_ok nmX8 (ci := 10) rfl 0 rfl 0 (by decide) k0 rfl rfl rfl rfl (Nat.le_of_ble_eq_true rfl) dX8_read_16 (ws' := MW cy b kd co 0 rw cl wr po dm sx aa dk fi bb cz hm se da sa bt oz) rfl ?_
      refine z_aload_n C dX8_read_19 0 rfl ?_
      refine z_get C hinX8 (ci := 10) rfl 0 rfl 0 (by decide) k0 rfl (v := vI 0) rfl dX8_read_20 ?_
      refine z_if_le C (by decide) (tgt := 28) dX8_read_23 (by decide) (fun hc_3 => ?_) (fun hc_3 => ?_)
      rotate_left; · exact absurd hc_3 (by decide)
      refine z_aload_n C dX8_read_28 0 rfl ?_
      refine z_iconst C (z := 0) dX8_read_29 ?_
      refine z_put C hinX8 tyX8 tyX8_ok nmX8 (ci := 10) rfl 0 rfl 6 (by decide) k1 rfl rfl rfl rfl (Nat.le_of_ble_eq_true rfl) dX8_read_30 (ws' := MW cy b kd co 0 0 cl wr po dm sx aa dk fi bb cz hm se da sa bt oz) rfl ?_
      refine z_aload_n C dX8_read_33 0 rfl ?_
      refine z_iconst C (z := 0) dX8_read_34 ?_
      refine z_put C hinX8 tyX8 tyX8_ok nmX8 (ci := 10) rfl 0 rfl 13 (by decide) k2 rfl rfl rfl rfl (Nat.le_of_ble_eq_true rfl) dX8_read_35 (ws' := MW cy b kd co 0 0 cl wr 0 dm sx aa dk fi bb cz hm se da sa bt oz) rfl ?_
      refine z_aload_n C dX8_read_38 0 rfl ?_
      refine z_iconst C (z := 0) dX8_read_39 ?_
      refine z_put C hinX8 tyX8 tyX8_ok nmX8 (ci := 10) rfl 0 rfl 14 (by decide) k3 rfl rfl rfl rfl (Nat.le_of_ble_eq_true rfl) dX8_read_40 (ws' := MW cy b kd co 0 0 cl wr 0 0 sx aa dk fi bb cz hm se da sa bt oz) rfl ?_
      refine z_iconst C (z := 1) dX8_read_43 ?_
      refine z_istore_n C (lv' := [(2, vI 1), (0, .ref (b 0)), (1, vI z)]) dX8_read_44 rfl (by decide) rfl ?_
      have J45 : ∀ (f : Nat) (ok : Bool) (n1 : Int) (q : Int) (d2 : Int) (sx1 : Int) (x : Int) (d : Bool) (fi1 : Bool) (w1 : Int) (w2 : Int) (h : Bool) (w : Nat → Bool) (s2 : Nat → Int) (k : Int) (PP : Int → Int → Bool) (SS : Nat → Int), (0 ≤ k ∧ k ≤ z ∧ 0 ≤ n1 ∧ n1 ≤ k ∧ 0 ≤ d2 ∧ d2 ≤ n1) → (0 ≤ q ∧ q ≤ 8 * cl) → (ok = true → k = n1) → (PR (pd w) co n1 PP) → (SR s2 n1 SS) → ((ok = true ∧ rdAll (inC bt cl) (8 * cl) co kd (se 0) (se 1) (se 3) (z : Int).toNat 0 0 0 P00 S00 = rdAll (inC bt cl) (8 * cl) co kd (se 0) (se 1) (se 3) (z - k).toNat n1 q d2 PP SS) ∨ (ok = false ∧ rdAll (inC bt cl) (8 * cl) co kd (se 0) (se 1) (se 3) (z : Int).toNat 0 0 0 P00 S00 = (n1, q, d2, PP, SS))) → (z - k).toNat < f → V 0 0 (MW cy b kd co 0 n1 cl wr q d2 sx1 x d fi1 w1 w2 h se w s2 bt oz) [(0, .ref (b 0)), (1, vI z), (2, vI (b2i ok))] [] 45 := by
        intro f
        induction f with
        | zero => intro ok n1 q d2 sx1 x d fi1 w1 w2 h w s2 k PP SS i0 iq ik hPR hSR hRR hf; exact absurd hf (Nat.not_lt_zero _)
        | succ f ih =>
          intro ok n1 q d2 sx1 x d fi1 w1 w2 h w s2 k PP SS i0 iq ik hPR hSR hRR hf
          refine z_iload_n C dX8_read_45 2 rfl ?_
          refine z_ifz C (tgt := 197) dX8_read_46 (by decide) (fun cok => ?_) (fun cok => ?_)
          · refine z_aload_n C dX8_read_197 0 rfl ?_
            refine z_get C hinX8 (ci := 10) rfl 0 rfl 6 (by decide) k1 rfl (v := vI n1) rfl dX8_read_198 ?_
            refine z_iret (x := n1) C dX8_read_201 (sx1, x, d, fi1, w1, w2, h, w, s2) ?_ ?_ ?_ (by decide) (by decide)
            · have i5 : rdAll (inC bt cl) (8 * cl) co kd (se 0) (se 1) (se 3) (z : Int).toNat 0 0 0 P00 S00 = (n1, q, d2, PP, SS) := by
                rcases hRR with ⟨y1, y2⟩ | ⟨y1, y2⟩
                · rw [y1] at cok; exact absurd cok (by decide)
                · exact y2
              rw [i5]
            · have i5 : rdAll (inC bt cl) (8 * cl) co kd (se 0) (se 1) (se 3) (z : Int).toNat 0 0 0 P00 S00 = (n1, q, d2, PP, SS) := by
                rcases hRR with ⟨y1, y2⟩ | ⟨y1, y2⟩
                · rw [y1] at cok; exact absurd cok (by decide)
                · exact y2
              rw [i5]; exact ⟨⟨hPR, hSR⟩, ⟨by dsimp only; omega, by dsimp only; omega⟩, iq, by dsimp only; omega, by dsimp only; omega⟩
            · have i5 : rdAll (inC bt cl) (8 * cl) co kd (se 0) (se 1) (se 3) (z : Int).toNat 0 0 0 P00 S00 = (n1, q, d2, PP, SS) := by
                rcases hRR with ⟨y1, y2⟩ | ⟨y1, y2⟩
                · rw [y1] at cok; exact absurd cok (by decide)
                · exact y2
              rw [i5]
          · obtain ⟨hok, hR0⟩ := hRR.resolve_right (fun y => by rw [cok] at y; exact absurd y.1 (by decide))
            have hkn := ik cok
            refine z_aload_n C dX8_read_49 0 rfl ?_
            refine z_get C hinX8 (ci := 10) rfl 0 rfl 6 (by decide) k1 rfl (v := vI n1) rfl dX8_read_50 ?_
            refine z_iload_n C dX8_read_53 1 rfl ?_
            refine z_icmp_ge C (by omega) (by omega) (tgt := 197) dX8_read_54 (by decide) (fun hc_4 => ?_) (fun hc_4 => ?_)
            · refine z_aload_n C dX8_read_197 0 rfl ?_
              refine z_get C hinX8 (ci := 10) rfl 0 rfl 6 (by decide) k1 rfl (v := vI n1) rfl dX8_read_198 ?_
              refine z_iret (x := n1) C dX8_read_201 (sx1, x, d, fi1, w1, w2, h, w, s2) ?_ ?_ ?_ (by decide) (by decide)
              · have i5 : rdAll (inC bt cl) (8 * cl) co kd (se 0) (se 1) (se 3) (z : Int).toNat 0 0 0 P00 S00 = (n1, q, d2, PP, SS) := by
                  rcases hRR with ⟨y1, y2⟩ | ⟨y1, y2⟩
                  · rw [y2, show (z - k).toNat = 0 by have := ik y1; omega, rdAll]
                  · exact y2
                rw [i5]
              · have i5 : rdAll (inC bt cl) (8 * cl) co kd (se 0) (se 1) (se 3) (z : Int).toNat 0 0 0 P00 S00 = (n1, q, d2, PP, SS) := by
                  rcases hRR with ⟨y1, y2⟩ | ⟨y1, y2⟩
                  · rw [y2, show (z - k).toNat = 0 by have := ik y1; omega, rdAll]
                  · exact y2
                rw [i5]; exact ⟨⟨hPR, hSR⟩, ⟨by dsimp only; omega, by dsimp only; omega⟩, iq, by dsimp only; omega, by dsimp only; omega⟩
              · have i5 : rdAll (inC bt cl) (8 * cl) co kd (se 0) (se 1) (se 3) (z : Int).toNat 0 0 0 P00 S00 = (n1, q, d2, PP, SS) := by
                  rcases hRR with ⟨y1, y2⟩ | ⟨y1, y2⟩
                  · rw [y2, show (z - k).toNat = 0 by have := ik y1; omega, rdAll]
                  · exact y2
                rw [i5]
            · refine z_aload_n C dX8_read_57 0 rfl ?_
              refine z_callV C (As := []) (st := []) (c_X8_readHead l D cy tw b kd co 0 n1 cl wr q d2 sx1 x d fi1 w1 w2 h se w s2 bt oz   (by omega) (by omega) (hbt) (by omega)) gX8_read_X8_readHead kn_X8_readHead rfl ⟨rfl, rfl, Nat.le_of_ble_eq_true rfl, Nat.le_of_ble_eq_true rfl⟩ 0 rfl (ci := 10) rfl rfl (Nat.le_of_ble_eq_true rfl) ⟨Nat.le_of_ble_eq_true rfl, Nat.le_of_ble_eq_true rfl⟩ dX8_read_58 (fun u5 hu5 => ?_)
              clear hu5; clear u5
              show V 0 0 (MW cy b kd co 0 n1 cl wr ((hd (inC bt cl) (8 * cl) kd (se 0) (se 1) q).2.2) d2 sx1 x d fi1 w1 w2 h se w s2 bt oz) [(0, .ref (b 0)), (1, vI z), (2, vI (b2i ok))] [vI (hdV (hd (inC bt cl) (8 * cl) kd (se 0) (se 1) q))] 61
              obtain ⟨p2, ep2⟩ : ∃ z, z = ((hd (inC bt cl) (8 * cl) kd (se 0) (se 1) q).2.2) := ⟨_, rfl⟩
              rw [← ep2]
              refine z_nmI (fun way eway => ?_)
              refine z_istore_n C (lv' := [(3, vI way), (0, .ref (b 0)), (1, vI z), (2, vI (b2i ok))]) dX8_read_61 rfl (by decide) rfl ?_
              have hhr : 0 ≤ p2 ∧ p2 ≤ 8 * cl := by rw [ep2]; exact hd_rg _ _ kd (se 0) (se 1) (by omega) (by omega) cl rfl
              have hway : -1 ≤ way ∧ way ≤ 1 := by rw [eway]; exact hdV_rg _
              refine z_aload_n C dX8_read_62 1 rfl ?_
              refine z_iconst C (z := 0) dX8_read_63 ?_
              refine z_put C hinX8 tyX8 tyX8_ok nmX8 (ci := 10) rfl 0 rfl 15 (by decide) k4 rfl rfl rfl rfl (Nat.le_of_ble_eq_true rfl) dX8_read_64 (ws' := MW cy b kd co 0 n1 cl wr p2 d2 0 x d fi1 w1 w2 h se w s2 bt oz) rfl ?_
              refine z_aload_n C dX8_read_67 1 rfl ?_
              refine z_aload_n C dX8_read_68 1 rfl ?_
              refine z_get C hinX8 (ci := 10) rfl 0 rfl 6 (by decide) k1 rfl (v := vI n1) rfl dX8_read_69 ?_
              refine z_iconst C (z := 0) dX8_read_72 ?_
              refine z_sipush C (z := 700) dX8_read_73 (by decide) ?_
              refine z_iconst C (z := 0) dX8_read_76 ?_
              refine z_callV C (As := [vI n1, vI 0, vI 700, vI 0]) (st := []) (c_X8_paint l D cy tw b kd co 0 n1 cl wr p2 d2 0 x d fi1 w1 w2 h se w s2 bt oz n1 0 700 false  (by omega) (by omega) (by omega) (by omega)) gX8_read_X8_paint kn_X8_paint rfl ⟨rfl, rfl, Nat.le_of_ble_eq_true rfl, Nat.le_of_ble_eq_true rfl⟩ 0 rfl (ci := 10) rfl rfl (Nat.le_of_ble_eq_true rfl) ⟨Nat.le_of_ble_eq_true rfl, Nat.le_of_ble_eq_true rfl⟩ dX8_read_77 (fun u6 hu6 => ?_)
              clear hu6; clear u6
              show V 0 0 (MW cy b kd co 0 n1 cl wr p2 d2 0 x d fi1 w1 w2 h se (pnM w n1 0 700 false) s2 bt oz) [(3, vI way), (0, .ref (b 0)), (1, vI z), (2, vI (b2i ok))] [] 80
              obtain ⟨w0, ew0⟩ : ∃ z, z = (pnM w n1 0 700 false) := ⟨_, rfl⟩
              rw [← ew0]
              refine z_iload_n C dX8_read_80 0 rfl ?_
              have hw0 : RM w w0 co n1 (fun _ => false) := by rw [ew0]; exact RM_wh w (by omega) hco.2
              refine z_if_lt C (by omega) (tgt := 118) dX8_read_81 (by decide) (fun hc_7 => ?_) (fun hc_7 => ?_)
              · have hhf : (hd (inC bt cl) (8 * cl) kd (se 0) (se 1) q).1 = false := by
                  cases y9 : (hd (inC bt cl) (8 * cl) kd (se 0) (se 1) q).1 with
                  | false => rfl
                  | true => rw [hdV, y9, if_pos rfl] at eway; have := b2i_01 (hd (inC bt cl) (8 * cl) kd (se 0) (se 1) q).2.1; omega
                refine z_iconst C (z := 0) dX8_read_118 ?_
                refine z_istore_n C (lv' := [(2, vI 0), (3, vI way), (0, .ref (b 0)), (1, vI z)]) dX8_read_119 rfl (by decide) rfl ?_
                refine z_iload_n C dX8_read_120 0 rfl ?_
                refine z_if_eq C (by decide) (tgt := 194) dX8_read_121 (by decide) (fun hc_8 => ?_) (fun hc_8 => ?_)
                rotate_left; · exact absurd hc_8 (by decide)
                have i5 : rdAll (inC bt cl) (8 * cl) co kd (se 0) (se 1) (se 3) (z : Int).toNat 0 0 0 P00 S00 = (n1, p2, d2, PP, SS) := by rw [hR0, show (z - k).toNat = (z - (k + 1)).toNat + 1 by omega, ra_end hhf, ← ep2]
                have hP3 := PR_keep (F' := pd w0) hPR (fun r j h1 h2 => hw0.2 r j h1 (by omega))
                refine z_goto C (tgt := 45) dX8_read_194 (by decide) ?_
                refine z_lsub C [2, 3, 0] rfl ?_
                exact ih false n1 p2 d2 0 x d fi1 w1 w2 h w0 s2 (k + 1) PP SS (by omega) (by omega) (fun y => absurd y (by decide)) (hP3) (hSR) (Or.inr ⟨rfl, i5⟩) (by omega)
              · have hht : (hd (inC bt cl) (8 * cl) kd (se 0) (se 1) q).1 = true := by
                  cases y9 : (hd (inC bt cl) (8 * cl) kd (se 0) (se 1) q).1 with
                  | true => rfl
                  | false => rw [hdV, y9, if_neg (by decide)] at eway; omega
                rw [hdV, hht, if_pos rfl] at eway
                refine z_iload_n C dX8_read_84 0 rfl ?_
                refine z_iconst C (z := 1) dX8_read_85 ?_
                refine z_icmp_ne C (by omega) (by decide) (tgt := 103) dX8_read_86 (by decide) (fun hc_9 => ?_) (fun hc_9 => ?_)
                · have hpl : (hd (inC bt cl) (8 * cl) kd (se 0) (se 1) q).2.1 = false := by
                    cases y9 : (hd (inC bt cl) (8 * cl) kd (se 0) (se 1) q).2.1 with
                    | false => rfl
                    | true => rw [y9, b2i_t] at eway; omega
                  refine z_aload_n C dX8_read_103 1 rfl ?_
                  refine z_aload_n C dX8_read_104 1 rfl ?_
                  refine z_get C hinX8 (ci := 10) rfl 0 rfl 6 (by decide) k1 rfl (v := vI n1) rfl dX8_read_105 ?_
                  refine z_callV C (As := [vI n1]) (st := []) (c_X8_readDrawn l D cy tw b kd co 0 n1 cl wr p2 d2 x d fi1 w1 w2 h se w0 s2 bt oz n1 (fun _ => false) (by omega) (by omega) (by omega) (by omega) (hbt) (by omega) (⟨hw0.1, fun _ _ _ _ => rfl⟩)) gX8_read_X8_readDrawn kn_X8_readDrawn rfl ⟨rfl, rfl, Nat.le_of_ble_eq_true rfl, Nat.le_of_ble_eq_true rfl⟩ 0 rfl (ci := 10) rfl rfl (Nat.le_of_ble_eq_true rfl) ⟨Nat.le_of_ble_eq_true rfl, Nat.le_of_ble_eq_true rfl⟩ dX8_read_108 (fun u10 hu10 => ?_)
                  show V 0 0 (MW cy b kd co 0 n1 cl wr ((rdDr (inC bt cl) (8 * cl) co (pd w0 (n1 - 1)) 3201 p2 0 false true false (fun _ => false)).2.1) d2 u10.1 u10.2.1 u10.2.2.1 u10.2.2.2.1 u10.2.2.2.2.1 u10.2.2.2.2.2.1 u10.2.2.2.2.2.2.2 se u10.2.2.2.2.2.2.1 s2 bt oz) [(3, vI way), (0, .ref (b 0)), (1, vI z), (2, vI (b2i ok))] [vI (b2i (decide (¬ (rdDr (inC bt cl) (8 * cl) co (pd w0 (n1 - 1)) 3201 p2 0 false true false (fun _ => false)).1 = -1)))] 111
                  obtain ⟨qq, eqq⟩ : ∃ z, z = rdDr (inC bt cl) (8 * cl) co (pd w0 (n1 - 1)) 3201 p2 0 false true false (fun _ => false) := ⟨_, rfl⟩
                  rw [← eqq] at hu10 ⊢
                  have hqq : qq = rdQ (inC bt cl) (8 * cl) co kd (se 0) (se 1) PP n1 q := by
                    rw [eqq, rdQ, hpl, ← ep2, rdRow, if_neg (by decide)]
                    exact rdDr_cg (fun j hj => by rw [hw0.2 (n1 - 1) j (by omega) (by omega)]; exact hPR (n1 - 1) j (by omega) (by omega) hj) _ _ _ _ _ _ _
                  obtain ⟨hw3, hsx3⟩ := hu10
                  have hqr : (p2 ≤ qq.2.1 ∧ qq.2.1 ≤ 8 * cl) ∧ -1 ≤ qq.1 ∧ qq.1 ≤ 3 := by rw [hqq, rdQ, ← ep2]; exact rdRow_rg _ _ _ _ _ _ _ (by omega) (by omega)
                  obtain ⟨w3, ew3⟩ : ∃ z, z = u10.2.2.2.2.2.2.1 := ⟨_, rfl⟩
                  rw [← ew3]
                  obtain ⟨sv, esv⟩ : ∃ z, z = u10.1 := ⟨_, rfl⟩
                  rw [← esv]
                  refine z_ifz C (tgt := 118) dX8_read_111 (by decide) (fun cr => ?_) (fun cr => ?_)
                  · rw [← ew3] at hw3
                    have hm1 : qq.1 = -1 := Classical.byContradiction (fun y => of_decide_eq_false cr y)
                    refine z_iconst C (z := 0) dX8_read_118 ?_
                    refine z_istore_n C (lv' := [(2, vI 0), (3, vI way), (0, .ref (b 0)), (1, vI z)]) dX8_read_119 rfl (by decide) rfl ?_
                    refine z_iload_n C dX8_read_120 0 rfl ?_
                    refine z_if_eq C (by decide) (tgt := 194) dX8_read_121 (by decide) (fun hc_11 => ?_) (fun hc_11 => ?_)
                    rotate_left; · exact absurd hc_11 (by decide)
                    obtain ⟨P3, S3, i5, hP3, hS3⟩ := ra_step (n := (z - (k + 1)).toNat) (dm := d2) (rd := se 3) (q := qq) (F := pd w) (F' := pd w3) (sa := s2) (s3 := s2) (n2 := n1) (p3 := qq.2.1) (d3 := d2) (bv := false) hht hqq (by rw [decide_eq_false (p := ¬ qq.1 = -1) (fun y => y hm1)]; rfl) (by omega) (by rw [if_pos hm1]) (rfl) (by rw [if_neg (by omega)]) (by rw [if_pos hm1]) hPR hSR (fun r j h1 h2 => by rw [hw3.2 r j h1 (by omega)]; exact hw0.2 r j h1 (by omega)) (fun j hj => pd_neg _ hj) (fun y => absurd hm1 y)
                    rw [show (z - (k + 1)).toNat + 1 = (z - k).toNat by omega, ← hR0] at i5
                    rw [if_neg (by decide)] at i5
                    refine z_goto C (tgt := 45) dX8_read_194 (by decide) ?_
                    refine z_lsub C [2, 3, 0] rfl ?_
                    exact ih false n1 qq.2.1 d2 sv u10.2.1 u10.2.2.1 u10.2.2.2.1 u10.2.2.2.2.1 u10.2.2.2.2.2.1 u10.2.2.2.2.2.2.2 w3 s2 (k + 1) P3 S3 (by omega) (by omega) (fun y => absurd y (by decide)) (hP3) (hS3) (Or.inr ⟨rfl, i5⟩) (by omega)
                  · rw [← ew3] at hw3
                    rw [← esv] at hsx3
                    have hm1 : ¬ qq.1 = -1 := of_decide_eq_true cr
                    have hsx4 := hsx3 hm1
                    refine z_iconst C (z := 1) dX8_read_114 ?_
                    refine z_goto C (tgt := 119) dX8_read_115 (by decide) ?_
                    refine z_istore_n C (lv' := [(2, vI 1), (3, vI way), (0, .ref (b 0)), (1, vI z)]) dX8_read_119 rfl (by decide) rfl ?_
                    refine z_iload_n C dX8_read_120 0 rfl ?_
                    refine z_if_eq C (by decide) (tgt := 194) dX8_read_121 (by decide) (fun hc_12 => ?_) (fun hc_12 => ?_)
                    · exact absurd hc_12 (by decide)
                    refine z_aload_n C dX8_read_124 2 rfl ?_
                    refine z_get C hinX8 (ci := 10) rfl 0 rfl 8 (by decide) k5 rfl (v := .ref (b 5)) rfl dX8_read_125 ?_
                    refine z_aload_n C dX8_read_128 2 rfl ?_
                    refine z_get C hinX8 (ci := 10) rfl 0 rfl 6 (by decide) k1 rfl (v := vI n1) rfl dX8_read_129 ?_
                    refine z_aload_n C dX8_read_132 2 rfl ?_
                    refine z_get C hinX8 (ci := 10) rfl 0 rfl 15 (by decide) k4 rfl (v := vI sv) rfl dX8_read_133 ?_
                    refine z_iast C 5 1 (g := s2) rfl rfl (by omega) (by omega) (by decide) dX8_read_136 (ws' := MW cy b kd co 0 n1 cl wr qq.2.1 d2 sv u10.2.1 u10.2.2.1 u10.2.2.2.1 u10.2.2.2.2.1 u10.2.2.2.2.2.1 u10.2.2.2.2.2.2.2 se w3 (va_up s2 (n1 : Int).toNat sv) bt oz) rfl ?_
                    refine z_aload_n C dX8_read_137 2 rfl ?_
                    refine z_get C hinX8 (ci := 10) rfl 0 rfl 15 (by decide) k4 rfl (v := vI sv) rfl dX8_read_138 ?_
                    refine z_iconst C (z := 3) dX8_read_141 ?_
                    refine z_icmp_ne C (by omega) (by decide) (tgt := 184) dX8_read_142 (by decide) (fun hc_13 => ?_) (fun hc_13 => ?_)
                    · refine z_aload_n C dX8_read_184 2 rfl ?_
                      refine z_dup C dX8_read_185 rfl ?_
                      refine z_get C hinX8 (ci := 10) rfl 0 rfl 6 (by decide) k1 rfl (v := vI n1) rfl dX8_read_186 ?_
                      refine z_iconst C (z := 1) dX8_read_189 ?_
                      refine z_iadd C dX8_read_190 ?_
                      refine z_put C hinX8 tyX8 tyX8_ok nmX8 (ci := 10) rfl 0 rfl 6 (by decide) k1 rfl rfl rfl rfl (Nat.le_of_ble_eq_true rfl) dX8_read_191 (ws' := MW cy b kd co 0 (n1 + 1) cl wr qq.2.1 d2 sv u10.2.1 u10.2.2.1 u10.2.2.2.1 u10.2.2.2.2.1 u10.2.2.2.2.2.1 u10.2.2.2.2.2.2.2 se w3 (va_up s2 (n1 : Int).toNat sv) bt oz) rfl ?_
                      obtain ⟨P3, S3, i5, hP3, hS3⟩ := ra_step (n := (z - (k + 1)).toNat) (dm := d2) (rd := se 3) (q := qq) (F := pd w) (F' := pd w3) (sa := s2) (s3 := (va_up s2 (n1 : Int).toNat sv)) (n2 := (n1 + 1)) (p3 := qq.2.1) (d3 := d2) (bv := true) hht hqq (by rw [decide_eq_true (p := ¬ qq.1 = -1) hm1, decide_eq_true (p := ¬ qq.1 = 3) (by omega)]; rfl) (by omega) (by rw [if_neg hm1]) (rfl) (by rw [if_neg (by omega)]) (by rw [if_neg hm1, hsx4]) hPR hSR (fun r j h1 h2 => by rw [hw3.2 r j h1 (by omega)]; exact hw0.2 r j h1 (by omega)) (fun j hj => pd_neg _ hj) (fun y j h1 h2 => by rw [if_neg (by omega)]; exact hw3.1 j h1 h2)
                      rw [show (z - (k + 1)).toNat + 1 = (z - k).toNat by omega, ← hR0] at i5
                      rw [if_pos rfl] at i5
                      refine z_goto C (tgt := 45) dX8_read_194 (by decide) ?_
                      refine z_lsub C [2, 3, 0] rfl ?_
                      exact ih true (n1 + 1) qq.2.1 d2 sv u10.2.1 u10.2.2.1 u10.2.2.2.1 u10.2.2.2.2.1 u10.2.2.2.2.2.1 u10.2.2.2.2.2.2.2 w3 (va_up s2 (n1 : Int).toNat sv) (k + 1) P3 S3 (by omega) (by omega) (fun _ => by omega) (hP3) (hS3) (Or.inl ⟨rfl, i5⟩) (by omega)
                    · refine z_aload_n C dX8_read_145 2 rfl ?_
                      refine z_aload_n C dX8_read_146 2 rfl ?_
                      refine z_get C hinX8 (ci := 10) rfl 0 rfl 6 (by decide) k1 rfl (v := vI n1) rfl dX8_read_147 ?_
                      refine z_callV C (As := [vI n1]) (st := []) (c_X8_repair l D cy tw b kd co 0 n1 cl wr qq.2.1 d2 sv u10.2.1 u10.2.2.1 u10.2.2.2.1 u10.2.2.2.2.1 u10.2.2.2.2.2.1 u10.2.2.2.2.2.2.2 se w3 (va_up s2 (n1 : Int).toNat sv) bt oz n1  (by omega) (by omega)) gX8_read_X8_repair kn_X8_repair rfl ⟨rfl, rfl, Nat.le_of_ble_eq_true rfl, Nat.le_of_ble_eq_true rfl⟩ 0 rfl (ci := 10) rfl rfl (Nat.le_of_ble_eq_true rfl) ⟨Nat.le_of_ble_eq_true rfl, Nat.le_of_ble_eq_true rfl⟩ dX8_read_150 (fun u14 hu14 => ?_)
                      clear hu14; clear u14
                      show V 0 0 (MW cy b kd co 0 n1 cl wr qq.2.1 d2 sv u10.2.1 u10.2.2.1 u10.2.2.2.1 u10.2.2.2.2.1 u10.2.2.2.2.2.1 u10.2.2.2.2.2.2.2 se (rpM w3 n1 (se 3) co) (va_up s2 (n1 : Int).toNat sv) bt oz) [(2, vI 1), (3, vI way), (0, .ref (b 0)), (1, vI z)] [] 153
                      have hw4 := RM_rp (se 3) (by omega : 0 ≤ n1) hco hw3
                      refine z_aload_n C dX8_read_153 2 rfl ?_
                      refine z_dup C dX8_read_154 rfl ?_
                      refine z_get C hinX8 (ci := 10) rfl 0 rfl 14 (by decide) k3 rfl (v := vI d2) rfl dX8_read_155 ?_
                      refine z_iconst C (z := 1) dX8_read_158 ?_
                      refine z_iadd C dX8_read_159 ?_
                      refine z_put C hinX8 tyX8 tyX8_ok nmX8 (ci := 10) rfl 0 rfl 14 (by decide) k3 rfl rfl rfl rfl (Nat.le_of_ble_eq_true rfl) dX8_read_160 (ws' := MW cy b kd co 0 n1 cl wr qq.2.1 (d2 + 1) sv u10.2.1 u10.2.2.1 u10.2.2.2.1 u10.2.2.2.2.1 u10.2.2.2.2.2.1 u10.2.2.2.2.2.2.2 se (rpM w3 n1 (se 3) co) (va_up s2 (n1 : Int).toNat sv) bt oz) rfl ?_
                      refine z_aload_n C dX8_read_163 2 rfl ?_
                      refine z_callV C (As := []) (st := []) (c_X8_hasMarks l D cy tw b kd co 0 n1 cl wr qq.2.1 (d2 + 1) sv u10.2.1 u10.2.2.1 u10.2.2.2.1 u10.2.2.2.2.1 u10.2.2.2.2.2.1 u10.2.2.2.2.2.2.2 se (rpM w3 n1 (se 3) co) (va_up s2 (n1 : Int).toNat sv) bt oz   (by omega)) gX8_read_X8_hasMarks kn_X8_hasMarks rfl ⟨rfl, rfl, Nat.le_of_ble_eq_true rfl, Nat.le_of_ble_eq_true rfl⟩ 0 rfl (ci := 10) rfl rfl (Nat.le_of_ble_eq_true rfl) ⟨Nat.le_of_ble_eq_true rfl, Nat.le_of_ble_eq_true rfl⟩ dX8_read_164 (fun u15 hu15 => ?_)
                      clear hu15; clear u15
                      show V 0 0 (MW cy b kd co 0 n1 cl wr qq.2.1 (d2 + 1) sv u10.2.1 u10.2.2.1 u10.2.2.2.1 u10.2.2.2.2.1 u10.2.2.2.2.2.1 u10.2.2.2.2.2.2.2 se (rpM w3 n1 (se 3) co) (va_up s2 (n1 : Int).toNat sv) bt oz) [(2, vI 1), (3, vI way), (0, .ref (b 0)), (1, vI z)] [vI (b2i (hasMk kd (se 0)))] 167
                      refine z_ifz C (tgt := 182) dX8_read_167 (by decide) (fun cmk => ?_) (fun cmk => ?_)
                      · refine z_iconst C (z := 0) dX8_read_182 ?_
                        refine z_istore_n C (lv' := [(2, vI 0), (3, vI way), (0, .ref (b 0)), (1, vI z)]) dX8_read_183 rfl (by decide) rfl ?_
                        refine z_aload_n C dX8_read_184 2 rfl ?_
                        refine z_dup C dX8_read_185 rfl ?_
                        refine z_get C hinX8 (ci := 10) rfl 0 rfl 6 (by decide) k1 rfl (v := vI n1) rfl dX8_read_186 ?_
                        refine z_iconst C (z := 1) dX8_read_189 ?_
                        refine z_iadd C dX8_read_190 ?_
                        refine z_put C hinX8 tyX8 tyX8_ok nmX8 (ci := 10) rfl 0 rfl 6 (by decide) k1 rfl rfl rfl rfl (Nat.le_of_ble_eq_true rfl) dX8_read_191 (ws' := MW cy b kd co 0 (n1 + 1) cl wr qq.2.1 (d2 + 1) sv u10.2.1 u10.2.2.1 u10.2.2.2.1 u10.2.2.2.2.1 u10.2.2.2.2.2.1 u10.2.2.2.2.2.2.2 se (rpM w3 n1 (se 3) co) (va_up s2 (n1 : Int).toNat sv) bt oz) rfl ?_
                        obtain ⟨P3, S3, i5, hP3, hS3⟩ := ra_step (n := (z - (k + 1)).toNat) (dm := d2) (rd := se 3) (q := qq) (F := pd w) (F' := pd (rpM w3 n1 (se 3) co)) (sa := s2) (s3 := (va_up s2 (n1 : Int).toNat sv)) (n2 := (n1 + 1)) (p3 := qq.2.1) (d3 := (d2 + 1)) (bv := false) hht hqq (by rw [decide_eq_true (p := ¬ qq.1 = -1) hm1, decide_eq_false (p := ¬ qq.1 = 3) (by omega), cmk]; rfl) (by omega) (by rw [if_neg hm1]) (rfl) (by rw [if_pos (by omega)]) (by rw [if_neg hm1, hsx4]) hPR hSR (fun r j h1 h2 => by rw [hw4.2 r j h1 (by omega)]; exact hw0.2 r j h1 (by omega)) (fun j hj => pd_neg _ hj) (fun y j h1 h2 => by rw [if_pos (by omega)]; exact (hw4.1 j h1 h2).trans (by show (if se 3 = true then pd w0 (n1 - 1) j else false) = _; rw [hw0.2 (n1 - 1) j (by omega) (by omega)]))
                        rw [show (z - (k + 1)).toNat + 1 = (z - k).toNat by omega, ← hR0] at i5
                        rw [if_neg (by decide)] at i5
                        refine z_goto C (tgt := 45) dX8_read_194 (by decide) ?_
                        refine z_lsub C [2, 3, 0] rfl ?_
                        exact ih false (n1 + 1) qq.2.1 (d2 + 1) sv u10.2.1 u10.2.2.1 u10.2.2.2.1 u10.2.2.2.2.1 u10.2.2.2.2.2.1 u10.2.2.2.2.2.2.2 (rpM w3 n1 (se 3) co) (va_up s2 (n1 : Int).toNat sv) (k + 1) P3 S3 (by omega) (by omega) (fun y => absurd y (by decide)) (hP3) (hS3) (Or.inr ⟨rfl, i5⟩) (by omega)
                      · refine z_aload_n C dX8_read_170 2 rfl ?_
                        refine z_get C hinX8 (ci := 10) rfl 0 rfl 14 (by decide) k3 rfl (v := vI (d2 + 1)) rfl dX8_read_171 ?_
                        refine z_iconst C (z := 5) dX8_read_174 ?_
                        refine z_icmp_ge C (by omega) (by decide) (tgt := 182) dX8_read_175 (by decide) (fun hc_16 => ?_) (fun hc_16 => ?_)
                        · refine z_iconst C (z := 0) dX8_read_182 ?_
                          refine z_istore_n C (lv' := [(2, vI 0), (3, vI way), (0, .ref (b 0)), (1, vI z)]) dX8_read_183 rfl (by decide) rfl ?_
                          refine z_aload_n C dX8_read_184 2 rfl ?_
                          refine z_dup C dX8_read_185 rfl ?_
                          refine z_get C hinX8 (ci := 10) rfl 0 rfl 6 (by decide) k1 rfl (v := vI n1) rfl dX8_read_186 ?_
                          refine z_iconst C (z := 1) dX8_read_189 ?_
                          refine z_iadd C dX8_read_190 ?_
                          refine z_put C hinX8 tyX8 tyX8_ok nmX8 (ci := 10) rfl 0 rfl 6 (by decide) k1 rfl rfl rfl rfl (Nat.le_of_ble_eq_true rfl) dX8_read_191 (ws' := MW cy b kd co 0 (n1 + 1) cl wr qq.2.1 (d2 + 1) sv u10.2.1 u10.2.2.1 u10.2.2.2.1 u10.2.2.2.2.1 u10.2.2.2.2.2.1 u10.2.2.2.2.2.2.2 se (rpM w3 n1 (se 3) co) (va_up s2 (n1 : Int).toNat sv) bt oz) rfl ?_
                          obtain ⟨P3, S3, i5, hP3, hS3⟩ := ra_step (n := (z - (k + 1)).toNat) (dm := d2) (rd := se 3) (q := qq) (F := pd w) (F' := pd (rpM w3 n1 (se 3) co)) (sa := s2) (s3 := (va_up s2 (n1 : Int).toNat sv)) (n2 := (n1 + 1)) (p3 := qq.2.1) (d3 := (d2 + 1)) (bv := false) hht hqq (by rw [decide_eq_true (p := ¬ qq.1 = -1) hm1, decide_eq_false (p := ¬ qq.1 = 3) (by omega), cmk, decide_eq_false (p := d2 + 1 < 5) (by omega)]; rfl) (by omega) (by rw [if_neg hm1]) (rfl) (by rw [if_pos (by omega)]) (by rw [if_neg hm1, hsx4]) hPR hSR (fun r j h1 h2 => by rw [hw4.2 r j h1 (by omega)]; exact hw0.2 r j h1 (by omega)) (fun j hj => pd_neg _ hj) (fun y j h1 h2 => by rw [if_pos (by omega)]; exact (hw4.1 j h1 h2).trans (by show (if se 3 = true then pd w0 (n1 - 1) j else false) = _; rw [hw0.2 (n1 - 1) j (by omega) (by omega)]))
                          rw [show (z - (k + 1)).toNat + 1 = (z - k).toNat by omega, ← hR0] at i5
                          rw [if_neg (by decide)] at i5
                          refine z_goto C (tgt := 45) dX8_read_194 (by decide) ?_
                          refine z_lsub C [2, 3, 0] rfl ?_
                          exact ih false (n1 + 1) qq.2.1 (d2 + 1) sv u10.2.1 u10.2.2.1 u10.2.2.2.1 u10.2.2.2.2.1 u10.2.2.2.2.2.1 u10.2.2.2.2.2.2.2 (rpM w3 n1 (se 3) co) (va_up s2 (n1 : Int).toNat sv) (k + 1) P3 S3 (by omega) (by omega) (fun y => absurd y (by decide)) (hP3) (hS3) (Or.inr ⟨rfl, i5⟩) (by omega)
                        · refine z_iconst C (z := 1) dX8_read_178 ?_
                          refine z_goto C (tgt := 183) dX8_read_179 (by decide) ?_
                          refine z_istore_n C (lv' := [(2, vI 1), (3, vI way), (0, .ref (b 0)), (1, vI z)]) dX8_read_183 rfl (by decide) rfl ?_
                          refine z_aload_n C dX8_read_184 2 rfl ?_
                          refine z_dup C dX8_read_185 rfl ?_
                          refine z_get C hinX8 (ci := 10) rfl 0 rfl 6 (by decide) k1 rfl (v := vI n1) rfl dX8_read_186 ?_
                          refine z_iconst C (z := 1) dX8_read_189 ?_
                          refine z_iadd C dX8_read_190 ?_
                          refine z_put C hinX8 tyX8 tyX8_ok nmX8 (ci := 10) rfl 0 rfl 6 (by decide) k1 rfl rfl rfl rfl (Nat.le_of_ble_eq_true rfl) dX8_read_191 (ws' := MW cy b kd co 0 (n1 + 1) cl wr qq.2.1 (d2 + 1) sv u10.2.1 u10.2.2.1 u10.2.2.2.1 u10.2.2.2.2.1 u10.2.2.2.2.2.1 u10.2.2.2.2.2.2.2 se (rpM w3 n1 (se 3) co) (va_up s2 (n1 : Int).toNat sv) bt oz) rfl ?_
                          obtain ⟨P3, S3, i5, hP3, hS3⟩ := ra_step (n := (z - (k + 1)).toNat) (dm := d2) (rd := se 3) (q := qq) (F := pd w) (F' := pd (rpM w3 n1 (se 3) co)) (sa := s2) (s3 := (va_up s2 (n1 : Int).toNat sv)) (n2 := (n1 + 1)) (p3 := qq.2.1) (d3 := (d2 + 1)) (bv := true) hht hqq (by rw [decide_eq_true (p := ¬ qq.1 = -1) hm1, decide_eq_false (p := ¬ qq.1 = 3) (by omega), cmk, decide_eq_true (p := d2 + 1 < 5) (by omega)]; rfl) (by omega) (by rw [if_neg hm1]) (rfl) (by rw [if_pos (by omega)]) (by rw [if_neg hm1, hsx4]) hPR hSR (fun r j h1 h2 => by rw [hw4.2 r j h1 (by omega)]; exact hw0.2 r j h1 (by omega)) (fun j hj => pd_neg _ hj) (fun y j h1 h2 => by rw [if_pos (by omega)]; exact (hw4.1 j h1 h2).trans (by show (if se 3 = true then pd w0 (n1 - 1) j else false) = _; rw [hw0.2 (n1 - 1) j (by omega) (by omega)]))
                          rw [show (z - (k + 1)).toNat + 1 = (z - k).toNat by omega, ← hR0] at i5
                          rw [if_pos rfl] at i5
                          refine z_goto C (tgt := 45) dX8_read_194 (by decide) ?_
                          refine z_lsub C [2, 3, 0] rfl ?_
                          exact ih true (n1 + 1) qq.2.1 (d2 + 1) sv u10.2.1 u10.2.2.1 u10.2.2.2.1 u10.2.2.2.2.1 u10.2.2.2.2.2.1 u10.2.2.2.2.2.2.2 (rpM w3 n1 (se 3) co) (va_up s2 (n1 : Int).toNat sv) (k + 1) P3 S3 (by omega) (by omega) (fun _ => by omega) (hP3) (hS3) (Or.inl ⟨rfl, i5⟩) (by omega)
                · have hpl : (hd (inC bt cl) (8 * cl) kd (se 0) (se 1) q).2.1 = true := b2i_1.mp (by omega)
                  refine z_aload_n C dX8_read_89 1 rfl ?_
                  refine z_aload_n C dX8_read_90 1 rfl ?_
                  refine z_get C hinX8 (ci := 10) rfl 0 rfl 6 (by decide) k1 rfl (v := vI n1) rfl dX8_read_91 ?_
                  refine z_callV C (As := [vI n1]) (st := []) (c_X8_readPlain l D cy tw b kd co 0 n1 cl wr p2 d2 x d fi1 w1 w2 h se w0 s2 bt oz n1 (fun _ => false) (by omega) (by omega) (by omega) (by omega) (hbt) (by omega) (⟨hw0.1, fun _ _ _ _ => rfl⟩)) gX8_read_X8_readPlain kn_X8_readPlain rfl ⟨rfl, rfl, Nat.le_of_ble_eq_true rfl, Nat.le_of_ble_eq_true rfl⟩ 0 rfl (ci := 10) rfl rfl (Nat.le_of_ble_eq_true rfl) ⟨Nat.le_of_ble_eq_true rfl, Nat.le_of_ble_eq_true rfl⟩ dX8_read_94 (fun u17 hu17 => ?_)
                  show V 0 0 (MW cy b kd co 0 n1 cl wr ((rdPl (inC bt cl) (8 * cl) co (hasMk kd (se 0)) 3201 p2 0 false false (fun _ => false)).2.1) d2 u17.1 x d fi1 w1 w2 u17.2.2 se u17.2.1 s2 bt oz) [(3, vI way), (0, .ref (b 0)), (1, vI z), (2, vI (b2i ok))] [vI (b2i (decide (¬ (rdPl (inC bt cl) (8 * cl) co (hasMk kd (se 0)) 3201 p2 0 false false (fun _ => false)).1 = -1)))] 97
                  obtain ⟨qq, eqq⟩ : ∃ z, z = rdPl (inC bt cl) (8 * cl) co (hasMk kd (se 0)) 3201 p2 0 false false (fun _ => false) := ⟨_, rfl⟩
                  rw [← eqq] at hu17 ⊢
                  have hqq : qq = rdQ (inC bt cl) (8 * cl) co kd (se 0) (se 1) PP n1 q := by
                    rw [eqq, rdQ, hpl, ← ep2, rdRow, if_pos rfl]
                  obtain ⟨hw3, hsx3⟩ := hu17
                  have hqr : (p2 ≤ qq.2.1 ∧ qq.2.1 ≤ 8 * cl) ∧ -1 ≤ qq.1 ∧ qq.1 ≤ 3 := by rw [hqq, rdQ, ← ep2]; exact rdRow_rg _ _ _ _ _ _ _ (by omega) (by omega)
                  obtain ⟨w3, ew3⟩ : ∃ z, z = u17.2.1 := ⟨_, rfl⟩
                  rw [← ew3]
                  obtain ⟨sv, esv⟩ : ∃ z, z = u17.1 := ⟨_, rfl⟩
                  rw [← esv]
                  refine z_ifz C (tgt := 118) dX8_read_97 (by decide) (fun cr => ?_) (fun cr => ?_)
                  · rw [← ew3] at hw3
                    have hm1 : qq.1 = -1 := Classical.byContradiction (fun y => of_decide_eq_false cr y)
                    refine z_iconst C (z := 0) dX8_read_118 ?_
                    refine z_istore_n C (lv' := [(2, vI 0), (3, vI way), (0, .ref (b 0)), (1, vI z)]) dX8_read_119 rfl (by decide) rfl ?_
                    refine z_iload_n C dX8_read_120 0 rfl ?_
                    refine z_if_eq C (by decide) (tgt := 194) dX8_read_121 (by decide) (fun hc_18 => ?_) (fun hc_18 => ?_)
                    rotate_left; · exact absurd hc_18 (by decide)
                    obtain ⟨P3, S3, i5, hP3, hS3⟩ := ra_step (n := (z - (k + 1)).toNat) (dm := d2) (rd := se 3) (q := qq) (F := pd w) (F' := pd w3) (sa := s2) (s3 := s2) (n2 := n1) (p3 := qq.2.1) (d3 := d2) (bv := false) hht hqq (by rw [decide_eq_false (p := ¬ qq.1 = -1) (fun y => y hm1)]; rfl) (by omega) (by rw [if_pos hm1]) (rfl) (by rw [if_neg (by omega)]) (by rw [if_pos hm1]) hPR hSR (fun r j h1 h2 => by rw [hw3.2 r j h1 (by omega)]; exact hw0.2 r j h1 (by omega)) (fun j hj => pd_neg _ hj) (fun y => absurd hm1 y)
                    rw [show (z - (k + 1)).toNat + 1 = (z - k).toNat by omega, ← hR0] at i5
                    rw [if_neg (by decide)] at i5
                    refine z_goto C (tgt := 45) dX8_read_194 (by decide) ?_
                    refine z_lsub C [2, 3, 0] rfl ?_
                    exact ih false n1 qq.2.1 d2 sv x d fi1 w1 w2 u17.2.2 w3 s2 (k + 1) P3 S3 (by omega) (by omega) (fun y => absurd y (by decide)) (hP3) (hS3) (Or.inr ⟨rfl, i5⟩) (by omega)
                  · rw [← ew3] at hw3
                    rw [← esv] at hsx3
                    have hm1 : ¬ qq.1 = -1 := of_decide_eq_true cr
                    have hsx4 := hsx3 hm1
                    refine z_goto C (tgt := 114) dX8_read_100 (by decide) ?_
                    refine z_iconst C (z := 1) dX8_read_114 ?_
                    refine z_goto C (tgt := 119) dX8_read_115 (by decide) ?_
                    refine z_istore_n C (lv' := [(2, vI 1), (3, vI way), (0, .ref (b 0)), (1, vI z)]) dX8_read_119 rfl (by decide) rfl ?_
                    refine z_iload_n C dX8_read_120 0 rfl ?_
                    refine z_if_eq C (by decide) (tgt := 194) dX8_read_121 (by decide) (fun hc_19 => ?_) (fun hc_19 => ?_)
                    · exact absurd hc_19 (by decide)
                    refine z_aload_n C dX8_read_124 2 rfl ?_
                    refine z_get C hinX8 (ci := 10) rfl 0 rfl 8 (by decide) k5 rfl (v := .ref (b 5)) rfl dX8_read_125 ?_
                    refine z_aload_n C dX8_read_128 2 rfl ?_
                    refine z_get C hinX8 (ci := 10) rfl 0 rfl 6 (by decide) k1 rfl (v := vI n1) rfl dX8_read_129 ?_
                    refine z_aload_n C dX8_read_132 2 rfl ?_
                    refine z_get C hinX8 (ci := 10) rfl 0 rfl 15 (by decide) k4 rfl (v := vI sv) rfl dX8_read_133 ?_
                    refine z_iast C 5 1 (g := s2) rfl rfl (by omega) (by omega) (by decide) dX8_read_136 (ws' := MW cy b kd co 0 n1 cl wr qq.2.1 d2 sv x d fi1 w1 w2 u17.2.2 se w3 (va_up s2 (n1 : Int).toNat sv) bt oz) rfl ?_
                    refine z_aload_n C dX8_read_137 2 rfl ?_
                    refine z_get C hinX8 (ci := 10) rfl 0 rfl 15 (by decide) k4 rfl (v := vI sv) rfl dX8_read_138 ?_
                    refine z_iconst C (z := 3) dX8_read_141 ?_
                    refine z_icmp_ne C (by omega) (by decide) (tgt := 184) dX8_read_142 (by decide) (fun hc_20 => ?_) (fun hc_20 => ?_)
                    · refine z_aload_n C dX8_read_184 2 rfl ?_
                      refine z_dup C dX8_read_185 rfl ?_
                      refine z_get C hinX8 (ci := 10) rfl 0 rfl 6 (by decide) k1 rfl (v := vI n1) rfl dX8_read_186 ?_
                      refine z_iconst C (z := 1) dX8_read_189 ?_
                      refine z_iadd C dX8_read_190 ?_
                      refine z_put C hinX8 tyX8 tyX8_ok nmX8 (ci := 10) rfl 0 rfl 6 (by decide) k1 rfl rfl rfl rfl (Nat.le_of_ble_eq_true rfl) dX8_read_191 (ws' := MW cy b kd co 0 (n1 + 1) cl wr qq.2.1 d2 sv x d fi1 w1 w2 u17.2.2 se w3 (va_up s2 (n1 : Int).toNat sv) bt oz) rfl ?_
                      obtain ⟨P3, S3, i5, hP3, hS3⟩ := ra_step (n := (z - (k + 1)).toNat) (dm := d2) (rd := se 3) (q := qq) (F := pd w) (F' := pd w3) (sa := s2) (s3 := (va_up s2 (n1 : Int).toNat sv)) (n2 := (n1 + 1)) (p3 := qq.2.1) (d3 := d2) (bv := true) hht hqq (by rw [decide_eq_true (p := ¬ qq.1 = -1) hm1, decide_eq_true (p := ¬ qq.1 = 3) (by omega)]; rfl) (by omega) (by rw [if_neg hm1]) (rfl) (by rw [if_neg (by omega)]) (by rw [if_neg hm1, hsx4]) hPR hSR (fun r j h1 h2 => by rw [hw3.2 r j h1 (by omega)]; exact hw0.2 r j h1 (by omega)) (fun j hj => pd_neg _ hj) (fun y j h1 h2 => by rw [if_neg (by omega)]; exact hw3.1 j h1 h2)
                      rw [show (z - (k + 1)).toNat + 1 = (z - k).toNat by omega, ← hR0] at i5
                      rw [if_pos rfl] at i5
                      refine z_goto C (tgt := 45) dX8_read_194 (by decide) ?_
                      refine z_lsub C [2, 3, 0] rfl ?_
                      exact ih true (n1 + 1) qq.2.1 d2 sv x d fi1 w1 w2 u17.2.2 w3 (va_up s2 (n1 : Int).toNat sv) (k + 1) P3 S3 (by omega) (by omega) (fun _ => by omega) (hP3) (hS3) (Or.inl ⟨rfl, i5⟩) (by omega)
                    · refine z_aload_n C dX8_read_145 2 rfl ?_
                      refine z_aload_n C dX8_read_146 2 rfl ?_
                      refine z_get C hinX8 (ci := 10) rfl 0 rfl 6 (by decide) k1 rfl (v := vI n1) rfl dX8_read_147 ?_
                      refine z_callV C (As := [vI n1]) (st := []) (c_X8_repair l D cy tw b kd co 0 n1 cl wr qq.2.1 d2 sv x d fi1 w1 w2 u17.2.2 se w3 (va_up s2 (n1 : Int).toNat sv) bt oz n1  (by omega) (by omega)) gX8_read_X8_repair kn_X8_repair rfl ⟨rfl, rfl, Nat.le_of_ble_eq_true rfl, Nat.le_of_ble_eq_true rfl⟩ 0 rfl (ci := 10) rfl rfl (Nat.le_of_ble_eq_true rfl) ⟨Nat.le_of_ble_eq_true rfl, Nat.le_of_ble_eq_true rfl⟩ dX8_read_150 (fun u21 hu21 => ?_)
                      clear hu21; clear u21
                      show V 0 0 (MW cy b kd co 0 n1 cl wr qq.2.1 d2 sv x d fi1 w1 w2 u17.2.2 se (rpM w3 n1 (se 3) co) (va_up s2 (n1 : Int).toNat sv) bt oz) [(2, vI 1), (3, vI way), (0, .ref (b 0)), (1, vI z)] [] 153
                      have hw4 := RM_rp (se 3) (by omega : 0 ≤ n1) hco hw3
                      refine z_aload_n C dX8_read_153 2 rfl ?_
                      refine z_dup C dX8_read_154 rfl ?_
                      refine z_get C hinX8 (ci := 10) rfl 0 rfl 14 (by decide) k3 rfl (v := vI d2) rfl dX8_read_155 ?_
                      refine z_iconst C (z := 1) dX8_read_158 ?_
                      refine z_iadd C dX8_read_159 ?_
                      refine z_put C hinX8 tyX8 tyX8_ok nmX8 (ci := 10) rfl 0 rfl 14 (by decide) k3 rfl rfl rfl rfl (Nat.le_of_ble_eq_true rfl) dX8_read_160 (ws' := MW cy b kd co 0 n1 cl wr qq.2.1 (d2 + 1) sv x d fi1 w1 w2 u17.2.2 se (rpM w3 n1 (se 3) co) (va_up s2 (n1 : Int).toNat sv) bt oz) rfl ?_
                      refine z_aload_n C dX8_read_163 2 rfl ?_
                      refine z_callV C (As := []) (st := []) (c_X8_hasMarks l D cy tw b kd co 0 n1 cl wr qq.2.1 (d2 + 1) sv x d fi1 w1 w2 u17.2.2 se (rpM w3 n1 (se 3) co) (va_up s2 (n1 : Int).toNat sv) bt oz   (by omega)) gX8_read_X8_hasMarks kn_X8_hasMarks rfl ⟨rfl, rfl, Nat.le_of_ble_eq_true rfl, Nat.le_of_ble_eq_true rfl⟩ 0 rfl (ci := 10) rfl rfl (Nat.le_of_ble_eq_true rfl) ⟨Nat.le_of_ble_eq_true rfl, Nat.le_of_ble_eq_true rfl⟩ dX8_read_164 (fun u22 hu22 => ?_)
                      clear hu22; clear u22
                      show V 0 0 (MW cy b kd co 0 n1 cl wr qq.2.1 (d2 + 1) sv x d fi1 w1 w2 u17.2.2 se (rpM w3 n1 (se 3) co) (va_up s2 (n1 : Int).toNat sv) bt oz) [(2, vI 1), (3, vI way), (0, .ref (b 0)), (1, vI z)] [vI (b2i (hasMk kd (se 0)))] 167
                      refine z_ifz C (tgt := 182) dX8_read_167 (by decide) (fun cmk => ?_) (fun cmk => ?_)
                      · refine z_iconst C (z := 0) dX8_read_182 ?_
                        refine z_istore_n C (lv' := [(2, vI 0), (3, vI way), (0, .ref (b 0)), (1, vI z)]) dX8_read_183 rfl (by decide) rfl ?_
                        refine z_aload_n C dX8_read_184 2 rfl ?_
                        refine z_dup C dX8_read_185 rfl ?_
                        refine z_get C hinX8 (ci := 10) rfl 0 rfl 6 (by decide) k1 rfl (v := vI n1) rfl dX8_read_186 ?_
                        refine z_iconst C (z := 1) dX8_read_189 ?_
                        refine z_iadd C dX8_read_190 ?_
                        refine z_put C hinX8 tyX8 tyX8_ok nmX8 (ci := 10) rfl 0 rfl 6 (by decide) k1 rfl rfl rfl rfl (Nat.le_of_ble_eq_true rfl) dX8_read_191 (ws' := MW cy b kd co 0 (n1 + 1) cl wr qq.2.1 (d2 + 1) sv x d fi1 w1 w2 u17.2.2 se (rpM w3 n1 (se 3) co) (va_up s2 (n1 : Int).toNat sv) bt oz) rfl ?_
                        obtain ⟨P3, S3, i5, hP3, hS3⟩ := ra_step (n := (z - (k + 1)).toNat) (dm := d2) (rd := se 3) (q := qq) (F := pd w) (F' := pd (rpM w3 n1 (se 3) co)) (sa := s2) (s3 := (va_up s2 (n1 : Int).toNat sv)) (n2 := (n1 + 1)) (p3 := qq.2.1) (d3 := (d2 + 1)) (bv := false) hht hqq (by rw [decide_eq_true (p := ¬ qq.1 = -1) hm1, decide_eq_false (p := ¬ qq.1 = 3) (by omega), cmk]; rfl) (by omega) (by rw [if_neg hm1]) (rfl) (by rw [if_pos (by omega)]) (by rw [if_neg hm1, hsx4]) hPR hSR (fun r j h1 h2 => by rw [hw4.2 r j h1 (by omega)]; exact hw0.2 r j h1 (by omega)) (fun j hj => pd_neg _ hj) (fun y j h1 h2 => by rw [if_pos (by omega)]; exact (hw4.1 j h1 h2).trans (by show (if se 3 = true then pd w0 (n1 - 1) j else false) = _; rw [hw0.2 (n1 - 1) j (by omega) (by omega)]))
                        rw [show (z - (k + 1)).toNat + 1 = (z - k).toNat by omega, ← hR0] at i5
                        rw [if_neg (by decide)] at i5
                        refine z_goto C (tgt := 45) dX8_read_194 (by decide) ?_
                        refine z_lsub C [2, 3, 0] rfl ?_
                        exact ih false (n1 + 1) qq.2.1 (d2 + 1) sv x d fi1 w1 w2 u17.2.2 (rpM w3 n1 (se 3) co) (va_up s2 (n1 : Int).toNat sv) (k + 1) P3 S3 (by omega) (by omega) (fun y => absurd y (by decide)) (hP3) (hS3) (Or.inr ⟨rfl, i5⟩) (by omega)
                      · refine z_aload_n C dX8_read_170 2 rfl ?_
                        refine z_get C hinX8 (ci := 10) rfl 0 rfl 14 (by decide) k3 rfl (v := vI (d2 + 1)) rfl dX8_read_171 ?_
                        refine z_iconst C (z := 5) dX8_read_174 ?_
                        refine z_icmp_ge C (by omega) (by decide) (tgt := 182) dX8_read_175 (by decide) (fun hc_23 => ?_) (fun hc_23 => ?_)
                        · refine z_iconst C (z := 0) dX8_read_182 ?_
                          refine z_istore_n C (lv' := [(2, vI 0), (3, vI way), (0, .ref (b 0)), (1, vI z)]) dX8_read_183 rfl (by decide) rfl ?_
                          refine z_aload_n C dX8_read_184 2 rfl ?_
                          refine z_dup C dX8_read_185 rfl ?_
                          refine z_get C hinX8 (ci := 10) rfl 0 rfl 6 (by decide) k1 rfl (v := vI n1) rfl dX8_read_186 ?_
                          refine z_iconst C (z := 1) dX8_read_189 ?_
                          refine z_iadd C dX8_read_190 ?_
                          refine z_put C hinX8 tyX8 tyX8_ok nmX8 (ci := 10) rfl 0 rfl 6 (by decide) k1 rfl rfl rfl rfl (Nat.le_of_ble_eq_true rfl) dX8_read_191 (ws' := MW cy b kd co 0 (n1 + 1) cl wr qq.2.1 (d2 + 1) sv x d fi1 w1 w2 u17.2.2 se (rpM w3 n1 (se 3) co) (va_up s2 (n1 : Int).toNat sv) bt oz) rfl ?_
                          obtain ⟨P3, S3, i5, hP3, hS3⟩ := ra_step (n := (z - (k + 1)).toNat) (dm := d2) (rd := se 3) (q := qq) (F := pd w) (F' := pd (rpM w3 n1 (se 3) co)) (sa := s2) (s3 := (va_up s2 (n1 : Int).toNat sv)) (n2 := (n1 + 1)) (p3 := qq.2.1) (d3 := (d2 + 1)) (bv := false) hht hqq (by rw [decide_eq_true (p := ¬ qq.1 = -1) hm1, decide_eq_false (p := ¬ qq.1 = 3) (by omega), cmk, decide_eq_false (p := d2 + 1 < 5) (by omega)]; rfl) (by omega) (by rw [if_neg hm1]) (rfl) (by rw [if_pos (by omega)]) (by rw [if_neg hm1, hsx4]) hPR hSR (fun r j h1 h2 => by rw [hw4.2 r j h1 (by omega)]; exact hw0.2 r j h1 (by omega)) (fun j hj => pd_neg _ hj) (fun y j h1 h2 => by rw [if_pos (by omega)]; exact (hw4.1 j h1 h2).trans (by show (if se 3 = true then pd w0 (n1 - 1) j else false) = _; rw [hw0.2 (n1 - 1) j (by omega) (by omega)]))
                          rw [show (z - (k + 1)).toNat + 1 = (z - k).toNat by omega, ← hR0] at i5
                          rw [if_neg (by decide)] at i5
                          refine z_goto C (tgt := 45) dX8_read_194 (by decide) ?_
                          refine z_lsub C [2, 3, 0] rfl ?_
                          exact ih false (n1 + 1) qq.2.1 (d2 + 1) sv x d fi1 w1 w2 u17.2.2 (rpM w3 n1 (se 3) co) (va_up s2 (n1 : Int).toNat sv) (k + 1) P3 S3 (by omega) (by omega) (fun y => absurd y (by decide)) (hP3) (hS3) (Or.inr ⟨rfl, i5⟩) (by omega)
                        · refine z_iconst C (z := 1) dX8_read_178 ?_
                          refine z_goto C (tgt := 183) dX8_read_179 (by decide) ?_
                          refine z_istore_n C (lv' := [(2, vI 1), (3, vI way), (0, .ref (b 0)), (1, vI z)]) dX8_read_183 rfl (by decide) rfl ?_
                          refine z_aload_n C dX8_read_184 2 rfl ?_
                          refine z_dup C dX8_read_185 rfl ?_
                          refine z_get C hinX8 (ci := 10) rfl 0 rfl 6 (by decide) k1 rfl (v := vI n1) rfl dX8_read_186 ?_
                          refine z_iconst C (z := 1) dX8_read_189 ?_
                          refine z_iadd C dX8_read_190 ?_
                          refine z_put C hinX8 tyX8 tyX8_ok nmX8 (ci := 10) rfl 0 rfl 6 (by decide) k1 rfl rfl rfl rfl (Nat.le_of_ble_eq_true rfl) dX8_read_191 (ws' := MW cy b kd co 0 (n1 + 1) cl wr qq.2.1 (d2 + 1) sv x d fi1 w1 w2 u17.2.2 se (rpM w3 n1 (se 3) co) (va_up s2 (n1 : Int).toNat sv) bt oz) rfl ?_
                          obtain ⟨P3, S3, i5, hP3, hS3⟩ := ra_step (n := (z - (k + 1)).toNat) (dm := d2) (rd := se 3) (q := qq) (F := pd w) (F' := pd (rpM w3 n1 (se 3) co)) (sa := s2) (s3 := (va_up s2 (n1 : Int).toNat sv)) (n2 := (n1 + 1)) (p3 := qq.2.1) (d3 := (d2 + 1)) (bv := true) hht hqq (by rw [decide_eq_true (p := ¬ qq.1 = -1) hm1, decide_eq_false (p := ¬ qq.1 = 3) (by omega), cmk, decide_eq_true (p := d2 + 1 < 5) (by omega)]; rfl) (by omega) (by rw [if_neg hm1]) (rfl) (by rw [if_pos (by omega)]) (by rw [if_neg hm1, hsx4]) hPR hSR (fun r j h1 h2 => by rw [hw4.2 r j h1 (by omega)]; exact hw0.2 r j h1 (by omega)) (fun j hj => pd_neg _ hj) (fun y j h1 h2 => by rw [if_pos (by omega)]; exact (hw4.1 j h1 h2).trans (by show (if se 3 = true then pd w0 (n1 - 1) j else false) = _; rw [hw0.2 (n1 - 1) j (by omega) (by omega)]))
                          rw [show (z - (k + 1)).toNat + 1 = (z - k).toNat by omega, ← hR0] at i5
                          rw [if_pos rfl] at i5
                          refine z_goto C (tgt := 45) dX8_read_194 (by decide) ?_
                          refine z_lsub C [2, 3, 0] rfl ?_
                          exact ih true (n1 + 1) qq.2.1 (d2 + 1) sv x d fi1 w1 w2 u17.2.2 (rpM w3 n1 (se 3) co) (va_up s2 (n1 : Int).toNat sv) (k + 1) P3 S3 (by omega) (by omega) (fun _ => by omega) (hP3) (hS3) (Or.inl ⟨rfl, i5⟩) (by omega)
      refine z_lsub C [1, 2, 0] rfl ?_
      exact J45 _ true 0 0 0 sx aa dk fi bb cz hm da sa 0 P00 S00 (by omega) (by omega) (fun _ => rfl) (PR_0 (fun j => pd_m1 da j)) (SR_0 sa) (Or.inl ⟨rfl, by rw [Int.sub_zero]⟩) (Nat.lt_succ_self _)
    · exfalso; omega
