def tsV (w : Int) : Int := if w = -1 then 7 else if w = -2 then 6 else w - 3
theorem tsV_p {w : Int} (h : 0 ≤ w) : tsV w = w - 3 := by rw [tsV, if_neg (by omega), if_neg (by omega)]
theorem way_lt : ∀ j, j < 9 → wayC j < 2 ^ (wayB j).toNat := by decide
theorem kn_X8_takeStep : zKn yX8_takeStep wsX8_takeStep cX8_takeStep 4 (some .int) 0 := ⟨⟨_, rfl⟩, by decide +kernel, by decide +kernel, by decide +kernel⟩
set_option maxHeartbeats 1000000 in
set_option maxRecDepth 100000 in
theorem c_X8_takeStep (l : Launch) (D : va_G) (cy : Nat → ClassId) (tw : Nat → Nat) (b : Nat → Nat) (kd : Int) (co : Int) (th : Int) (rw : Int) (cl : Int) (wr : Int) (po : Int) (dm : Int) (sx : Int) (aa : Int) (dk : Bool) (fi : Bool) (bb : Int) (cz : Int) (hm : Bool) (se : Nat → Bool) (da : Nat → Bool) (sa : Nat → Int) (bt : Nat → Int) (oz : Nat → Bool)   (hcl : 0 ≤ cl ∧ cl ≤ 400) (hbt : ∀ j : Nat, 0 ≤ bt j ∧ bt j < 256) (hpo : 0 ≤ po ∧ po ≤ 8 * cl) : zMet l yX8_takeStep wsX8_takeStep { frames := 2, cells := 0, slots := 0, locals := 45 } D (zT cy) tw (MW cy b kd co th rw cl wr po dm sx aa dk fi bb cz hm se da sa bt oz) [.ref (b 0)] 0 0 (S := Unit) (fun _ => some (vI (tsV (rdWay (inC bt cl) (8 * cl) po 9).1))) (fun _ => MW cy b kd co th rw cl wr ((rdWay (inC bt cl) (8 * cl) po 9).2) dm sx aa dk fi bb cz hm se da sa bt oz) (fun _ => True) := by
  refine z_met (cc := cX8_takeStep) (nL := 4) (ret := some .int) (by decide +kernel) rfl (Nat.le_of_ble_eq_true rfl) (lv := [(0, .ref (b 0))]) rfl ?_
  intro V p_ e_ s_ m_ args_ below_ meth_ c_ A_ C hmn
  have hinX8 : ∀ w ∈ u_ws RX8 TX8 22, w ∈ wsX8_takeStep := by decide +kernel
  have k0 : Cond.fieldLink RX8 69 "FaxFilterModel" "place" "I" ∈ wsX8_takeStep := List.mem_of_getElem? (i := 1) rfl
  refine z_bipush C (z := (-3)) dX8_takeStep_0 (by decide) ?_
  refine z_istore_n C (lv' := [(1, vI (-3)), (0, .ref (b 0))]) dX8_takeStep_2 rfl (by decide) rfl ?_
  have J3 : ∀ (f : Nat) (y : Int), (-3 ≤ y ∧ y ≤ 6) → (rdWay (inC bt cl) (8 * cl) po 9 = rdWay (inC bt cl) (8 * cl) po (6 - y).toNat) → (6 - y).toNat < f → V 0 0 (MW cy b kd co th rw cl wr po dm sx aa dk fi bb cz hm se da sa bt oz) [(0, .ref (b 0)), (1, vI y)] [] 3 := by
    intro f
    induction f with
    | zero => intro y i0 i1 hf; exact absurd hf (Nat.not_lt_zero _)
    | succ f ih =>
      intro y i0 i1 hf
      refine z_iload_n C dX8_takeStep_3 1 rfl ?_
      refine z_iconst C (z := 5) dX8_takeStep_4 ?_
      refine z_icmp_gt C (by omega) (by decide) (tgt := 113) dX8_takeStep_5 (by decide) (fun hc_1 => ?_) (fun hc_1 => ?_)
      · have i4 : rdWay (inC bt cl) (8 * cl) po 9 = (if 8 * cl - po < 7 then -1 else -2, po) := by
          rw [i1, show (6 - y).toNat = 0 by omega, rdWay]
        refine z_aload_n C dX8_takeStep_113 0 rfl ?_
        refine z_callV C (As := []) (st := []) (c_X8_left l D cy tw b kd co th rw cl wr po dm sx aa dk fi bb cz hm se da sa bt oz   ) gX8_takeStep_X8_left kn_X8_left rfl ⟨rfl, rfl, Nat.le_of_ble_eq_true rfl, Nat.le_of_ble_eq_true rfl⟩ 0 rfl (ci := 10) rfl rfl (Nat.le_of_ble_eq_true rfl) ⟨Nat.le_of_ble_eq_true rfl, Nat.le_of_ble_eq_true rfl⟩ dX8_takeStep_114 (fun u2 hu2 => ?_)
        clear hu2; clear u2
        show V 0 0 (MW cy b kd co th rw cl wr po dm sx aa dk fi bb cz hm se da sa bt oz) [(0, .ref (b 0)), (1, vI y)] [vI (8 * cl - po)] 117
        refine z_bipush C (z := 7) dX8_takeStep_117 (by decide) ?_
        refine z_icmp_ge C (by omega) (by decide) (tgt := 127) dX8_takeStep_119 (by decide) (fun hc_3 => ?_) (fun hc_3 => ?_)
        · refine z_bipush C (z := 6) dX8_takeStep_127 (by decide) ?_
          refine z_iret (x := 6) C dX8_takeStep_129 () ?_ ?_ ?_ (by decide) (by decide)
          · rw [i4, if_neg (by omega)]; rfl
          · exact trivial
          · rw [i4]
        · refine z_bipush C (z := 7) dX8_takeStep_122 (by decide) ?_
          refine z_goto C (tgt := 129) dX8_takeStep_124 (by decide) ?_
          refine z_iret (x := 7) C dX8_takeStep_129 () ?_ ?_ ?_ (by decide) (by decide)
          · rw [i4, if_pos (by omega)]; rfl
          · exact trivial
          · rw [i4]
      · have J62 : ∀ (w : Int), (w = wayB (y + 3).toNat) → V 0 0 (MW cy b kd co th rw cl wr po dm sx aa dk fi bb cz hm se da sa bt oz) [(0, .ref (b 0)), (1, vI y)] [vI w] 62 := by
          intro w ew
          refine z_istore_n C (lv' := [(2, vI w), (0, .ref (b 0)), (1, vI y)]) dX8_takeStep_62 rfl (by decide) rfl ?_
          have J85 : ∀ (x : Int), (x = wayC (y + 3).toNat) → V 0 0 (MW cy b kd co th rw cl wr po dm sx aa dk fi bb cz hm se da sa bt oz) [(0, .ref (b 0)), (1, vI y), (2, vI w)] [vI x] 85 := by
            intro x ex
            refine z_istore_n C (lv' := [(3, vI x), (0, .ref (b 0)), (1, vI y), (2, vI w)]) dX8_takeStep_85 rfl (by decide) rfl ?_
            have hw := way_rg (y + 3).toNat (by omega)
            have hw2 := way_lt (y + 3).toNat (by omega)
            rw [← ew, ← ex] at hw hw2
            refine z_aload_n C dX8_takeStep_86 1 rfl ?_
            refine z_iload_n C dX8_takeStep_87 0 rfl ?_
            refine z_iload_n C dX8_takeStep_88 3 rfl ?_
            refine z_callV C (As := [vI x, vI w]) (st := []) (c_X8_begins l D cy tw b kd co th rw cl wr po dm sx aa dk fi bb cz hm se da sa bt oz x w  (by omega) (hbt) (by omega) (by omega) (⟨by omega, by omega, hw2⟩)) gX8_takeStep_X8_begins kn_X8_begins rfl ⟨rfl, rfl, Nat.le_of_ble_eq_true rfl, Nat.le_of_ble_eq_true rfl⟩ 0 rfl (ci := 10) rfl rfl (Nat.le_of_ble_eq_true rfl) ⟨Nat.le_of_ble_eq_true rfl, Nat.le_of_ble_eq_true rfl⟩ dX8_takeStep_89 (fun u4 hu4 => ?_)
            clear hu4; clear u4
            show V 0 0 (MW cy b kd co th rw cl wr po dm sx aa dk fi bb cz hm se da sa bt oz) [(3, vI x), (0, .ref (b 0)), (1, vI y), (2, vI w)] [vI (b2i (decide (w ≤ 8 * cl - po ∧ pkI (inC bt cl) po (w : Int).toNat = x)))] 92
            refine z_ifz C (tgt := 107) dX8_takeStep_92 (by decide) (fun cb => ?_) (fun cb => ?_)
            · have hb := of_decide_eq_false cb
              have i4 : rdWay (inC bt cl) (8 * cl) po 9 = rdWay (inC bt cl) (8 * cl) po (5 - y).toNat := by
                rw [i1, show (6 - y).toNat = (5 - y).toNat + 1 by omega, rdWay, show 8 - (5 - y).toNat = (y + 3).toNat by omega, if_neg (by rw [← ew, ← ex]; exact hb)]
              refine z_iinc C (lv' := [(1, vI (y + 1)), (3, vI x), (0, .ref (b 0)), (2, vI w)]) dX8_takeStep_107 2 rfl (by decide) rfl ?_
              refine z_goto C (tgt := 3) dX8_takeStep_110 (by decide) ?_
              refine z_lsub C [2, 0] rfl ?_
              exact ih (y + 1) (by omega) (by rw [i4, show (6 - (y + 1)).toNat = (5 - y).toNat by omega]) (by omega)
            · have hb := of_decide_eq_true cb
              have i4 : rdWay (inC bt cl) (8 * cl) po 9 = (y + 3, po + w) := by
                rw [i1, show (6 - y).toNat = (5 - y).toNat + 1 by omega, rdWay, show 8 - (5 - y).toNat = (y + 3).toNat by omega, if_pos (by rw [← ew, ← ex]; exact hb)]
                rw [show (((y + 3).toNat : Nat) : Int) = y + 3 by omega, ← ew]
              refine z_aload_n C dX8_takeStep_95 1 rfl ?_
              refine z_aload_n C dX8_takeStep_96 1 rfl ?_
              refine z_get C hinX8 (ci := 10) rfl 0 rfl 13 (by decide) k0 rfl (v := vI po) rfl dX8_takeStep_97 ?_
              refine z_iload_n C dX8_takeStep_100 3 rfl ?_
              refine z_iadd C dX8_takeStep_101 ?_
              refine z_put C hinX8 tyX8 tyX8_ok nmX8 (ci := 10) rfl 0 rfl 13 (by decide) k0 rfl rfl rfl rfl (Nat.le_of_ble_eq_true rfl) dX8_takeStep_102 (ws' := MW cy b kd co th rw cl wr (po + w) dm sx aa dk fi bb cz hm se da sa bt oz) rfl ?_
              refine z_iload_n C dX8_takeStep_105 2 rfl ?_
              refine z_iret (x := y) C dX8_takeStep_106 () ?_ ?_ ?_ (by decide) (by decide)
              · rw [i4, tsV_p (by dsimp only; omega), show y + 3 - 3 = y by omega]
              · exact trivial
              · rw [i4]
          refine z_iload_n C dX8_takeStep_63 2 rfl ?_
          refine z_if_eq C (by omega) (tgt := 72) dX8_takeStep_64 (by decide) (fun hc_5 => ?_) (fun hc_5 => ?_)
          · refine z_iconst C (z := 1) dX8_takeStep_72 ?_
            refine z_goto C (tgt := 85) dX8_takeStep_73 (by decide) ?_
            refine z_lsub C [1, 2, 0] rfl ?_
            exact J85 1 (by rcases (by omega : y = -3 ∨ y = -2 ∨ y = -1 ∨ y = 0 ∨ y = 1 ∨ y = 2 ∨ y = 3 ∨ y = 4 ∨ y = 5) with z | z | z | z | z | z | z | z | z <;> first | (exfalso; omega) | (rw [z]; rfl))
          · refine z_iload_n C dX8_takeStep_67 2 rfl ?_
            refine z_iconst C (z := 3) dX8_takeStep_68 ?_
            refine z_icmp_le C (by omega) (by decide) (tgt := 76) dX8_takeStep_69 (by decide) (fun hc_6 => ?_) (fun hc_6 => ?_)
            · refine z_iload_n C dX8_takeStep_76 2 rfl ?_
              refine z_if_le C (by omega) (tgt := 84) dX8_takeStep_77 (by decide) (fun hc_7 => ?_) (fun hc_7 => ?_)
              · refine z_iconst C (z := 2) dX8_takeStep_84 ?_
                refine z_lsub C [1, 2, 0] rfl ?_
                exact J85 2 (by rcases (by omega : y = -3 ∨ y = -2 ∨ y = -1 ∨ y = 0 ∨ y = 1 ∨ y = 2 ∨ y = 3 ∨ y = 4 ∨ y = 5) with z | z | z | z | z | z | z | z | z <;> first | (exfalso; omega) | (rw [z]; rfl))
              · refine z_iconst C (z := 3) dX8_takeStep_80 ?_
                refine z_goto C (tgt := 85) dX8_takeStep_81 (by decide) ?_
                refine z_lsub C [1, 2, 0] rfl ?_
                exact J85 3 (by rcases (by omega : y = -3 ∨ y = -2 ∨ y = -1 ∨ y = 0 ∨ y = 1 ∨ y = 2 ∨ y = 3 ∨ y = 4 ∨ y = 5) with z | z | z | z | z | z | z | z | z <;> first | (exfalso; omega) | (rw [z]; rfl))
            · refine z_iconst C (z := 1) dX8_takeStep_72 ?_
              refine z_goto C (tgt := 85) dX8_takeStep_73 (by decide) ?_
              refine z_lsub C [1, 2, 0] rfl ?_
              exact J85 1 (by rcases (by omega : y = -3 ∨ y = -2 ∨ y = -1 ∨ y = 0 ∨ y = 1 ∨ y = 2 ∨ y = 3 ∨ y = 4 ∨ y = 5) with z | z | z | z | z | z | z | z | z <;> first | (exfalso; omega) | (rw [z]; rfl))
        refine z_iload_n C dX8_takeStep_8 1 rfl ?_
        refine z_if_ne C (by omega) (tgt := 16) dX8_takeStep_9 (by decide) (fun hc_8 => ?_) (fun hc_8 => ?_)
        · refine z_iload_n C dX8_takeStep_16 1 rfl ?_
          refine z_iconst C (z := 4) dX8_takeStep_17 ?_
          refine z_icmp_ne C (by omega) (by decide) (tgt := 25) dX8_takeStep_18 (by decide) (fun hc_9 => ?_) (fun hc_9 => ?_)
          · refine z_iload_n C dX8_takeStep_25 1 rfl ?_
            refine z_iconst C (z := 5) dX8_takeStep_26 ?_
            refine z_icmp_eq C (by omega) (by decide) (tgt := 40) dX8_takeStep_27 (by decide) (fun hc_10 => ?_) (fun hc_10 => ?_)
            · refine z_iconst C (z := 3) dX8_takeStep_40 ?_
              refine z_goto C (tgt := 62) dX8_takeStep_41 (by decide) ?_
              exact J62 3 (by rcases (by omega : y = -3 ∨ y = -2 ∨ y = -1 ∨ y = 0 ∨ y = 1 ∨ y = 2 ∨ y = 3 ∨ y = 4 ∨ y = 5) with z | z | z | z | z | z | z | z | z <;> first | (exfalso; omega) | (rw [z]; rfl))
            · refine z_iload_n C dX8_takeStep_30 1 rfl ?_
              refine z_iconst C (z := 1) dX8_takeStep_31 ?_
              refine z_icmp_eq C (by omega) (by decide) (tgt := 40) dX8_takeStep_32 (by decide) (fun hc_11 => ?_) (fun hc_11 => ?_)
              · refine z_iconst C (z := 3) dX8_takeStep_40 ?_
                refine z_goto C (tgt := 62) dX8_takeStep_41 (by decide) ?_
                exact J62 3 (by rcases (by omega : y = -3 ∨ y = -2 ∨ y = -1 ∨ y = 0 ∨ y = 1 ∨ y = 2 ∨ y = 3 ∨ y = 4 ∨ y = 5) with z | z | z | z | z | z | z | z | z <;> first | (exfalso; omega) | (rw [z]; rfl))
              · refine z_iload_n C dX8_takeStep_35 1 rfl ?_
                refine z_iconst C (z := (-1)) dX8_takeStep_36 ?_
                refine z_icmp_ne C (by omega) (by omega) (tgt := 44) dX8_takeStep_37 (by decide) (fun hc_12 => ?_) (fun hc_12 => ?_)
                · refine z_iload_n C dX8_takeStep_44 1 rfl ?_
                  refine z_iconst C (z := 2) dX8_takeStep_45 ?_
                  refine z_icmp_eq C (by omega) (by decide) (tgt := 55) dX8_takeStep_46 (by decide) (fun hc_13 => ?_) (fun hc_13 => ?_)
                  · refine z_bipush C (z := 6) dX8_takeStep_55 (by decide) ?_
                    refine z_goto C (tgt := 62) dX8_takeStep_57 (by decide) ?_
                    exact J62 6 (by rcases (by omega : y = -3 ∨ y = -2 ∨ y = -1 ∨ y = 0 ∨ y = 1 ∨ y = 2 ∨ y = 3 ∨ y = 4 ∨ y = 5) with z | z | z | z | z | z | z | z | z <;> first | (exfalso; omega) | (rw [z]; rfl))
                  · refine z_iload_n C dX8_takeStep_49 1 rfl ?_
                    refine z_bipush C (z := (-2)) dX8_takeStep_50 (by decide) ?_
                    refine z_icmp_ne C (by omega) (by omega) (tgt := 60) dX8_takeStep_52 (by decide) (fun hc_14 => ?_) (fun hc_14 => ?_)
                    · refine z_bipush C (z := 7) dX8_takeStep_60 (by decide) ?_
                      exact J62 7 (by rcases (by omega : y = -3 ∨ y = -2 ∨ y = -1 ∨ y = 0 ∨ y = 1 ∨ y = 2 ∨ y = 3 ∨ y = 4 ∨ y = 5) with z | z | z | z | z | z | z | z | z <;> first | (exfalso; omega) | (rw [z]; rfl))
                    · refine z_bipush C (z := 6) dX8_takeStep_55 (by decide) ?_
                      refine z_goto C (tgt := 62) dX8_takeStep_57 (by decide) ?_
                      exact J62 6 (by rcases (by omega : y = -3 ∨ y = -2 ∨ y = -1 ∨ y = 0 ∨ y = 1 ∨ y = 2 ∨ y = 3 ∨ y = 4 ∨ y = 5) with z | z | z | z | z | z | z | z | z <;> first | (exfalso; omega) | (rw [z]; rfl))
                · refine z_iconst C (z := 3) dX8_takeStep_40 ?_
                  refine z_goto C (tgt := 62) dX8_takeStep_41 (by decide) ?_
                  exact J62 3 (by rcases (by omega : y = -3 ∨ y = -2 ∨ y = -1 ∨ y = 0 ∨ y = 1 ∨ y = 2 ∨ y = 3 ∨ y = 4 ∨ y = 5) with z | z | z | z | z | z | z | z | z <;> first | (exfalso; omega) | (rw [z]; rfl))
          · refine z_iconst C (z := 4) dX8_takeStep_21 ?_
            refine z_goto C (tgt := 62) dX8_takeStep_22 (by decide) ?_
            exact J62 4 (by rcases (by omega : y = -3 ∨ y = -2 ∨ y = -1 ∨ y = 0 ∨ y = 1 ∨ y = 2 ∨ y = 3 ∨ y = 4 ∨ y = 5) with z | z | z | z | z | z | z | z | z <;> first | (exfalso; omega) | (rw [z]; rfl))
        · refine z_iconst C (z := 1) dX8_takeStep_12 ?_
          refine z_goto C (tgt := 62) dX8_takeStep_13 (by decide) ?_
          exact J62 1 (by rcases (by omega : y = -3 ∨ y = -2 ∨ y = -1 ∨ y = 0 ∨ y = 1 ∨ y = 2 ∨ y = 3 ∨ y = 4 ∨ y = 5) with z | z | z | z | z | z | z | z | z <;> first | (exfalso; omega) | (rw [z]; rfl))
  refine z_lsub C [1, 0] rfl ?_
  exact J3 _ (-3) (by omega) (rfl) (Nat.lt_succ_self _)
theorem kn_X8_paintRun : zKn yX8_paintRun wsX8_paintRun cX8_paintRun 6 (some .int) 4 := ⟨⟨_, rfl⟩, by decide +kernel, by decide +kernel, by decide +kernel⟩
set_option maxHeartbeats 400000 in
set_option maxRecDepth 100000 in
theorem c_X8_paintRun (l : Launch) (D : va_G) (cy : Nat → ClassId) (tw : Nat → Nat) (b : Nat → Nat) (kd : Int) (co : Int) (th : Int) (rw : Int) (cl : Int) (wr : Int) (po : Int) (dm : Int) (sx : Int) (aa : Int) (dk : Bool) (fi : Bool) (bb : Int) (cz : Int) (hm : Bool) (se : Nat → Bool) (da : Nat → Bool) (sa : Nat → Int) (bt : Nat → Int) (oz : Nat → Bool) (r : Int) (q : Int) (n : Int) (d : Bool)  (hco : 1 ≤ co ∧ co ≤ 700) (hr : 0 ≤ r ∧ r < 24) (hq : 0 ≤ q ∧ q ≤ co) (hn : 0 ≤ n ∧ n ≤ 100000000) (hsx : 0 ≤ sx ∧ sx ≤ 10) : zMet l yX8_paintRun wsX8_paintRun { frames := 1, cells := 0, slots := 0, locals := 25 } D (zT cy) tw (MW cy b kd co th rw cl wr po dm sx aa dk fi bb cz hm se da sa bt oz) [.ref (b 0), vI r, vI q, vI n, vI (b2i d)] 0 0 (S := Unit) (fun _ => some (vI (mn (q + n) co))) (fun _ => MW cy b kd co th rw cl wr po dm (if co < q + n then (if 1 < sx then sx else 1) else sx) aa dk fi bb cz hm se (pnM da r q (mn (q + n) co) d) sa bt oz) (fun _ => True) := by
  refine z_met (cc := cX8_paintRun) (nL := 6) (ret := some .int) (by decide +kernel) rfl (Nat.le_of_ble_eq_true rfl) (lv := [(0, .ref (b 0)), (1, vI r), (2, vI q), (3, vI n), (4, vI (b2i d))]) rfl ?_
  intro V p_ e_ s_ m_ args_ below_ meth_ c_ A_ C hmn
  have hinX8 : ∀ w ∈ u_ws RX8 TX8 22, w ∈ wsX8_paintRun := by decide +kernel
  have k0 : Cond.fieldLink RX8 37 "FaxFilterModel" "columns" "I" ∈ wsX8_paintRun := List.mem_of_getElem? (i := 1) rfl
  have k1 : Cond.fieldLink RX8 183 "FaxFilterModel" "state" "I" ∈ wsX8_paintRun := List.mem_of_getElem? (i := 2) rfl
  refine z_iload_n C dX8_paintRun_0 2 rfl ?_
  refine z_iload_n C dX8_paintRun_1 3 rfl ?_
  refine z_iadd C dX8_paintRun_2 ?_
  refine z_istore C (lv' := [(5, vI (q + n)), (0, .ref (b 0)), (1, vI r), (2, vI q), (3, vI n), (4, vI (b2i d))]) dX8_paintRun_3 (by decide) rfl ?_
  refine z_iload C dX8_paintRun_5 0 rfl ?_
  refine z_aload_n C dX8_paintRun_7 1 rfl ?_
  refine z_get C hinX8 (ci := 10) rfl 0 rfl 2 (by decide) k0 rfl (v := vI co) rfl dX8_paintRun_8 ?_
  refine z_icmp_le C (by omega) (by omega) (tgt := 40) dX8_paintRun_11 (by decide) (fun hc_1 => ?_) (fun hc_1 => ?_)
  · have hm9 : mn (q + n) co = q + n := by unfold mn; rw [if_neg (by omega)]
    refine z_aload_n C dX8_paintRun_40 1 rfl ?_
    refine z_iload_n C dX8_paintRun_41 2 rfl ?_
    refine z_iload_n C dX8_paintRun_42 3 rfl ?_
    refine z_iload C dX8_paintRun_43 0 rfl ?_
    refine z_iload C dX8_paintRun_45 5 rfl ?_
    refine z_callV C (As := [vI r, vI q, vI (q + n), vI (b2i d)]) (st := []) (c_X8_paint l D cy tw b kd co th rw cl wr po dm sx aa dk fi bb cz hm se da sa bt oz r q (q + n) d  (by omega) (by omega) (by omega) (by omega)) gX8_paintRun_X8_paint kn_X8_paint rfl ⟨rfl, rfl, Nat.le_of_ble_eq_true rfl, Nat.le_of_ble_eq_true rfl⟩ 0 rfl (ci := 10) rfl rfl (Nat.le_of_ble_eq_true rfl) ⟨Nat.le_of_ble_eq_true rfl, Nat.le_of_ble_eq_true rfl⟩ dX8_paintRun_47 (fun u2 hu2 => ?_)
    clear hu2; clear u2
    show V 0 0 (MW cy b kd co th rw cl wr po dm sx aa dk fi bb cz hm se (pnM da r q (q + n) d) sa bt oz) [(5, vI (q + n)), (0, .ref (b 0)), (1, vI r), (2, vI q), (3, vI n), (4, vI (b2i d))] [] 50
    refine z_iload C dX8_paintRun_50 0 rfl ?_
    refine z_iret (x := (q + n)) C dX8_paintRun_52 () ?_ ?_ ?_ (by decide) (by decide)
    · rw [hm9]
    · exact trivial
    · rw [hm9, if_neg (by omega)]
  · have hm9 : mn (q + n) co = co := by unfold mn; rw [if_pos (by omega)]
    refine z_aload_n C dX8_paintRun_14 1 rfl ?_
    refine z_get C hinX8 (ci := 10) rfl 0 rfl 2 (by decide) k0 rfl (v := vI co) rfl dX8_paintRun_15 ?_
    refine z_istore C (lv' := [(5, vI co), (0, .ref (b 0)), (1, vI r), (2, vI q), (3, vI n), (4, vI (b2i d))]) dX8_paintRun_18 (by decide) rfl ?_
    refine z_aload_n C dX8_paintRun_20 1 rfl ?_
    refine z_aload_n C dX8_paintRun_21 1 rfl ?_
    refine z_get C hinX8 (ci := 10) rfl 0 rfl 15 (by decide) k1 rfl (v := vI sx) rfl dX8_paintRun_22 ?_
    refine z_iconst C (z := 1) dX8_paintRun_25 ?_
    refine z_icmp_le C (by omega) (by decide) (tgt := 36) dX8_paintRun_26 (by decide) (fun hc_3 => ?_) (fun hc_3 => ?_)
    · refine z_iconst C (z := 1) dX8_paintRun_36 ?_
      refine z_put C hinX8 tyX8 tyX8_ok nmX8 (ci := 10) rfl 0 rfl 15 (by decide) k1 rfl rfl rfl rfl (Nat.le_of_ble_eq_true rfl) dX8_paintRun_37 (ws' := MW cy b kd co th rw cl wr po dm 1 aa dk fi bb cz hm se da sa bt oz) rfl ?_
      refine z_aload_n C dX8_paintRun_40 1 rfl ?_
      refine z_iload_n C dX8_paintRun_41 2 rfl ?_
      refine z_iload_n C dX8_paintRun_42 3 rfl ?_
      refine z_iload C dX8_paintRun_43 0 rfl ?_
      refine z_iload C dX8_paintRun_45 5 rfl ?_
      refine z_callV C (As := [vI r, vI q, vI co, vI (b2i d)]) (st := []) (c_X8_paint l D cy tw b kd co th rw cl wr po dm 1 aa dk fi bb cz hm se da sa bt oz r q co d  (by omega) (by omega) (by omega) (by omega)) gX8_paintRun_X8_paint kn_X8_paint rfl ⟨rfl, rfl, Nat.le_of_ble_eq_true rfl, Nat.le_of_ble_eq_true rfl⟩ 0 rfl (ci := 10) rfl rfl (Nat.le_of_ble_eq_true rfl) ⟨Nat.le_of_ble_eq_true rfl, Nat.le_of_ble_eq_true rfl⟩ dX8_paintRun_47 (fun u4 hu4 => ?_)
      clear hu4; clear u4
      show V 0 0 (MW cy b kd co th rw cl wr po dm 1 aa dk fi bb cz hm se (pnM da r q co d) sa bt oz) [(5, vI co), (0, .ref (b 0)), (1, vI r), (2, vI q), (3, vI n), (4, vI (b2i d))] [] 50
      refine z_iload C dX8_paintRun_50 0 rfl ?_
      refine z_iret (x := co) C dX8_paintRun_52 () ?_ ?_ ?_ (by decide) (by decide)
      · rw [hm9]
      · exact trivial
      · rw [hm9, if_pos (by omega), if_neg (by omega)]
    · refine z_aload_n C dX8_paintRun_29 1 rfl ?_
      refine z_get C hinX8 (ci := 10) rfl 0 rfl 15 (by decide) k1 rfl (v := vI sx) rfl dX8_paintRun_30 ?_
      refine z_goto C (tgt := 37) dX8_paintRun_33 (by decide) ?_
      refine z_put C hinX8 tyX8 tyX8_ok nmX8 (ci := 10) rfl 0 rfl 15 (by decide) k1 rfl rfl rfl rfl (Nat.le_of_ble_eq_true rfl) dX8_paintRun_37 (ws' := MW cy b kd co th rw cl wr po dm sx aa dk fi bb cz hm se da sa bt oz) rfl ?_
      refine z_aload_n C dX8_paintRun_40 1 rfl ?_
      refine z_iload_n C dX8_paintRun_41 2 rfl ?_
      refine z_iload_n C dX8_paintRun_42 3 rfl ?_
      refine z_iload C dX8_paintRun_43 0 rfl ?_
      refine z_iload C dX8_paintRun_45 5 rfl ?_
      refine z_callV C (As := [vI r, vI q, vI co, vI (b2i d)]) (st := []) (c_X8_paint l D cy tw b kd co th rw cl wr po dm sx aa dk fi bb cz hm se da sa bt oz r q co d  (by omega) (by omega) (by omega) (by omega)) gX8_paintRun_X8_paint kn_X8_paint rfl ⟨rfl, rfl, Nat.le_of_ble_eq_true rfl, Nat.le_of_ble_eq_true rfl⟩ 0 rfl (ci := 10) rfl rfl (Nat.le_of_ble_eq_true rfl) ⟨Nat.le_of_ble_eq_true rfl, Nat.le_of_ble_eq_true rfl⟩ dX8_paintRun_47 (fun u5 hu5 => ?_)
      clear hu5; clear u5
      show V 0 0 (MW cy b kd co th rw cl wr po dm sx aa dk fi bb cz hm se (pnM da r q co d) sa bt oz) [(5, vI co), (0, .ref (b 0)), (1, vI r), (2, vI q), (3, vI n), (4, vI (b2i d))] [] 50
      refine z_iload C dX8_paintRun_50 0 rfl ?_
      refine z_iret (x := co) C dX8_paintRun_52 () ?_ ?_ ?_ (by decide) (by decide)
      · rw [hm9]
      · exact trivial
      · rw [hm9, if_pos (by omega), if_pos (by omega)]
