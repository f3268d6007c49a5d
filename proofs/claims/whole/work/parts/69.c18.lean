theorem div2_s (y : Int) (j : Nat) : y / 2 ^ (j + 1) = y / 2 ^ j / 2 := by rw [Int.pow_succ, ← Int.ediv_ediv_of_nonneg (Int.le_of_lt (Int.pow_pos (by decide)))]
theorem bitC_b (bt : Nat → Int) (cl p : Int) : bitC bt cl p = b2i (inC bt cl p) := by
  have := bitC_01 bt cl p
  unfold inC
  rw [dec_b2i]; split <;> omega
theorem kn_X8_begins : zKn yX8_begins wsX8_begins cX8_begins 5 (some .boolean) 2 := ⟨⟨_, rfl⟩, by decide +kernel, by decide +kernel, by decide +kernel⟩
set_option maxHeartbeats 1000000 in
set_option maxRecDepth 100000 in
theorem c_X8_begins (l : Launch) (D : va_G) (cy : Nat → ClassId) (tw : Nat → Nat) (b : Nat → Nat) (kd : Int) (co : Int) (th : Int) (rw : Int) (cl : Int) (wr : Int) (po : Int) (dm : Int) (sx : Int) (aa : Int) (dk : Bool) (fi : Bool) (bb : Int) (cz : Int) (hm : Bool) (se : Nat → Bool) (da : Nat → Bool) (sa : Nat → Int) (bt : Nat → Int) (oz : Nat → Bool) (y : Int) (n : Int)  (hcl : 0 ≤ cl ∧ cl ≤ 400) (hbt : ∀ j : Nat, 0 ≤ bt j ∧ bt j < 256) (hpo : 0 ≤ po ∧ po ≤ 8 * cl) (hn : 0 ≤ n ∧ n ≤ 12) (hy : 0 ≤ y ∧ y < 4096 ∧ y < 2 ^ (n : Int).toNat) : zMet l yX8_begins wsX8_begins { frames := 1, cells := 0, slots := 0, locals := 21 } D (zT cy) tw (MW cy b kd co th rw cl wr po dm sx aa dk fi bb cz hm se da sa bt oz) [.ref (b 0), vI y, vI n] 0 0 (S := Unit) (fun _ => some (vI (b2i (decide (n ≤ 8 * cl - po ∧ pkI (inC bt cl) po (n : Int).toNat = y))))) (fun _ => MW cy b kd co th rw cl wr po dm sx aa dk fi bb cz hm se da sa bt oz) (fun _ => True) := by
  refine z_met (cc := cX8_begins) (nL := 5) (ret := some .boolean) (by decide +kernel) rfl (Nat.le_of_ble_eq_true rfl) (lv := [(0, .ref (b 0)), (1, vI y), (2, vI n)]) rfl ?_
  intro V p_ e_ s_ m_ args_ below_ meth_ c_ A_ C hmn
  have hinX8 : ∀ w ∈ u_ws RX8 TX8 22, w ∈ wsX8_begins := by decide +kernel
  have k0 : Cond.fieldLink RX8 69 "FaxFilterModel" "place" "I" ∈ wsX8_begins := List.mem_of_getElem? (i := 1) rfl
  refine z_iload_n C dX8_begins_0 2 rfl ?_
  refine z_aload_n C dX8_begins_1 0 rfl ?_
  refine z_callV C (As := []) (st := [vI n]) (c_X8_left l D cy tw b kd co th rw cl wr po dm sx aa dk fi bb cz hm se da sa bt oz   ) gX8_begins_X8_left kn_X8_left rfl ⟨rfl, rfl, Nat.le_of_ble_eq_true rfl, Nat.le_of_ble_eq_true rfl⟩ 0 rfl (ci := 10) rfl rfl (Nat.le_of_ble_eq_true rfl) ⟨Nat.le_of_ble_eq_true rfl, Nat.le_of_ble_eq_true rfl⟩ dX8_begins_2 (fun u1 hu1 => ?_)
  clear hu1; clear u1
  show V 0 0 (MW cy b kd co th rw cl wr po dm sx aa dk fi bb cz hm se da sa bt oz) [(0, .ref (b 0)), (1, vI y), (2, vI n)] [vI (8 * cl - po), vI n] 5
  refine z_icmp_gt C (by omega) (by omega) (tgt := 12) dX8_begins_5 (by decide) (fun hc_2 => ?_) (fun hc_2 => ?_)
  · refine z_iconst C (z := 0) dX8_begins_12 ?_
    refine z_istore_n C (lv' := [(3, vI 0), (0, .ref (b 0)), (1, vI y), (2, vI n)]) dX8_begins_13 rfl (by decide) rfl ?_
    refine z_iconst C (z := 0) dX8_begins_14 ?_
    refine z_istore C (lv' := [(4, vI 0), (3, vI 0), (0, .ref (b 0)), (1, vI y), (2, vI n)]) dX8_begins_15 (by decide) rfl ?_
    have J17 : ∀ (f : Nat) (g : Bool) (k : Int), (0 ≤ k ∧ k ≤ n) → (g = decide (n ≤ 8 * cl - po ∧ pkI (inC bt cl) po k.toNat = y / 2 ^ (n - k).toNat)) → (n - k).toNat < f → V 0 0 (MW cy b kd co th rw cl wr po dm sx aa dk fi bb cz hm se da sa bt oz) [(0, .ref (b 0)), (1, vI y), (2, vI n), (3, vI (b2i g)), (4, vI k)] [] 17 := by
      intro f
      induction f with
      | zero => intro g k i0 i1 hf; exact absurd hf (Nat.not_lt_zero _)
      | succ f ih =>
        intro g k i0 i1 hf
        refine z_iload C dX8_begins_17 4 rfl ?_
        refine z_iload_n C dX8_begins_19 2 rfl ?_
        refine z_icmp_ge C (by omega) (by omega) (tgt := 63) dX8_begins_20 (by decide) (fun hc_3 => ?_) (fun hc_3 => ?_)
        · refine z_iload_n C dX8_begins_63 3 rfl ?_
          refine z_zret (b := g) C dX8_begins_64 () ?_ ?_ ?_ (by decide) (by decide)
          · rw [i1, show k = n by omega, show (n - n).toNat = 0 by omega, Int.pow_zero, Int.ediv_one]
          · exact trivial
          · exact rfl
        · refine z_iload_n C dX8_begins_23 3 rfl ?_
          refine z_ifz C (tgt := 63) dX8_begins_24 (by decide) (fun cg => ?_) (fun cg => ?_)
          · have hg : ¬ (n ≤ 8 * cl - po ∧ pkI (inC bt cl) po k.toNat = y / 2 ^ (n - k).toNat) := of_decide_eq_false (i1.symm.trans cg)
            refine z_iload_n C dX8_begins_63 3 rfl ?_
            refine z_zret (b := g) C dX8_begins_64 () ?_ ?_ ?_ (by decide) (by decide)
            · rw [decide_eq_false (fun z => hg ⟨z.1, by rw [← z.2, show n.toNat = k.toNat + (n - k).toNat by omega, pkI_dv]⟩), ← cg]
            · exact trivial
            · exact rfl
          · have hg := of_decide_eq_true (i1.symm.trans cg)
            have hs := div2_s y (n - 1 - k).toNat
            rw [show (n - 1 - k).toNat + 1 = (n - k).toNat by omega] at hs
            have hw1 : 0 ≤ y / 2 ^ (n - 1 - k).toNat := Int.ediv_nonneg hy.1 (Int.le_of_lt (Int.pow_pos (by decide)))
            have hw2 : y / 2 ^ (n - 1 - k).toNat ≤ y := Int.ediv_le_self _ hy.1
            have h01 := bitC_01 bt cl (po + k)
            refine z_aload_n C dX8_begins_27 0 rfl ?_
            refine z_aload_n C dX8_begins_28 0 rfl ?_
            refine z_get C hinX8 (ci := 10) rfl 0 rfl 13 (by decide) k0 rfl (v := vI po) rfl dX8_begins_29 ?_
            refine z_iload C dX8_begins_32 4 rfl ?_
            refine z_iadd C dX8_begins_34 ?_
            refine z_callV C (As := [vI (po + k)]) (st := []) (c_X8_bitAt l D cy tw b kd co th rw cl wr po dm sx aa dk fi bb cz hm se da sa bt oz (po + k)  (by omega) (hbt) (by omega)) gX8_begins_X8_bitAt kn_X8_bitAt rfl ⟨rfl, rfl, Nat.le_of_ble_eq_true rfl, Nat.le_of_ble_eq_true rfl⟩ 0 rfl (ci := 10) rfl rfl (Nat.le_of_ble_eq_true rfl) ⟨Nat.le_of_ble_eq_true rfl, Nat.le_of_ble_eq_true rfl⟩ dX8_begins_35 (fun u4 hu4 => ?_)
            clear hu4; clear u4
            show V 0 0 (MW cy b kd co th rw cl wr po dm sx aa dk fi bb cz hm se da sa bt oz) [(0, .ref (b 0)), (1, vI y), (2, vI n), (3, vI (b2i g)), (4, vI k)] [vI (bitC bt cl (po + k))] 38
            refine z_iload_n C dX8_begins_38 1 rfl ?_
            refine z_iload_n C dX8_begins_39 2 rfl ?_
            refine z_iconst C (z := 1) dX8_begins_40 ?_
            refine z_isub C dX8_begins_41 ?_
            refine z_iload C dX8_begins_42 4 rfl ?_
            refine z_isub C dX8_begins_44 ?_
            refine z_ishr C (((n - 1) - k).toNat) dX8_begins_45 (by omega) (by omega) (by omega) ?_
            refine z_iconst C (z := 1) dX8_begins_46 ?_
            refine z_iand C 1 dX8_begins_47 (by decide) (by decide) ?_
            refine z_icmp_ne C (by omega) (by omega) (tgt := 55) dX8_begins_48 (by decide) (fun cb => ?_) (fun cb => ?_)
            · refine z_iconst C (z := 0) dX8_begins_55 ?_
              refine z_istore_n C (lv' := [(3, vI 0), (0, .ref (b 0)), (1, vI y), (2, vI n), (4, vI k)]) dX8_begins_56 rfl (by decide) rfl ?_
              refine z_iinc C (lv' := [(4, vI (k + 1)), (3, vI 0), (0, .ref (b 0)), (1, vI y), (2, vI n)]) dX8_begins_57 4 rfl (by decide) rfl ?_
              refine z_goto C (tgt := 17) dX8_begins_60 (by decide) ?_
              refine z_lsub C [2, 3, 4, 1, 0] rfl ?_
              exact ih false (k + 1) (by omega) (by rw [decide_eq_false]; rw [show (k + 1).toNat = k.toNat + 1 by omega, show (n - (k + 1)).toNat = (n - 1 - k).toNat by omega, pkI, ← show po + k = po + ((k.toNat : Nat) : Int) by omega, ← bitC_b]; omega) (by omega)
            · refine z_iconst C (z := 1) dX8_begins_51 ?_
              refine z_goto C (tgt := 56) dX8_begins_52 (by decide) ?_
              refine z_istore_n C (lv' := [(3, vI 1), (0, .ref (b 0)), (1, vI y), (2, vI n), (4, vI k)]) dX8_begins_56 rfl (by decide) rfl ?_
              refine z_iinc C (lv' := [(4, vI (k + 1)), (3, vI 1), (0, .ref (b 0)), (1, vI y), (2, vI n)]) dX8_begins_57 4 rfl (by decide) rfl ?_
              refine z_goto C (tgt := 17) dX8_begins_60 (by decide) ?_
              refine z_lsub C [2, 3, 4, 1, 0] rfl ?_
              exact ih true (k + 1) (by omega) (by rw [decide_eq_true]; rw [show (k + 1).toNat = k.toNat + 1 by omega, show (n - (k + 1)).toNat = (n - 1 - k).toNat by omega, pkI, ← show po + k = po + ((k.toNat : Nat) : Int) by omega, ← bitC_b]; omega) (by omega)
    refine z_lsub C [2, 3, 4, 1, 0] rfl ?_
    exact J17 _ false 0 (by omega) (by rw [show (n - 0).toNat = n.toNat by omega, Int.ediv_eq_zero_of_lt hy.1 hy.2.2, show (0 : Int).toNat = 0 from rfl, pkI]; first | (rw [decide_eq_true ⟨by omega, rfl⟩]) | (rw [decide_eq_false (fun z => by omega)])) (Nat.lt_succ_self _)
  · refine z_iconst C (z := 1) dX8_begins_8 ?_
    refine z_goto C (tgt := 13) dX8_begins_9 (by decide) ?_
    refine z_istore_n C (lv' := [(3, vI 1), (0, .ref (b 0)), (1, vI y), (2, vI n)]) dX8_begins_13 rfl (by decide) rfl ?_
    refine z_iconst C (z := 0) dX8_begins_14 ?_
    refine z_istore C (lv' := [(4, vI 0), (3, vI 1), (0, .ref (b 0)), (1, vI y), (2, vI n)]) dX8_begins_15 (by decide) rfl ?_
    have J17 : ∀ (f : Nat) (g : Bool) (k : Int), (0 ≤ k ∧ k ≤ n) → (g = decide (n ≤ 8 * cl - po ∧ pkI (inC bt cl) po k.toNat = y / 2 ^ (n - k).toNat)) → (n - k).toNat < f → V 0 0 (MW cy b kd co th rw cl wr po dm sx aa dk fi bb cz hm se da sa bt oz) [(0, .ref (b 0)), (1, vI y), (2, vI n), (3, vI (b2i g)), (4, vI k)] [] 17 := by
      intro f
      induction f with
      | zero => intro g k i0 i1 hf; exact absurd hf (Nat.not_lt_zero _)
      | succ f ih =>
        intro g k i0 i1 hf
        refine z_iload C dX8_begins_17 4 rfl ?_
        refine z_iload_n C dX8_begins_19 2 rfl ?_
        refine z_icmp_ge C (by omega) (by omega) (tgt := 63) dX8_begins_20 (by decide) (fun hc_5 => ?_) (fun hc_5 => ?_)
        · refine z_iload_n C dX8_begins_63 3 rfl ?_
          refine z_zret (b := g) C dX8_begins_64 () ?_ ?_ ?_ (by decide) (by decide)
          · rw [i1, show k = n by omega, show (n - n).toNat = 0 by omega, Int.pow_zero, Int.ediv_one]
          · exact trivial
          · exact rfl
        · refine z_iload_n C dX8_begins_23 3 rfl ?_
          refine z_ifz C (tgt := 63) dX8_begins_24 (by decide) (fun cg => ?_) (fun cg => ?_)
          · have hg : ¬ (n ≤ 8 * cl - po ∧ pkI (inC bt cl) po k.toNat = y / 2 ^ (n - k).toNat) := of_decide_eq_false (i1.symm.trans cg)
            refine z_iload_n C dX8_begins_63 3 rfl ?_
            refine z_zret (b := g) C dX8_begins_64 () ?_ ?_ ?_ (by decide) (by decide)
            · rw [decide_eq_false (fun z => hg ⟨z.1, by rw [← z.2, show n.toNat = k.toNat + (n - k).toNat by omega, pkI_dv]⟩), ← cg]
            · exact trivial
            · exact rfl
          · have hg := of_decide_eq_true (i1.symm.trans cg)
            have hs := div2_s y (n - 1 - k).toNat
            rw [show (n - 1 - k).toNat + 1 = (n - k).toNat by omega] at hs
            have hw1 : 0 ≤ y / 2 ^ (n - 1 - k).toNat := Int.ediv_nonneg hy.1 (Int.le_of_lt (Int.pow_pos (by decide)))
            have hw2 : y / 2 ^ (n - 1 - k).toNat ≤ y := Int.ediv_le_self _ hy.1
            have h01 := bitC_01 bt cl (po + k)
            refine z_aload_n C dX8_begins_27 0 rfl ?_
            refine z_aload_n C dX8_begins_28 0 rfl ?_
            refine z_get C hinX8 (ci := 10) rfl 0 rfl 13 (by decide) k0 rfl (v := vI po) rfl dX8_begins_29 ?_
            refine z_iload C dX8_begins_32 4 rfl ?_
            refine z_iadd C dX8_begins_34 ?_
            refine z_callV C (As := [vI (po + k)]) (st := []) (c_X8_bitAt l D cy tw b kd co th rw cl wr po dm sx aa dk fi bb cz hm se da sa bt oz (po + k)  (by omega) (hbt) (by omega)) gX8_begins_X8_bitAt kn_X8_bitAt rfl ⟨rfl, rfl, Nat.le_of_ble_eq_true rfl, Nat.le_of_ble_eq_true rfl⟩ 0 rfl (ci := 10) rfl rfl (Nat.le_of_ble_eq_true rfl) ⟨Nat.le_of_ble_eq_true rfl, Nat.le_of_ble_eq_true rfl⟩ dX8_begins_35 (fun u6 hu6 => ?_)
            clear hu6; clear u6
            show V 0 0 (MW cy b kd co th rw cl wr po dm sx aa dk fi bb cz hm se da sa bt oz) [(0, .ref (b 0)), (1, vI y), (2, vI n), (3, vI (b2i g)), (4, vI k)] [vI (bitC bt cl (po + k))] 38
            refine z_iload_n C dX8_begins_38 1 rfl ?_
            refine z_iload_n C dX8_begins_39 2 rfl ?_
            refine z_iconst C (z := 1) dX8_begins_40 ?_
            refine z_isub C dX8_begins_41 ?_
            refine z_iload C dX8_begins_42 4 rfl ?_
            refine z_isub C dX8_begins_44 ?_
            refine z_ishr C (((n - 1) - k).toNat) dX8_begins_45 (by omega) (by omega) (by omega) ?_
            refine z_iconst C (z := 1) dX8_begins_46 ?_
            refine z_iand C 1 dX8_begins_47 (by decide) (by decide) ?_
            refine z_icmp_ne C (by omega) (by omega) (tgt := 55) dX8_begins_48 (by decide) (fun cb => ?_) (fun cb => ?_)
            · refine z_iconst C (z := 0) dX8_begins_55 ?_
              refine z_istore_n C (lv' := [(3, vI 0), (0, .ref (b 0)), (1, vI y), (2, vI n), (4, vI k)]) dX8_begins_56 rfl (by decide) rfl ?_
              refine z_iinc C (lv' := [(4, vI (k + 1)), (3, vI 0), (0, .ref (b 0)), (1, vI y), (2, vI n)]) dX8_begins_57 4 rfl (by decide) rfl ?_
              refine z_goto C (tgt := 17) dX8_begins_60 (by decide) ?_
              refine z_lsub C [2, 3, 4, 1, 0] rfl ?_
              exact ih false (k + 1) (by omega) (by rw [decide_eq_false]; rw [show (k + 1).toNat = k.toNat + 1 by omega, show (n - (k + 1)).toNat = (n - 1 - k).toNat by omega, pkI, ← show po + k = po + ((k.toNat : Nat) : Int) by omega, ← bitC_b]; omega) (by omega)
            · refine z_iconst C (z := 1) dX8_begins_51 ?_
              refine z_goto C (tgt := 56) dX8_begins_52 (by decide) ?_
              refine z_istore_n C (lv' := [(3, vI 1), (0, .ref (b 0)), (1, vI y), (2, vI n), (4, vI k)]) dX8_begins_56 rfl (by decide) rfl ?_
              refine z_iinc C (lv' := [(4, vI (k + 1)), (3, vI 1), (0, .ref (b 0)), (1, vI y), (2, vI n)]) dX8_begins_57 4 rfl (by decide) rfl ?_
              refine z_goto C (tgt := 17) dX8_begins_60 (by decide) ?_
              refine z_lsub C [2, 3, 4, 1, 0] rfl ?_
              exact ih true (k + 1) (by omega) (by rw [decide_eq_true]; rw [show (k + 1).toNat = k.toNat + 1 by omega, show (n - (k + 1)).toNat = (n - 1 - k).toNat by omega, pkI, ← show po + k = po + ((k.toNat : Nat) : Int) by omega, ← bitC_b]; omega) (by omega)
    refine z_lsub C [2, 3, 4, 1, 0] rfl ?_
    exact J17 _ true 0 (by omega) (by rw [show (n - 0).toNat = n.toNat by omega, Int.ediv_eq_zero_of_lt hy.1 hy.2.2, show (0 : Int).toNat = 0 from rfl, pkI]; first | (rw [decide_eq_true ⟨by omega, rfl⟩]) | (rw [decide_eq_false (fun z => by omega)])) (Nat.lt_succ_self _)
