theorem kn_X8_readAcross : zKn yX8_readAcross wsX8_readAcross cX8_readAcross 5 (some .boolean) 1 := ⟨⟨_, rfl⟩, by decide +kernel, by decide +kernel, by decide +kernel⟩
set_option maxHeartbeats 2000000 in
set_option maxRecDepth 100000 in
theorem c_X8_readAcross (l : Launch) (D : va_G) (cy : Nat → ClassId) (tw : Nat → Nat) (b : Nat → Nat) (kd : Int) (co : Int) (th : Int) (rw : Int) (cl : Int) (wr : Int) (po : Int) (dm : Int) (aa : Int) (dk : Bool) (fi : Bool) (bb : Int) (cz : Int) (hm : Bool) (se : Nat → Bool) (da : Nat → Bool) (sa : Nat → Int) (bt : Nat → Int) (oz : Nat → Bool) (r : Int) (ct : Bool) (hco : 1 ≤ co ∧ co ≤ 700) (hr : 0 ≤ r ∧ r < 24) (hcl : 0 ≤ cl ∧ cl ≤ 400) (hbt : ∀ j : Nat, 0 ≤ bt j ∧ bt j < 256) (hpo : 0 ≤ po ∧ po ≤ 8 * cl) (ha : 0 ≤ aa ∧ aa ≤ co) : zMet l yX8_readAcross wsX8_readAcross { frames := 4, cells := 0, slots := 0, locals := 91 } D (zT cy) tw (MW cy b kd co th rw cl wr po dm (b2i ct) aa dk fi bb cz hm se da sa bt oz) [.ref (b 0), vI r] 0 0 (S := (Bool × Int × (Nat → Bool) × Int × Int) × Bool) (fun u => some (vI (b2i u.1.1))) (fun u => MW cy b kd co th rw cl wr u.1.2.1 dm u.1.2.2.2.2 u.1.2.2.2.1 dk fi bb cz u.2 se u.1.2.2.1 sa bt oz) (fun u => ((rdRun (inC bt cl) (8 * cl) dk 3201 po 0 false).1 < 0 ∧ u.1 = (decide (¬ (rdRun (inC bt cl) (8 * cl) dk 3201 po 0 false).1 = -1), (rdRun (inC bt cl) (8 * cl) dk 3201 po 0 false).2, da, aa, if (rdRun (inC bt cl) (8 * cl) dk 3201 po 0 false).1 = -1 then b2i ct else 3)) ∨ (¬ (rdRun (inC bt cl) (8 * cl) dk 3201 po 0 false).1 < 0 ∧ (rdRun (inC bt cl) (8 * cl) (!dk) 3201 (rdRun (inC bt cl) (8 * cl) dk 3201 po 0 false).2 0 false).1 < 0 ∧ u.1 = (decide (¬ (rdRun (inC bt cl) (8 * cl) (!dk) 3201 (rdRun (inC bt cl) (8 * cl) dk 3201 po 0 false).2 0 false).1 = -1), (rdRun (inC bt cl) (8 * cl) (!dk) 3201 (rdRun (inC bt cl) (8 * cl) dk 3201 po 0 false).2 0 false).2, pnM da r aa (mn (aa + (rdRun (inC bt cl) (8 * cl) dk 3201 po 0 false).1) co) dk, mn (aa + (rdRun (inC bt cl) (8 * cl) dk 3201 po 0 false).1) co, if (rdRun (inC bt cl) (8 * cl) (!dk) 3201 (rdRun (inC bt cl) (8 * cl) dk 3201 po 0 false).2 0 false).1 = -1 then b2i (decide (co < aa + (rdRun (inC bt cl) (8 * cl) dk 3201 po 0 false).1) || ct) else 3)) ∨ (¬ (rdRun (inC bt cl) (8 * cl) dk 3201 po 0 false).1 < 0 ∧ ¬ (rdRun (inC bt cl) (8 * cl) (!dk) 3201 (rdRun (inC bt cl) (8 * cl) dk 3201 po 0 false).2 0 false).1 < 0 ∧ u.1 = (true, (rdRun (inC bt cl) (8 * cl) (!dk) 3201 (rdRun (inC bt cl) (8 * cl) dk 3201 po 0 false).2 0 false).2, pnM (pnM da r aa (mn (aa + (rdRun (inC bt cl) (8 * cl) dk 3201 po 0 false).1) co) dk) r (mn (aa + (rdRun (inC bt cl) (8 * cl) dk 3201 po 0 false).1) co) (mn (mn (aa + (rdRun (inC bt cl) (8 * cl) dk 3201 po 0 false).1) co + (rdRun (inC bt cl) (8 * cl) (!dk) 3201 (rdRun (inC bt cl) (8 * cl) dk 3201 po 0 false).2 0 false).1) co) (!dk), mn (mn (aa + (rdRun (inC bt cl) (8 * cl) dk 3201 po 0 false).1) co + (rdRun (inC bt cl) (8 * cl) (!dk) 3201 (rdRun (inC bt cl) (8 * cl) dk 3201 po 0 false).2 0 false).1) co, b2i (decide (co < mn (aa + (rdRun (inC bt cl) (8 * cl) dk 3201 po 0 false).1) co + (rdRun (inC bt cl) (8 * cl) (!dk) 3201 (rdRun (inC bt cl) (8 * cl) dk 3201 po 0 false).2 0 false).1) || (decide (co < aa + (rdRun (inC bt cl) (8 * cl) dk 3201 po 0 false).1) || ct))))) := by
  refine z_met (cc := cX8_readAcross) (nL := 5) (ret := some .boolean) (by decide +kernel) rfl (Nat.le_of_ble_eq_true rfl) (lv := [(0, .ref (b 0)), (1, vI r)]) rfl ?_
  intro V p_ e_ s_ m_ args_ below_ meth_ c_ A_ C hmn
  have hinX8 : ∀ w ∈ u_ws RX8 TX8 22, w ∈ wsX8_readAcross := by decide +kernel
  have k0 : Cond.fieldLink RX8 127 "FaxFilterModel" "isDark" "Z" ∈ wsX8_readAcross := List.mem_of_getElem? (i := 1) rfl
  have k1 : Cond.fieldLink RX8 121 "FaxFilterModel" "a" "I" ∈ wsX8_readAcross := List.mem_of_getElem? (i := 3) rfl
  have k2 : Cond.fieldLink RX8 183 "FaxFilterModel" "state" "I" ∈ wsX8_readAcross := List.mem_of_getElem? (i := 2) rfl
  refine z_iconst C (z := 0) dX8_readAcross_0 ?_
  refine z_istore_n C (lv' := [(2, vI 0), (0, .ref (b 0)), (1, vI r)]) dX8_readAcross_1 rfl (by decide) rfl ?_
  refine z_iload_n C dX8_readAcross_2 0 rfl ?_
  refine z_iconst C (z := 2) dX8_readAcross_3 ?_
  refine z_icmp_ge C (by decide) (by decide) (tgt := 94) dX8_readAcross_4 (by decide) (fun hc_1 => ?_) (fun hc_1 => ?_)
  · exfalso; omega
  · refine z_aload_n C dX8_readAcross_7 1 rfl ?_
    refine z_get C hinX8 (ci := 10) rfl 0 rfl 17 (by decide) k0 rfl (v := vI (b2i dk)) rfl dX8_readAcross_8 ?_
    refine z_iload_n C dX8_readAcross_11 0 rfl ?_
    refine z_iconst C (z := 1) dX8_readAcross_12 ?_
    refine z_sel2 C (fun z w => decide (z = w)) (by decide) (by decide) (Or.inr (Or.inl ⟨rfl, rfl⟩)) dX8_readAcross_13 dX8_readAcross_16 dX8_readAcross_17 dX8_readAcross_20 ?_
    refine z_nmZ (fun kb1 ekb1 => ?_)
    refine z_sel2 C (fun z w => decide (¬ z = w)) (by have := b2i_01 dk; omega) (by first | (have := b2i_01 kb1; omega) | (have := b2i_01 kb2; omega)) (Or.inl ⟨rfl, rfl⟩) dX8_readAcross_21 dX8_readAcross_24 dX8_readAcross_25 dX8_readAcross_28 ?_
    refine z_nmZ (fun o1 eo1 => ?_)
    refine z_istore_n C (lv' := [(3, vI (b2i o1)), (2, vI 0), (0, .ref (b 0)), (1, vI r)]) dX8_readAcross_29 rfl (by decide) rfl ?_
    have ho1 : o1 = dk := by rw [eo1, ekb1]; cases dk <;> rfl
    refine z_aload_n C dX8_readAcross_30 2 rfl ?_
    refine z_iload_n C dX8_readAcross_31 0 rfl ?_
    refine z_callV C (As := [vI (b2i o1)]) (st := []) (c_X8_takeRun l D cy tw b kd co th rw cl wr po dm (b2i ct) aa dk fi bb cz hm se da sa bt oz o1  (by omega) (hbt) (by omega)) gX8_readAcross_X8_takeRun kn_X8_takeRun rfl ⟨rfl, rfl, Nat.le_of_ble_eq_true rfl, Nat.le_of_ble_eq_true rfl⟩ 0 rfl (ci := 10) rfl rfl (Nat.le_of_ble_eq_true rfl) ⟨Nat.le_of_ble_eq_true rfl, Nat.le_of_ble_eq_true rfl⟩ dX8_readAcross_32 (fun u2 hu2 => ?_)
    show V 0 0 (MW cy b kd co th rw cl wr ((rdRun (inC bt cl) (8 * cl) o1 3201 po 0 false).2) dm (b2i ct) aa dk fi bb cz u2 se da sa bt oz) [(3, vI (b2i o1)), (2, vI 0), (0, .ref (b 0)), (1, vI r)] [vI (trV (rdRun (inC bt cl) (8 * cl) o1 3201 po 0 false).1)] 35
    obtain ⟨q1, eq1⟩ : ∃ z, z = ((rdRun (inC bt cl) (8 * cl) o1 3201 po 0 false).2) := ⟨_, rfl⟩
    rw [← eq1]
    refine z_nmI (fun nv1 env1 => ?_)
    refine z_istore C (lv' := [(4, vI nv1), (3, vI (b2i o1)), (2, vI 0), (0, .ref (b 0)), (1, vI r)]) dX8_readAcross_35 (by decide) rfl ?_
    obtain ⟨rv1, erv1⟩ : ∃ z, z = (rdRun (inC bt cl) (8 * cl) o1 3201 po 0 false).1 := ⟨_, rfl⟩
    rw [← erv1] at env1
    obtain ⟨hqr1, hrv1⟩ := rdv_inv (by omega) erv1 eq1 env1
    refine z_iload C dX8_readAcross_37 0 rfl ?_
    refine z_if_ge C (by omega) (tgt := 72) dX8_readAcross_39 (by decide) (fun hc_3 => ?_) (fun hc_3 => ?_)
    · have hrx1 : nv1 = rv1 ∧ 0 ≤ rv1 ∧ rv1 ≤ 640 * (q1 - po) ∧ po + 2 ≤ q1 := by omega
      clear hrv1
      have hmn1 := mn_rg (a := aa + nv1) (b := co) (x := 0) (by omega) (by omega)
      have hbc1 := b2i_01 (ct)
      refine z_aload_n C dX8_readAcross_72 3 rfl ?_
      refine z_aload_n C dX8_readAcross_73 3 rfl ?_
      refine z_iload_n C dX8_readAcross_74 4 rfl ?_
      refine z_aload_n C dX8_readAcross_75 3 rfl ?_
      refine z_get C hinX8 (ci := 10) rfl 0 rfl 16 (by decide) k1 rfl (v := vI aa) rfl dX8_readAcross_76 ?_
      refine z_iload C dX8_readAcross_79 0 rfl ?_
      refine z_iload_n C dX8_readAcross_81 1 rfl ?_
      refine z_callV C (As := [vI r, vI aa, vI nv1, vI (b2i o1)]) (st := [.ref (b 0)]) (c_X8_paintRun l D cy tw b kd co th rw cl wr q1 dm (b2i ct) aa dk fi bb cz u2 se da sa bt oz r aa nv1 o1  (by omega) (by omega) (by omega) (by omega) (by omega)) gX8_readAcross_X8_paintRun kn_X8_paintRun rfl ⟨rfl, rfl, Nat.le_of_ble_eq_true rfl, Nat.le_of_ble_eq_true rfl⟩ 0 rfl (ci := 10) rfl rfl (Nat.le_of_ble_eq_true rfl) ⟨Nat.le_of_ble_eq_true rfl, Nat.le_of_ble_eq_true rfl⟩ dX8_readAcross_82 (fun u4 hu4 => ?_)
      clear hu4; clear u4
      show V 0 0 (MW cy b kd co th rw cl wr q1 dm (if co < aa + nv1 then (if 1 < b2i ct then b2i ct else 1) else b2i ct) aa dk fi bb cz u2 se (pnM da r aa (mn (aa + nv1) co) o1) sa bt oz) [(4, vI nv1), (3, vI (b2i o1)), (2, vI 0), (0, .ref (b 0)), (1, vI r)] [vI (mn (aa + nv1) co), .ref (b 0)] 85
      obtain ⟨w1, ew1⟩ : ∃ z, z = (pnM da r aa (mn (aa + nv1) co) o1) := ⟨_, rfl⟩
      rw [← ew1]
      obtain ⟨s1, es1⟩ : ∃ z, z = (if co < aa + nv1 then (if 1 < b2i ct then b2i ct else 1) else b2i ct) := ⟨_, rfl⟩
      rw [← es1]
      refine z_put C hinX8 tyX8 tyX8_ok nmX8 (ci := 10) rfl 0 rfl 16 (by decide) k1 rfl rfl rfl rfl (Nat.le_of_ble_eq_true rfl) dX8_readAcross_85 (ws' := MW cy b kd co th rw cl wr q1 dm s1 (mn (aa + nv1) co) dk fi bb cz u2 se w1 sa bt oz) rfl ?_
      have hs1 : s1 = b2i (decide (co < aa + nv1) || ct) := by rw [es1]; exact sx_ct rfl
      refine z_iinc C (lv' := [(2, vI (0 + 1)), (4, vI nv1), (3, vI (b2i o1)), (0, .ref (b 0)), (1, vI r)]) dX8_readAcross_88 2 rfl (by decide) rfl ?_
      refine z_goto C (tgt := 2) dX8_readAcross_91 (by decide) ?_
      refine z_iload_n C dX8_readAcross_2 0 rfl ?_
      refine z_iconst C (z := 2) dX8_readAcross_3 ?_
      refine z_icmp_ge C (by omega) (by decide) (tgt := 94) dX8_readAcross_4 (by decide) (fun hc_5 => ?_) (fun hc_5 => ?_)
      · exfalso; omega
      · refine z_aload_n C dX8_readAcross_7 3 rfl ?_
        refine z_get C hinX8 (ci := 10) rfl 0 rfl 17 (by decide) k0 rfl (v := vI (b2i dk)) rfl dX8_readAcross_8 ?_
        refine z_iload_n C dX8_readAcross_11 0 rfl ?_
        refine z_iconst C (z := 1) dX8_readAcross_12 ?_
        refine z_sel2 C (fun z w => decide (z = w)) (by omega) (by decide) (Or.inr (Or.inl ⟨rfl, rfl⟩)) dX8_readAcross_13 dX8_readAcross_16 dX8_readAcross_17 dX8_readAcross_20 ?_
        refine z_nmZ (fun kb2 ekb2 => ?_)
        refine z_sel2 C (fun z w => decide (¬ z = w)) (by have := b2i_01 dk; omega) (by first | (have := b2i_01 kb1; omega) | (have := b2i_01 kb2; omega)) (Or.inl ⟨rfl, rfl⟩) dX8_readAcross_21 dX8_readAcross_24 dX8_readAcross_25 dX8_readAcross_28 ?_
        refine z_nmZ (fun o2 eo2 => ?_)
        refine z_istore_n C (lv' := [(3, vI (b2i o2)), (2, vI (0 + 1)), (4, vI nv1), (0, .ref (b 0)), (1, vI r)]) dX8_readAcross_29 rfl (by decide) rfl ?_
        have ho2 : o2 = !dk := by rw [eo2, ekb2]; cases dk <;> rfl
        refine z_aload_n C dX8_readAcross_30 3 rfl ?_
        refine z_iload_n C dX8_readAcross_31 0 rfl ?_
        refine z_callV C (As := [vI (b2i o2)]) (st := []) (c_X8_takeRun l D cy tw b kd co th rw cl wr q1 dm s1 (mn (aa + nv1) co) dk fi bb cz u2 se w1 sa bt oz o2  (by omega) (hbt) (by omega)) gX8_readAcross_X8_takeRun kn_X8_takeRun rfl ⟨rfl, rfl, Nat.le_of_ble_eq_true rfl, Nat.le_of_ble_eq_true rfl⟩ 0 rfl (ci := 10) rfl rfl (Nat.le_of_ble_eq_true rfl) ⟨Nat.le_of_ble_eq_true rfl, Nat.le_of_ble_eq_true rfl⟩ dX8_readAcross_32 (fun u6 hu6 => ?_)
        show V 0 0 (MW cy b kd co th rw cl wr ((rdRun (inC bt cl) (8 * cl) o2 3201 q1 0 false).2) dm s1 (mn (aa + nv1) co) dk fi bb cz u6 se w1 sa bt oz) [(3, vI (b2i o2)), (2, vI (0 + 1)), (4, vI nv1), (0, .ref (b 0)), (1, vI r)] [vI (trV (rdRun (inC bt cl) (8 * cl) o2 3201 q1 0 false).1)] 35
        obtain ⟨q2, eq2⟩ : ∃ z, z = ((rdRun (inC bt cl) (8 * cl) o2 3201 q1 0 false).2) := ⟨_, rfl⟩
        rw [← eq2]
        refine z_nmI (fun nv2 env2 => ?_)
        refine z_istore C (lv' := [(4, vI nv2), (3, vI (b2i o2)), (2, vI (0 + 1)), (0, .ref (b 0)), (1, vI r)]) dX8_readAcross_35 (by decide) rfl ?_
        obtain ⟨rv2, erv2⟩ : ∃ z, z = (rdRun (inC bt cl) (8 * cl) o2 3201 q1 0 false).1 := ⟨_, rfl⟩
        rw [← erv2] at env2
        obtain ⟨hqr2, hrv2⟩ := rdv_inv (by omega) erv2 eq2 env2
        refine z_iload C dX8_readAcross_37 0 rfl ?_
        refine z_if_ge C (by omega) (tgt := 72) dX8_readAcross_39 (by decide) (fun hc_7 => ?_) (fun hc_7 => ?_)
        · have hrx2 : nv2 = rv2 ∧ 0 ≤ rv2 ∧ rv2 ≤ 640 * (q2 - q1) ∧ q1 + 2 ≤ q2 := by omega
          clear hrv2
          have hmn2 := mn_rg (a := mn (aa + nv1) co + nv2) (b := co) (x := 0) (by omega) (by omega)
          have hbc2 := b2i_01 (decide (co < aa + nv1) || ct)
          refine z_aload_n C dX8_readAcross_72 3 rfl ?_
          refine z_aload_n C dX8_readAcross_73 3 rfl ?_
          refine z_iload_n C dX8_readAcross_74 4 rfl ?_
          refine z_aload_n C dX8_readAcross_75 3 rfl ?_
          refine z_get C hinX8 (ci := 10) rfl 0 rfl 16 (by decide) k1 rfl (v := vI (mn (aa + nv1) co)) rfl dX8_readAcross_76 ?_
          refine z_iload C dX8_readAcross_79 0 rfl ?_
          refine z_iload_n C dX8_readAcross_81 1 rfl ?_
          refine z_callV C (As := [vI r, vI (mn (aa + nv1) co), vI nv2, vI (b2i o2)]) (st := [.ref (b 0)]) (c_X8_paintRun l D cy tw b kd co th rw cl wr q2 dm s1 (mn (aa + nv1) co) dk fi bb cz u6 se w1 sa bt oz r (mn (aa + nv1) co) nv2 o2  (by omega) (by omega) (by omega) (by omega) (by omega)) gX8_readAcross_X8_paintRun kn_X8_paintRun rfl ⟨rfl, rfl, Nat.le_of_ble_eq_true rfl, Nat.le_of_ble_eq_true rfl⟩ 0 rfl (ci := 10) rfl rfl (Nat.le_of_ble_eq_true rfl) ⟨Nat.le_of_ble_eq_true rfl, Nat.le_of_ble_eq_true rfl⟩ dX8_readAcross_82 (fun u8 hu8 => ?_)
          clear hu8; clear u8
          show V 0 0 (MW cy b kd co th rw cl wr q2 dm (if co < (mn (aa + nv1) co) + nv2 then (if 1 < s1 then s1 else 1) else s1) (mn (aa + nv1) co) dk fi bb cz u6 se (pnM w1 r (mn (aa + nv1) co) (mn ((mn (aa + nv1) co) + nv2) co) o2) sa bt oz) [(4, vI nv2), (3, vI (b2i o2)), (2, vI (0 + 1)), (0, .ref (b 0)), (1, vI r)] [vI (mn ((mn (aa + nv1) co) + nv2) co), .ref (b 0)] 85
          obtain ⟨w2, ew2⟩ : ∃ z, z = (pnM w1 r (mn (aa + nv1) co) (mn ((mn (aa + nv1) co) + nv2) co) o2) := ⟨_, rfl⟩
          rw [← ew2]
          obtain ⟨s2, es2⟩ : ∃ z, z = (if co < (mn (aa + nv1) co) + nv2 then (if 1 < s1 then s1 else 1) else s1) := ⟨_, rfl⟩
          rw [← es2]
          refine z_put C hinX8 tyX8 tyX8_ok nmX8 (ci := 10) rfl 0 rfl 16 (by decide) k1 rfl rfl rfl rfl (Nat.le_of_ble_eq_true rfl) dX8_readAcross_85 (ws' := MW cy b kd co th rw cl wr q2 dm s2 (mn ((mn (aa + nv1) co) + nv2) co) dk fi bb cz u6 se w2 sa bt oz) rfl ?_
          have hs2 : s2 = b2i (decide (co < mn (aa + nv1) co + nv2) || (decide (co < aa + nv1) || ct)) := by rw [es2]; exact sx_ct hs1
          refine z_iinc C (lv' := [(2, vI ((0 + 1) + 1)), (4, vI nv2), (3, vI (b2i o2)), (0, .ref (b 0)), (1, vI r)]) dX8_readAcross_88 2 rfl (by decide) rfl ?_
          refine z_goto C (tgt := 2) dX8_readAcross_91 (by decide) ?_
          refine z_iload_n C dX8_readAcross_2 0 rfl ?_
          refine z_iconst C (z := 2) dX8_readAcross_3 ?_
          refine z_icmp_ge C (by omega) (by decide) (tgt := 94) dX8_readAcross_4 (by decide) (fun hc_9 => ?_) (fun hc_9 => ?_)
          · refine z_iconst C (z := 1) dX8_readAcross_94 ?_
            refine z_zret (b := true) C dX8_readAcross_95 ((true, q2, w2, mn ((mn (aa + nv1) co) + nv2) co, s2), u6) ?_ ?_ ?_ (by decide) (by decide)
            · exact rfl
            · refine Or.inr (Or.inr ⟨by rw [← ho1, ← erv1]; omega, ?_⟩)
              rw [← ho1, ← erv1, ← eq1, ho1, ← ho2, ← erv2, ← eq2]
              refine ⟨by omega, ?_⟩
              rw [hs2, ew2, ew1, show nv1 = rv1 by omega, show nv2 = rv2 by omega, ho1, ho2]
            · exact rfl
          · exfalso; omega
        · refine z_aload_n C dX8_readAcross_42 3 rfl ?_
          refine z_iload C dX8_readAcross_43 0 rfl ?_
          refine z_iconst C (z := (-1)) dX8_readAcross_45 ?_
          refine z_icmp_ne C (by omega) (by omega) (tgt := 53) dX8_readAcross_46 (by decide) (fun hc_10 => ?_) (fun hc_10 => ?_)
          · have hrx2 : rv2 = -1 ∧ nv2 = -2 := by omega
            clear hrv2
            refine z_aload_n C dX8_readAcross_53 3 rfl ?_
            refine z_get C hinX8 (ci := 10) rfl 0 rfl 15 (by decide) k2 rfl (v := vI s1) rfl dX8_readAcross_54 ?_
            refine z_put C hinX8 tyX8 tyX8_ok nmX8 (ci := 10) rfl 0 rfl 15 (by decide) k2 rfl rfl rfl rfl (Nat.le_of_ble_eq_true rfl) dX8_readAcross_57 (ws' := MW cy b kd co th rw cl wr q2 dm s1 (mn (aa + nv1) co) dk fi bb cz u6 se w1 sa bt oz) rfl ?_
            refine z_iload C dX8_readAcross_60 0 rfl ?_
            refine z_iconst C (z := (-1)) dX8_readAcross_62 ?_
            refine z_sel2 C (fun z w => decide (z = w)) (by omega) (by omega) (Or.inr (Or.inl ⟨rfl, rfl⟩)) dX8_readAcross_63 dX8_readAcross_66 dX8_readAcross_67 dX8_readAcross_70 ?_
            refine z_zret (b := (decide (nv2 = (-1)))) C dX8_readAcross_71 (((decide (nv2 = (-1))), q2, w1, mn (aa + nv1) co, s1), u6) ?_ ?_ ?_ (by decide) (by decide)
            · exact rfl
            · refine Or.inr (Or.inl ⟨by rw [← ho1, ← erv1]; omega, ?_⟩)
              rw [← ho1, ← erv1, ← eq1, ho1, ← ho2, ← erv2, ← eq2]
              refine ⟨by omega, ?_⟩
              rw [show decide (nv2 = -1) = decide (¬ rv2 = -1) from decide_eq_decide.mpr (by omega), if_pos (by omega), hs1, ew1, show nv1 = rv1 by omega, ho1]
            · exact rfl
          · have hrx2 : ¬ rv2 = -1 ∧ rv2 < 0 := by omega
            clear hrv2
            refine z_iconst C (z := 3) dX8_readAcross_49 ?_
            refine z_goto C (tgt := 57) dX8_readAcross_50 (by decide) ?_
            refine z_put C hinX8 tyX8 tyX8_ok nmX8 (ci := 10) rfl 0 rfl 15 (by decide) k2 rfl rfl rfl rfl (Nat.le_of_ble_eq_true rfl) dX8_readAcross_57 (ws' := MW cy b kd co th rw cl wr q2 dm 3 (mn (aa + nv1) co) dk fi bb cz u6 se w1 sa bt oz) rfl ?_
            refine z_iload C dX8_readAcross_60 0 rfl ?_
            refine z_iconst C (z := (-1)) dX8_readAcross_62 ?_
            refine z_sel2 C (fun z w => decide (z = w)) (by omega) (by omega) (Or.inr (Or.inl ⟨rfl, rfl⟩)) dX8_readAcross_63 dX8_readAcross_66 dX8_readAcross_67 dX8_readAcross_70 ?_
            refine z_zret (b := (decide (nv2 = (-1)))) C dX8_readAcross_71 (((decide (nv2 = (-1))), q2, w1, mn (aa + nv1) co, 3), u6) ?_ ?_ ?_ (by decide) (by decide)
            · exact rfl
            · refine Or.inr (Or.inl ⟨by rw [← ho1, ← erv1]; omega, ?_⟩)
              rw [← ho1, ← erv1, ← eq1, ho1, ← ho2, ← erv2, ← eq2]
              refine ⟨by omega, ?_⟩
              rw [show decide (nv2 = -1) = decide (¬ rv2 = -1) from decide_eq_decide.mpr (by omega), if_neg (by omega), ew1, show nv1 = rv1 by omega, ho1]
            · exact rfl
    · refine z_aload_n C dX8_readAcross_42 3 rfl ?_
      refine z_iload C dX8_readAcross_43 0 rfl ?_
      refine z_iconst C (z := (-1)) dX8_readAcross_45 ?_
      refine z_icmp_ne C (by omega) (by omega) (tgt := 53) dX8_readAcross_46 (by decide) (fun hc_11 => ?_) (fun hc_11 => ?_)
      · have hrx1 : rv1 = -1 ∧ nv1 = -2 := by omega
        clear hrv1
        refine z_aload_n C dX8_readAcross_53 3 rfl ?_
        refine z_get C hinX8 (ci := 10) rfl 0 rfl 15 (by decide) k2 rfl (v := vI (b2i ct)) rfl dX8_readAcross_54 ?_
        refine z_put C hinX8 tyX8 tyX8_ok nmX8 (ci := 10) rfl 0 rfl 15 (by decide) k2 rfl rfl rfl rfl (Nat.le_of_ble_eq_true rfl) dX8_readAcross_57 (ws' := MW cy b kd co th rw cl wr q1 dm (b2i ct) aa dk fi bb cz u2 se da sa bt oz) rfl ?_
        refine z_iload C dX8_readAcross_60 0 rfl ?_
        refine z_iconst C (z := (-1)) dX8_readAcross_62 ?_
        refine z_sel2 C (fun z w => decide (z = w)) (by omega) (by omega) (Or.inr (Or.inl ⟨rfl, rfl⟩)) dX8_readAcross_63 dX8_readAcross_66 dX8_readAcross_67 dX8_readAcross_70 ?_
        refine z_zret (b := (decide (nv1 = (-1)))) C dX8_readAcross_71 (((decide (nv1 = (-1))), q1, da, aa, b2i ct), u2) ?_ ?_ ?_ (by decide) (by decide)
        · exact rfl
        · refine Or.inl ⟨by rw [← ho1, ← erv1]; omega, ?_⟩
          rw [← ho1, ← erv1, ← eq1]
          rw [show decide (nv1 = -1) = decide (¬ rv1 = -1) from decide_eq_decide.mpr (by omega), if_pos (by omega)]
        · exact rfl
      · have hrx1 : ¬ rv1 = -1 ∧ rv1 < 0 := by omega
        clear hrv1
        refine z_iconst C (z := 3) dX8_readAcross_49 ?_
        refine z_goto C (tgt := 57) dX8_readAcross_50 (by decide) ?_
        refine z_put C hinX8 tyX8 tyX8_ok nmX8 (ci := 10) rfl 0 rfl 15 (by decide) k2 rfl rfl rfl rfl (Nat.le_of_ble_eq_true rfl) dX8_readAcross_57 (ws' := MW cy b kd co th rw cl wr q1 dm 3 aa dk fi bb cz u2 se da sa bt oz) rfl ?_
        refine z_iload C dX8_readAcross_60 0 rfl ?_
        refine z_iconst C (z := (-1)) dX8_readAcross_62 ?_
        refine z_sel2 C (fun z w => decide (z = w)) (by omega) (by omega) (Or.inr (Or.inl ⟨rfl, rfl⟩)) dX8_readAcross_63 dX8_readAcross_66 dX8_readAcross_67 dX8_readAcross_70 ?_
        refine z_zret (b := (decide (nv1 = (-1)))) C dX8_readAcross_71 (((decide (nv1 = (-1))), q1, da, aa, 3), u2) ?_ ?_ ?_ (by decide) (by decide)
        · exact rfl
        · refine Or.inl ⟨by rw [← ho1, ← erv1]; omega, ?_⟩
          rw [← ho1, ← erv1, ← eq1]
          rw [show decide (nv1 = -1) = decide (¬ rv1 = -1) from decide_eq_decide.mpr (by omega), if_neg (by omega)]
        · exact rfl
