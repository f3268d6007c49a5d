theorem kn_X8_readPlain : zKn yX8_readPlain wsX8_readPlain cX8_readPlain 6 (some .boolean) 1 := ⟨⟨_, rfl⟩, by decide +kernel, by decide +kernel, by decide +kernel⟩
set_option maxHeartbeats 2000000 in
set_option maxRecDepth 100000 in
theorem c_X8_readPlain (l : Launch) (D : va_G) (cy : Nat → ClassId) (tw : Nat → Nat) (b : Nat → Nat) (kd : Int) (co : Int) (th : Int) (rw : Int) (cl : Int) (wr : Int) (po : Int) (dm : Int) (aa : Int) (dk : Bool) (fi : Bool) (bb : Int) (cz : Int) (hm : Bool) (se : Nat → Bool) (da : Nat → Bool) (sa : Nat → Int) (bt : Nat → Int) (oz : Nat → Bool) (r : Int) (g : Int → Bool) (hco : 1 ≤ co ∧ co ≤ 700) (hk : 0 ≤ kd ∧ kd ≤ 2) (hr : 0 ≤ r ∧ r < 24) (hcl : 0 ≤ cl ∧ cl ≤ 400) (hbt : ∀ j : Nat, 0 ≤ bt j ∧ bt j < 256) (hpo : 0 ≤ po ∧ po ≤ 8 * cl) (hg : RM da da co r g) : zMet l yX8_readPlain wsX8_readPlain { frames := 4, cells := 0, slots := 0, locals := 91 } D (zT cy) tw (MW cy b kd co th rw cl wr po dm 0 aa dk fi bb cz hm se da sa bt oz) [.ref (b 0), vI r] 0 0 (S := Int × (Nat → Bool) × Bool) (fun _ => some (vI (b2i (decide (¬ (rdPl (inC bt cl) (8 * cl) co (hasMk kd (se 0)) 3201 po 0 false false g).1 = -1))))) (fun u => MW cy b kd co th rw cl wr ((rdPl (inC bt cl) (8 * cl) co (hasMk kd (se 0)) 3201 po 0 false false g).2.1) dm u.1 aa dk fi bb cz u.2.2 se u.2.1 sa bt oz) (fun u => RM da u.2.1 co r (rdPl (inC bt cl) (8 * cl) co (hasMk kd (se 0)) 3201 po 0 false false g).2.2 ∧ (¬ (rdPl (inC bt cl) (8 * cl) co (hasMk kd (se 0)) 3201 po 0 false false g).1 = -1 → u.1 = (rdPl (inC bt cl) (8 * cl) co (hasMk kd (se 0)) 3201 po 0 false false g).1)) := by
  refine z_met (cc := cX8_readPlain) (nL := 6) (ret := some .boolean) (by decide +kernel) rfl (Nat.le_of_ble_eq_true rfl) (lv := [(0, .ref (b 0)), (1, vI r)]) rfl ?_
  intro V p_ e_ s_ m_ args_ below_ meth_ c_ A_ C hmn
  have hinX8 : ∀ w ∈ u_ws RX8 TX8 22, w ∈ wsX8_readPlain := by decide +kernel
  have k0 : Cond.fieldLink RX8 37 "FaxFilterModel" "columns" "I" ∈ wsX8_readPlain := List.mem_of_getElem? (i := 1) rfl
  have k1 : Cond.fieldLink RX8 183 "FaxFilterModel" "state" "I" ∈ wsX8_readPlain := List.mem_of_getElem? (i := 3) rfl
  have k2 : Cond.fieldLink RX8 177 "FaxFilterModel" "hadMake" "Z" ∈ wsX8_readPlain := List.mem_of_getElem? (i := 2) rfl
  refine z_iconst C (z := 0) dX8_readPlain_0 ?_
  refine z_istore_n C (lv' := [(2, vI 0), (0, .ref (b 0)), (1, vI r)]) dX8_readPlain_1 rfl (by decide) rfl ?_
  refine z_iconst C (z := 0) dX8_readPlain_2 ?_
  refine z_istore_n C (lv' := [(3, vI 0), (2, vI 0), (0, .ref (b 0)), (1, vI r)]) dX8_readPlain_3 rfl (by decide) rfl ?_
  have J4 : ∀ (f : Nat) (x : Int) (d : Bool) (q : Int) (ct : Bool) (w : Nat → Bool) (gg : Int → Bool) (h : Bool) (sv : Int) (k : Int), (0 ≤ k ∧ k ≤ q - po ∧ q ≤ 8 * cl) → (0 ≤ x ∧ x ≤ co) → (sv = b2i ct) → (RM da w co r gg) → (rdPl (inC bt cl) (8 * cl) co (hasMk kd (se 0)) 3201 po 0 false false g = rdPl (inC bt cl) (8 * cl) co (hasMk kd (se 0)) (3201 - k).toNat q x d ct gg) → (8 * cl - q).toNat < f → V 0 0 (MW cy b kd co th rw cl wr q dm sv aa dk fi bb cz h se w sa bt oz) [(0, .ref (b 0)), (1, vI r), (2, vI x), (3, vI (b2i d))] [] 4 := by
    intro f
    induction f with
    | zero => intro x d q ct w gg h sv k i0 i1 isv hR i2 hf; exact absurd hf (Nat.not_lt_zero _)
    | succ f ih =>
      intro x d q ct w gg h sv k i0 i1 isv hR i2 hf
      refine z_iload_n C dX8_readPlain_4 2 rfl ?_
      have hct := b2i_01 ct
      refine z_aload_n C dX8_readPlain_5 0 rfl ?_
      refine z_get C hinX8 (ci := 10) rfl 0 rfl 2 (by decide) k0 rfl (v := vI co) rfl dX8_readPlain_6 ?_
      refine z_icmp_ge C (by omega) (by omega) (tgt := 118) dX8_readPlain_9 (by decide) (fun hc_1 => ?_) (fun hc_1 => ?_)
      · have i4 : rdPl (inC bt cl) (8 * cl) co (hasMk kd (se 0)) 3201 po 0 false false g = (b2i ct, q, gg) := by rw [i2, rdPl_ge _ (by omega)]
        refine z_iconst C (z := 1) dX8_readPlain_118 ?_
        refine z_zret (b := true) C dX8_readPlain_119 (sv, w, h) ?_ ?_ ?_ (by decide) (by decide)
        · rw [i4, decide_eq_true (by dsimp only; omega)]
        · rw [i4]; exact ⟨hR, fun _ => isv⟩
        · rw [i4]
      · refine z_aload_n C dX8_readPlain_12 0 rfl ?_
        refine z_iload_n C dX8_readPlain_13 3 rfl ?_
        refine z_callV C (As := [vI (b2i d)]) (st := []) (c_X8_takeRun l D cy tw b kd co th rw cl wr q dm sv aa dk fi bb cz h se w sa bt oz d  (by omega) (hbt) (by omega)) gX8_readPlain_X8_takeRun kn_X8_takeRun rfl ⟨rfl, rfl, Nat.le_of_ble_eq_true rfl, Nat.le_of_ble_eq_true rfl⟩ 0 rfl (ci := 10) rfl rfl (Nat.le_of_ble_eq_true rfl) ⟨Nat.le_of_ble_eq_true rfl, Nat.le_of_ble_eq_true rfl⟩ dX8_readPlain_14 (fun u2 hu2 => ?_)
        show V 0 0 (MW cy b kd co th rw cl wr ((rdRun (inC bt cl) (8 * cl) d 3201 q 0 false).2) dm sv aa dk fi bb cz u2 se w sa bt oz) [(0, .ref (b 0)), (1, vI r), (2, vI x), (3, vI (b2i d))] [vI (trV (rdRun (inC bt cl) (8 * cl) d 3201 q 0 false).1)] 17
        obtain ⟨q2, eq2⟩ : ∃ z, z = ((rdRun (inC bt cl) (8 * cl) d 3201 q 0 false).2) := ⟨_, rfl⟩
        rw [← eq2]
        refine z_nmI (fun nv env => ?_)
        refine z_istore C (lv' := [(4, vI nv), (0, .ref (b 0)), (1, vI r), (2, vI x), (3, vI (b2i d))]) dX8_readPlain_17 (by decide) rfl ?_
        obtain ⟨rv, erv⟩ : ∃ z, z = (rdRun (inC bt cl) (8 * cl) d 3201 q 0 false).1 := ⟨_, rfl⟩
        rw [← erv] at env hu2
        obtain ⟨hqr, hrv⟩ := rdv_inv (by omega) erv eq2 env
        refine z_iload C dX8_readPlain_19 0 rfl ?_
        refine z_bipush C (z := (-2)) dX8_readPlain_21 (by decide) ?_
        refine z_icmp_ne C (by omega) (by omega) (tgt := 28) dX8_readPlain_23 (by decide) (fun hc_3 => ?_) (fun hc_3 => ?_)
        · refine z_iload C dX8_readPlain_28 0 rfl ?_
          refine z_iconst C (z := (-1)) dX8_readPlain_30 ?_
          refine z_icmp_ne C (by omega) (by omega) (tgt := 95) dX8_readPlain_31 (by decide) (fun hc_4 => ?_) (fun hc_4 => ?_)
          · have hrv1 : nv = rv ∧ 0 ≤ rv ∧ rv ≤ 640 * (q2 - q) ∧ q + 2 ≤ q2 := by omega
            clear hrv
            have i4 : rdPl (inC bt cl) (8 * cl) co (hasMk kd (se 0)) 3201 po 0 false false g = rdPl (inC bt cl) (8 * cl) co (hasMk kd (se 0)) (3201 - (k + 1)).toNat q2 (mn (x + nv) co) (!d) (decide (co < x + nv) || ct) (ptg gg x (mn (x + nv) co) d) := by
              rw [show nv = rv by omega]
              rw [i2, show (3201 - k).toNat = (3201 - (k + 1)).toNat + 1 by omega, rdPl, if_pos (by omega), ← erv, ← eq2, if_neg (by omega)]
            have hmn := mn_rg (a := x + nv) (b := co) (x := 0) (by omega) (by omega)
            refine z_aload_n C dX8_readPlain_95 1 rfl ?_
            refine z_iload_n C dX8_readPlain_96 2 rfl ?_
            refine z_iload_n C dX8_readPlain_97 3 rfl ?_
            refine z_iload C dX8_readPlain_98 0 rfl ?_
            refine z_iload_n C dX8_readPlain_100 4 rfl ?_
            refine z_callV C (As := [vI r, vI x, vI nv, vI (b2i d)]) (st := []) (c_X8_paintRun l D cy tw b kd co th rw cl wr q2 dm sv aa dk fi bb cz u2 se w sa bt oz r x nv d  (by omega) (by omega) (by omega) (by omega) (by omega)) gX8_readPlain_X8_paintRun kn_X8_paintRun rfl ⟨rfl, rfl, Nat.le_of_ble_eq_true rfl, Nat.le_of_ble_eq_true rfl⟩ 0 rfl (ci := 10) rfl rfl (Nat.le_of_ble_eq_true rfl) ⟨Nat.le_of_ble_eq_true rfl, Nat.le_of_ble_eq_true rfl⟩ dX8_readPlain_101 (fun u5 hu5 => ?_)
            clear hu5; clear u5
            show V 0 0 (MW cy b kd co th rw cl wr q2 dm (if co < x + nv then (if 1 < sv then sv else 1) else sv) aa dk fi bb cz u2 se (pnM w r x (mn (x + nv) co) d) sa bt oz) [(4, vI nv), (0, .ref (b 0)), (1, vI r), (2, vI x), (3, vI (b2i d))] [vI (mn (x + nv) co)] 104
            refine z_istore_n C (lv' := [(2, vI (mn (x + nv) co)), (4, vI nv), (0, .ref (b 0)), (1, vI r), (3, vI (b2i d))]) dX8_readPlain_104 rfl (by decide) rfl ?_
            refine z_iload_n C dX8_readPlain_105 4 rfl ?_
            refine z_not C dX8_readPlain_106 dX8_readPlain_109 dX8_readPlain_110 dX8_readPlain_113 ?_
            refine z_istore_n C (lv' := [(3, vI (b2i (!d))), (2, vI (mn (x + nv) co)), (4, vI nv), (0, .ref (b 0)), (1, vI r)]) dX8_readPlain_114 rfl (by decide) rfl ?_
            refine z_goto C (tgt := 4) dX8_readPlain_115 (by decide) ?_
            refine z_lsub C [3, 4, 1, 0] rfl ?_
            exact ih (mn (x + nv) co) (!d) q2 (decide (co < x + nv) || ct) (pnM w r x (mn (x + nv) co) d) (ptg gg x (mn (x + nv) co) d) u2 (if co < x + nv then (if 1 < sv then sv else 1) else sv) (k + 1) (by omega) (by omega) (sx_ct isv) (RM_pn d hr.1 i1.1 hmn.2.1 hco.2 hR) (i4) (by omega)
          · have hrv1 : rv = -2 ∨ rv = -3 := by omega
            clear hrv
            have i4 : rdPl (inC bt cl) (8 * cl) co (hasMk kd (se 0)) 3201 po 0 false false g = (pws (inC bt cl) (8 * cl) (hasMk kd (se 0)) rv q2, q2, gg) := by
              rw [i2, show (3201 - k).toNat = (3201 - (k + 1)).toNat + 1 by omega, rdPl, if_pos (by omega), ← erv, ← eq2, if_pos (by omega)]
            refine z_aload_n C dX8_readPlain_34 1 rfl ?_
            refine z_callV C (As := []) (st := []) (c_X8_hasMarks l D cy tw b kd co th rw cl wr q2 dm sv aa dk fi bb cz u2 se w sa bt oz   (by omega)) gX8_readPlain_X8_hasMarks kn_X8_hasMarks rfl ⟨rfl, rfl, Nat.le_of_ble_eq_true rfl, Nat.le_of_ble_eq_true rfl⟩ 0 rfl (ci := 10) rfl rfl (Nat.le_of_ble_eq_true rfl) ⟨Nat.le_of_ble_eq_true rfl, Nat.le_of_ble_eq_true rfl⟩ dX8_readPlain_35 (fun u6 hu6 => ?_)
            clear hu6; clear u6
            show V 0 0 (MW cy b kd co th rw cl wr q2 dm sv aa dk fi bb cz u2 se w sa bt oz) [(4, vI nv), (0, .ref (b 0)), (1, vI r), (2, vI x), (3, vI (b2i d))] [vI (b2i (hasMk kd (se 0)))] 38
            refine z_ifz C (tgt := 52) dX8_readPlain_38 (by decide) (fun cm => ?_) (fun cm => ?_)
            · refine z_iconst C (z := 0) dX8_readPlain_52 ?_
              refine z_istore C (lv' := [(5, vI 0), (4, vI nv), (0, .ref (b 0)), (1, vI r), (2, vI x), (3, vI (b2i d))]) dX8_readPlain_53 (by decide) rfl ?_
              refine z_aload_n C dX8_readPlain_55 2 rfl ?_
              refine z_iload C dX8_readPlain_56 0 rfl ?_
              refine z_if_eq C (by decide) (tgt := 72) dX8_readPlain_58 (by decide) (fun hc_7 => ?_) (fun hc_7 => ?_)
              rotate_left; · exact absurd hc_7 (by decide)
              refine z_iconst C (z := 3) dX8_readPlain_72 ?_
              refine z_put C hinX8 tyX8 tyX8_ok nmX8 (ci := 10) rfl 0 rfl 15 (by decide) k1 rfl rfl rfl rfl (Nat.le_of_ble_eq_true rfl) dX8_readPlain_73 (ws' := MW cy b kd co th rw cl wr q2 dm 3 aa dk fi bb cz u2 se w sa bt oz) rfl ?_
              refine z_iload C dX8_readPlain_76 0 rfl ?_
              refine z_if_eq C (by decide) (tgt := 89) dX8_readPlain_78 (by decide) (fun hc_8 => ?_) (fun hc_8 => ?_)
              rotate_left; · exact absurd hc_8 (by decide)
              refine z_iconst C (z := 1) dX8_readPlain_89 ?_
              refine z_goto C (tgt := 94) dX8_readPlain_90 (by decide) ?_
              refine z_zret (b := true) C dX8_readPlain_94 (3, w, u2) ?_ ?_ ?_ (by decide) (by decide)
              · have hpw : pws (inC bt cl) (8 * cl) (hasMk kd (se 0)) rv q2 = 3 := (by rw [pws, if_neg (by omega), if_neg (fun z => by rw [cm] at z; exact absurd z.2 (by decide))])
                rw [i4, hpw]; rfl
              · have hpw : pws (inC bt cl) (8 * cl) (hasMk kd (se 0)) rv q2 = 3 := (by rw [pws, if_neg (by omega), if_neg (fun z => by rw [cm] at z; exact absurd z.2 (by decide))])
                rw [i4, hpw]; exact ⟨hR, fun _ => rfl⟩
              · rw [i4]
            · refine z_aload_n C dX8_readPlain_41 1 rfl ?_
              refine z_get C hinX8 (ci := 10) rfl 0 rfl 21 (by decide) k2 rfl (v := vI (b2i u2)) rfl dX8_readPlain_42 ?_
              refine z_ifnz C (tgt := 52) dX8_readPlain_45 (by decide) (fun ch => ?_) (fun ch => ?_)
              · have hu9 := (hu2).1
                refine z_iconst C (z := 0) dX8_readPlain_52 ?_
                refine z_istore C (lv' := [(5, vI 0), (4, vI nv), (0, .ref (b 0)), (1, vI r), (2, vI x), (3, vI (b2i d))]) dX8_readPlain_53 (by decide) rfl ?_
                refine z_aload_n C dX8_readPlain_55 2 rfl ?_
                refine z_iload C dX8_readPlain_56 0 rfl ?_
                refine z_if_eq C (by decide) (tgt := 72) dX8_readPlain_58 (by decide) (fun hc_9 => ?_) (fun hc_9 => ?_)
                rotate_left; · exact absurd hc_9 (by decide)
                refine z_iconst C (z := 3) dX8_readPlain_72 ?_
                refine z_put C hinX8 tyX8 tyX8_ok nmX8 (ci := 10) rfl 0 rfl 15 (by decide) k1 rfl rfl rfl rfl (Nat.le_of_ble_eq_true rfl) dX8_readPlain_73 (ws' := MW cy b kd co th rw cl wr q2 dm 3 aa dk fi bb cz u2 se w sa bt oz) rfl ?_
                refine z_iload C dX8_readPlain_76 0 rfl ?_
                refine z_if_eq C (by decide) (tgt := 89) dX8_readPlain_78 (by decide) (fun hc_10 => ?_) (fun hc_10 => ?_)
                rotate_left; · exact absurd hc_10 (by decide)
                refine z_iconst C (z := 1) dX8_readPlain_89 ?_
                refine z_goto C (tgt := 94) dX8_readPlain_90 (by decide) ?_
                refine z_zret (b := true) C dX8_readPlain_94 (3, w, u2) ?_ ?_ ?_ (by decide) (by decide)
                · have hpw : pws (inC bt cl) (8 * cl) (hasMk kd (se 0)) rv q2 = 3 := (by rw [pws, if_neg (by omega), if_neg (fun z => by rw [hu9 z.1] at ch; cases ch)])
                  rw [i4, hpw]; rfl
                · have hpw : pws (inC bt cl) (8 * cl) (hasMk kd (se 0)) rv q2 = 3 := (by rw [pws, if_neg (by omega), if_neg (fun z => by rw [hu9 z.1] at ch; cases ch)])
                  rw [i4, hpw]; exact ⟨hR, fun _ => rfl⟩
                · rw [i4]
              · have h22 : rv = -2 := by
                  rcases (by omega : rv = -2 ∨ rv = -3) with z | z
                  · exact z
                  · rw [(hu2).2 z] at ch; cases ch
                clear hrv1
                refine z_iconst C (z := 1) dX8_readPlain_48 ?_
                refine z_goto C (tgt := 53) dX8_readPlain_49 (by decide) ?_
                refine z_istore C (lv' := [(5, vI 1), (4, vI nv), (0, .ref (b 0)), (1, vI r), (2, vI x), (3, vI (b2i d))]) dX8_readPlain_53 (by decide) rfl ?_
                refine z_aload_n C dX8_readPlain_55 2 rfl ?_
                refine z_iload C dX8_readPlain_56 0 rfl ?_
                refine z_if_eq C (by decide) (tgt := 72) dX8_readPlain_58 (by decide) (fun hc_11 => ?_) (fun hc_11 => ?_)
                · exact absurd hc_11 (by decide)
                refine z_aload_n C dX8_readPlain_61 2 rfl ?_
                refine z_callV C (As := []) (st := [.ref (b 0)]) (c_X8_isMarkHere l D cy tw b kd co th rw cl wr q2 dm sv aa dk fi bb cz u2 se w sa bt oz   (by omega) (hbt) (by omega)) gX8_readPlain_X8_isMarkHere kn_X8_isMarkHere rfl ⟨rfl, rfl, Nat.le_of_ble_eq_true rfl, Nat.le_of_ble_eq_true rfl⟩ 0 rfl (ci := 10) rfl rfl (Nat.le_of_ble_eq_true rfl) ⟨Nat.le_of_ble_eq_true rfl, Nat.le_of_ble_eq_true rfl⟩ dX8_readPlain_62 (fun u12 hu12 => ?_)
                clear hu12; clear u12
                show V 0 0 (MW cy b kd co th rw cl wr q2 dm sv aa dk fi bb cz u2 se w sa bt oz) [(5, vI 1), (4, vI nv), (0, .ref (b 0)), (1, vI r), (2, vI x), (3, vI (b2i d))] [vI (b2i (isMk (inC bt cl) (8 * cl) q2)), .ref (b 0)] 65
                refine z_ifz C (tgt := 72) dX8_readPlain_65 (by decide) (fun ci => ?_) (fun ci => ?_)
                · refine z_iconst C (z := 3) dX8_readPlain_72 ?_
                  refine z_put C hinX8 tyX8 tyX8_ok nmX8 (ci := 10) rfl 0 rfl 15 (by decide) k1 rfl rfl rfl rfl (Nat.le_of_ble_eq_true rfl) dX8_readPlain_73 (ws' := MW cy b kd co th rw cl wr q2 dm 3 aa dk fi bb cz u2 se w sa bt oz) rfl ?_
                  refine z_iload C dX8_readPlain_76 0 rfl ?_
                  refine z_if_eq C (by decide) (tgt := 89) dX8_readPlain_78 (by decide) (fun hc_13 => ?_) (fun hc_13 => ?_)
                  · exact absurd hc_13 (by decide)
                  refine z_aload_n C dX8_readPlain_81 2 rfl ?_
                  refine z_callV C (As := []) (st := []) (c_X8_zeros l D cy tw b kd co th rw cl wr q2 dm 3 aa dk fi bb cz u2 se w sa bt oz   (by omega) (hbt) (by omega)) gX8_readPlain_X8_zeros kn_X8_zeros rfl ⟨rfl, rfl, Nat.le_of_ble_eq_true rfl, Nat.le_of_ble_eq_true rfl⟩ 0 rfl (ci := 10) rfl rfl (Nat.le_of_ble_eq_true rfl) ⟨Nat.le_of_ble_eq_true rfl, Nat.le_of_ble_eq_true rfl⟩ dX8_readPlain_82 (fun u14 hu14 => ?_)
                  clear hu14; clear u14
                  show V 0 0 (MW cy b kd co th rw cl wr q2 dm 3 aa dk fi bb cz u2 se w sa bt oz) [(5, vI 1), (4, vI nv), (0, .ref (b 0)), (1, vI r), (2, vI x), (3, vI (b2i d))] [vI (zr (inC bt cl) (8 * cl) q2)] 85
                  have hz := zer_rg (inC bt cl) (8 * cl) q2 (by omega)
                  refine z_iconst C (z := (-1)) dX8_readPlain_85 ?_
                  have hzr : (zer (inC bt cl) (8 * cl) q2 < 8 * cl - q2 ∧ zr (inC bt cl) (8 * cl) q2 = zer (inC bt cl) (8 * cl) q2) ∨ (¬ zer (inC bt cl) (8 * cl) q2 < 8 * cl - q2 ∧ zr (inC bt cl) (8 * cl) q2 = -1) := by
                    unfold zr; by_cases z : zer (inC bt cl) (8 * cl) q2 < 8 * cl - q2
                    · rw [if_pos z]; exact Or.inl ⟨z, rfl⟩
                    · rw [if_neg z]; exact Or.inr ⟨z, rfl⟩
                  refine z_icmp_eq C (by omega) (by omega) (tgt := 93) dX8_readPlain_86 (by decide) (fun hc_15 => ?_) (fun hc_15 => ?_)
                  · refine z_iconst C (z := 0) dX8_readPlain_93 ?_
                    refine z_zret (b := false) C dX8_readPlain_94 (3, w, u2) ?_ ?_ ?_ (by decide) (by decide)
                    · have hpw : pws (inC bt cl) (8 * cl) (hasMk kd (se 0)) rv q2 = -1 := (by rw [pws, if_neg (by omega), if_pos ⟨h22, cm⟩, ci, if_neg (by decide), if_pos (by omega)])
                      rw [i4, hpw]; rfl
                    · have hpw : pws (inC bt cl) (8 * cl) (hasMk kd (se 0)) rv q2 = -1 := (by rw [pws, if_neg (by omega), if_pos ⟨h22, cm⟩, ci, if_neg (by decide), if_pos (by omega)])
                      rw [i4, hpw]; exact ⟨hR, fun z => absurd rfl z⟩
                    · rw [i4]
                  · refine z_iconst C (z := 1) dX8_readPlain_89 ?_
                    refine z_goto C (tgt := 94) dX8_readPlain_90 (by decide) ?_
                    refine z_zret (b := true) C dX8_readPlain_94 (3, w, u2) ?_ ?_ ?_ (by decide) (by decide)
                    · have hpw : pws (inC bt cl) (8 * cl) (hasMk kd (se 0)) rv q2 = 3 := (by rw [pws, if_neg (by omega), if_pos ⟨h22, cm⟩, ci, if_neg (by decide), if_neg (by omega)])
                      rw [i4, hpw]; rfl
                    · have hpw : pws (inC bt cl) (8 * cl) (hasMk kd (se 0)) rv q2 = 3 := (by rw [pws, if_neg (by omega), if_pos ⟨h22, cm⟩, ci, if_neg (by decide), if_neg (by omega)])
                      rw [i4, hpw]; exact ⟨hR, fun z => rfl⟩
                    · rw [i4]
                · have hmk := of_decide_eq_true ci
                  refine z_iconst C (z := 2) dX8_readPlain_68 ?_
                  refine z_goto C (tgt := 73) dX8_readPlain_69 (by decide) ?_
                  refine z_put C hinX8 tyX8 tyX8_ok nmX8 (ci := 10) rfl 0 rfl 15 (by decide) k1 rfl rfl rfl rfl (Nat.le_of_ble_eq_true rfl) dX8_readPlain_73 (ws' := MW cy b kd co th rw cl wr q2 dm 2 aa dk fi bb cz u2 se w sa bt oz) rfl ?_
                  refine z_iload C dX8_readPlain_76 0 rfl ?_
                  refine z_if_eq C (by decide) (tgt := 89) dX8_readPlain_78 (by decide) (fun hc_16 => ?_) (fun hc_16 => ?_)
                  · exact absurd hc_16 (by decide)
                  refine z_aload_n C dX8_readPlain_81 2 rfl ?_
                  refine z_callV C (As := []) (st := []) (c_X8_zeros l D cy tw b kd co th rw cl wr q2 dm 2 aa dk fi bb cz u2 se w sa bt oz   (by omega) (hbt) (by omega)) gX8_readPlain_X8_zeros kn_X8_zeros rfl ⟨rfl, rfl, Nat.le_of_ble_eq_true rfl, Nat.le_of_ble_eq_true rfl⟩ 0 rfl (ci := 10) rfl rfl (Nat.le_of_ble_eq_true rfl) ⟨Nat.le_of_ble_eq_true rfl, Nat.le_of_ble_eq_true rfl⟩ dX8_readPlain_82 (fun u17 hu17 => ?_)
                  clear hu17; clear u17
                  show V 0 0 (MW cy b kd co th rw cl wr q2 dm 2 aa dk fi bb cz u2 se w sa bt oz) [(5, vI 1), (4, vI nv), (0, .ref (b 0)), (1, vI r), (2, vI x), (3, vI (b2i d))] [vI (zr (inC bt cl) (8 * cl) q2)] 85
                  have hz := zer_rg (inC bt cl) (8 * cl) q2 (by omega)
                  refine z_iconst C (z := (-1)) dX8_readPlain_85 ?_
                  have hzr : (zer (inC bt cl) (8 * cl) q2 < 8 * cl - q2 ∧ zr (inC bt cl) (8 * cl) q2 = zer (inC bt cl) (8 * cl) q2) ∨ (¬ zer (inC bt cl) (8 * cl) q2 < 8 * cl - q2 ∧ zr (inC bt cl) (8 * cl) q2 = -1) := by
                    unfold zr; by_cases z : zer (inC bt cl) (8 * cl) q2 < 8 * cl - q2
                    · rw [if_pos z]; exact Or.inl ⟨z, rfl⟩
                    · rw [if_neg z]; exact Or.inr ⟨z, rfl⟩
                  refine z_icmp_eq C (by omega) (by omega) (tgt := 93) dX8_readPlain_86 (by decide) (fun hc_18 => ?_) (fun hc_18 => ?_)
                  · exfalso; omega
                  · refine z_iconst C (z := 1) dX8_readPlain_89 ?_
                    refine z_goto C (tgt := 94) dX8_readPlain_90 (by decide) ?_
                    refine z_zret (b := true) C dX8_readPlain_94 (2, w, u2) ?_ ?_ ?_ (by decide) (by decide)
                    · have hpw : pws (inC bt cl) (8 * cl) (hasMk kd (se 0)) rv q2 = 2 := (by rw [pws, if_neg (by omega), if_pos ⟨h22, cm⟩, ci, if_pos rfl])
                      rw [i4, hpw]; rfl
                    · have hpw : pws (inC bt cl) (8 * cl) (hasMk kd (se 0)) rv q2 = 2 := (by rw [pws, if_neg (by omega), if_pos ⟨h22, cm⟩, ci, if_pos rfl])
                      rw [i4, hpw]; exact ⟨hR, fun z => rfl⟩
                    · rw [i4]
        · have hrv1 : rv = -1 := by omega
          clear hrv
          have i4 : rdPl (inC bt cl) (8 * cl) co (hasMk kd (se 0)) 3201 po 0 false false g = (pws (inC bt cl) (8 * cl) (hasMk kd (se 0)) rv q2, q2, gg) := by
            rw [i2, show (3201 - k).toNat = (3201 - (k + 1)).toNat + 1 by omega, rdPl, if_pos (by omega), ← erv, ← eq2, if_pos (by omega)]
          refine z_iconst C (z := 0) dX8_readPlain_26 ?_
          refine z_zret (b := false) C dX8_readPlain_27 (sv, w, u2) ?_ ?_ ?_ (by decide) (by decide)
          · rw [i4, show pws (inC bt cl) (8 * cl) (hasMk kd (se 0)) rv q2 = -1 from by rw [pws, if_pos (by omega)]]; rfl
          · rw [i4]; exact ⟨hR, fun z => absurd (by rw [pws, if_pos (by omega)]) z⟩
          · rw [i4]
  refine z_lsub C [2, 3, 1, 0] rfl ?_
  exact J4 _ 0 false po false da g hm 0 0 (by omega) (by omega) (rfl) (hg) (rfl) (Nat.lt_succ_self _)
