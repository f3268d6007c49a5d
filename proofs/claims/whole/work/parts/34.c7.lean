theorem kn_X3_readDrawn : zKn yX3_readDrawn wsX3_readDrawn cX3_readDrawn 8 (some .int) 1 := ⟨⟨_, rfl⟩, by decide +kernel, by decide +kernel, by decide +kernel⟩
set_option maxHeartbeats 4000000 in
set_option maxRecDepth 100000 in
theorem c_X3_readDrawn (l : Launch) (D : va_G) (cy : Nat → ClassId) (tw : Nat → Nat) (a : Nat → Nat) (kd : Int) (co : Int) (mk : Bool) (al : Bool) (dz : Bool) (rd : Bool) (rw : Int) (wo : Nat → BitVec 64) (sa : Nat → Int) (sz : Int) (ps : Int) (bt : Nat → Int) (ou : Nat → BitVec 64) (bi : Int) (dm : Int) (pl : Bool) (re : Int) (cu : Bool) (r : Int) (g : Int → Bool) (hco : 1 ≤ co ∧ co ≤ 700) (hk : 0 ≤ kd ∧ kd ≤ 2) (h0 : 0 ≤ sz ∧ sz ≤ 400) (h1 : 0 ≤ ps ∧ ps ≤ 8 * sz) (hr : 0 ≤ r ∧ r < 24) (hx : 0 ≤ re ∧ re ≤ co) (hg : RowRel wo wo co r g) : zMet l yX3_readDrawn wsX3_readDrawn { frames := 4, cells := 0, slots := 0, locals := 103 } D (zT cy) tw (CW cy a kd co mk al dz rd rw wo sa sz ps bt ou bi dm pl re cu) [.ref (a 8), vI r] 0 0 (S := (Nat → BitVec 64) × Int × Bool) (fun _ => some (vI (rdDr (inC bt sz) (8 * sz) co (px wo co (r - 1)) 3201 ps re false true cu g).1)) (fun u => CW cy a kd co mk al dz rd rw u.1 sa sz ((rdDr (inC bt sz) (8 * sz) co (px wo co (r - 1)) 3201 ps re false true cu g).2.1) bt ou bi dm pl u.2.1 u.2.2) (fun u => RowRel wo u.1 co r (rdDr (inC bt sz) (8 * sz) co (px wo co (r - 1)) 3201 ps re false true cu g).2.2) := by
  refine z_met (cc := cX3_readDrawn) (nL := 8) (ret := some .int) (by decide +kernel) rfl (Nat.le_of_ble_eq_true rfl) (lv := [(0, .ref (a 8)), (1, vI r)]) rfl ?_
  intro V p_ e_ s_ m_ args_ below_ meth_ c_ A_ C hmn
  have hinX2 : ∀ w ∈ u_ws RX2 TX2 5, w ∈ wsX3_readDrawn := by decide +kernel
  have hinX3 : ∀ w ∈ u_ws RX3 TX3 9, w ∈ wsX3_readDrawn := by decide +kernel
  have k0 : Cond.fieldLink RX3 84 "FaxFilter$Receiver" "reached" "I" ∈ wsX3_readDrawn := List.mem_of_getElem? (i := 1) rfl
  have k1 : Cond.fieldLink RX3 15 "FaxFilter$Receiver" "picture" "LFaxFilter$Picture;" ∈ wsX3_readDrawn := List.mem_of_getElem? (i := 2) rfl
  have k2 : Cond.fieldLink RX3 105 "FaxFilter$Picture" "columns" "I" ∈ wsX3_readDrawn := List.mem_of_getElem? (i := 3) rfl
  have k3 : Cond.fieldLink RX3 87 "FaxFilter$Receiver" "isCut" "Z" ∈ wsX3_readDrawn := List.mem_of_getElem? (i := 4) rfl
  refine z_iconst C (z := 0) dX3_readDrawn_0 ?_
  refine z_istore_n C (lv' := [(2, vI 0), (0, .ref (a 8)), (1, vI r)]) dX3_readDrawn_1 rfl (by decide) rfl ?_
  refine z_iconst C (z := 0) dX3_readDrawn_2 ?_
  refine z_istore_n C (lv' := [(3, vI 0), (2, vI 0), (0, .ref (a 8)), (1, vI r)]) dX3_readDrawn_3 rfl (by decide) rfl ?_
  have J4 : ∀ (f : Nat) (d : Bool) (k : Int) (p : Int) (x : Int) (ct : Bool) (w : Nat → BitVec 64) (gg : Int → Bool) (fi : Bool), (0 ≤ k ∧ k ≤ p) → (0 ≤ p ∧ p ≤ 8 * sz) → (0 ≤ x ∧ x ≤ co) → (fi = decide (k = 0)) → (RowRel wo w co r gg) → (rdDr (inC bt sz) (8 * sz) co (px wo co (r - 1)) 3201 ps re false true cu g = rdDr (inC bt sz) (8 * sz) co (px wo co (r - 1)) (3201 - k).toNat p x d fi ct gg) → (3201 - k).toNat < f → V 0 0 (CW cy a kd co mk al dz rd rw w sa sz p bt ou bi dm pl x ct) [(0, .ref (a 8)), (1, vI r), (2, vI (b2i d)), (3, vI k)] [] 4 := by
    intro f
    induction f with
    | zero => intro d k p x ct w gg fi i0 i1 i3 hfi hR i2 hf; exact absurd hf (Nat.not_lt_zero _)
    | succ f ih =>
      intro d k p x ct w gg fi i0 i1 i3 hfi hR i2 hf
      refine z_aload_n C dX3_readDrawn_4 0 rfl ?_
      refine z_get C hinX3 (ci := 5) rfl 8 rfl 7 (by decide) k0 rfl (v := vI x) rfl dX3_readDrawn_5 ?_
      refine z_aload_n C dX3_readDrawn_8 0 rfl ?_
      refine z_get C hinX3 (ci := 5) rfl 8 rfl 2 (by decide) k1 rfl (v := .ref (a 2)) rfl dX3_readDrawn_9 ?_
      refine z_get C hinX2 (ci := 4) rfl 2 rfl 0 (by decide) k2 rfl (v := vI co) rfl dX3_readDrawn_12 ?_
      refine z_icmp_ge C (by omega) (by omega) (tgt := 199) dX3_readDrawn_15 (by decide) (fun hc_1 => ?_) (fun hc_1 => ?_)
      · have i5 : rdDr (inC bt sz) (8 * sz) co (px wo co (r - 1)) 3201 ps re false true cu g = (b2i ct, p, gg) := by
          rw [i2, rdDr_ge _ (by omega)]
        refine z_aload_n C dX3_readDrawn_199 0 rfl ?_
        refine z_get C hinX3 (ci := 5) rfl 8 rfl 8 (by decide) k3 rfl (v := vI (b2i ct)) rfl dX3_readDrawn_200 ?_
        refine z_ifz C (tgt := 210) dX3_readDrawn_203 (by decide) (fun cc => ?_) (fun cc => ?_)
        · refine z_iconst C (z := 0) dX3_readDrawn_210 ?_
          refine z_iret (x := 0) C dX3_readDrawn_211 (w, x, ct) ?_ ?_ ?_ (by decide) (by decide)
          · rw [i5, cc]; rfl
          · show RowRel wo w co r _
            rw [i5]; exact hR
          · rw [i5]
        · refine z_iconst C (z := 1) dX3_readDrawn_206 ?_
          refine z_goto C (tgt := 211) dX3_readDrawn_207 (by decide) ?_
          refine z_iret (x := 1) C dX3_readDrawn_211 (w, x, ct) ?_ ?_ ?_ (by decide) (by decide)
          · rw [i5, cc]; rfl
          · show RowRel wo w co r _
            rw [i5]; exact hR
          · rw [i5]
      · refine z_iload_n C dX3_readDrawn_18 3 rfl ?_
        refine z_sipush C (z := 3200) dX3_readDrawn_19 (by decide) ?_
        refine z_icmp_gt C (by omega) (by decide) (tgt := 199) dX3_readDrawn_22 (by decide) (fun hc_2 => ?_) (fun hc_2 => ?_)
        · have i5 : rdDr (inC bt sz) (8 * sz) co (px wo co (r - 1)) 3201 ps re false true cu g = (b2i ct, p, gg) := by
            rw [i2, show (3201 - k).toNat = 0 by omega, rdDr]
          refine z_aload_n C dX3_readDrawn_199 0 rfl ?_
          refine z_get C hinX3 (ci := 5) rfl 8 rfl 8 (by decide) k3 rfl (v := vI (b2i ct)) rfl dX3_readDrawn_200 ?_
          refine z_ifz C (tgt := 210) dX3_readDrawn_203 (by decide) (fun cc => ?_) (fun cc => ?_)
          · refine z_iconst C (z := 0) dX3_readDrawn_210 ?_
            refine z_iret (x := 0) C dX3_readDrawn_211 (w, x, ct) ?_ ?_ ?_ (by decide) (by decide)
            · rw [i5, cc]; rfl
            · show RowRel wo w co r _
              rw [i5]; exact hR
            · rw [i5]
          · refine z_iconst C (z := 1) dX3_readDrawn_206 ?_
            refine z_goto C (tgt := 211) dX3_readDrawn_207 (by decide) ?_
            refine z_iret (x := 1) C dX3_readDrawn_211 (w, x, ct) ?_ ?_ ?_ (by decide) (by decide)
            · rw [i5, cc]; rfl
            · show RowRel wo w co r _
              rw [i5]; exact hR
            · rw [i5]
        · refine z_aload_n C dX3_readDrawn_25 0 rfl ?_
          refine z_callV C (As := []) (st := []) (c_X3_readWay l D cy tw a kd co mk al dz rd rw w sa sz p bt ou bi dm pl x ct   (by omega) (by omega)) gX3_readDrawn_X3_readWay kn_X3_readWay rfl ⟨rfl, rfl, Nat.le_of_ble_eq_true rfl, Nat.le_of_ble_eq_true rfl⟩ 8 rfl (ci := 5) rfl rfl (Nat.le_of_ble_eq_true rfl) ⟨Nat.le_of_ble_eq_true rfl, Nat.le_of_ble_eq_true rfl⟩ dX3_readDrawn_26 (fun u3 hu3 => ?_)
          clear hu3; clear u3
          show V 0 0 (CW cy a kd co mk al dz rd rw w sa sz ((rdWay (inC bt sz) (8 * sz) p 9).2) bt ou bi dm pl x ct) [(0, .ref (a 8)), (1, vI r), (2, vI (b2i d)), (3, vI k)] [vI ((rdWay (inC bt sz) (8 * sz) p 9).1)] 29
          obtain ⟨p2, ep2⟩ : ∃ z, z = ((rdWay (inC bt sz) (8 * sz) p 9).2) := ⟨_, rfl⟩
          rw [← ep2]
          refine z_nmI (fun vw evw => ?_)
          refine z_istore C (lv' := [(4, vI vw), (0, .ref (a 8)), (1, vI r), (2, vI (b2i d)), (3, vI k)]) dX3_readDrawn_29 (by decide) rfl ?_
          have hwr := rdWay_rg (inC bt sz) (8 * sz) p (by omega) 9 (by omega)
          rw [← evw, ← ep2] at hwr
          refine z_iload C dX3_readDrawn_31 0 rfl ?_
          refine z_bipush C (z := 8) dX3_readDrawn_33 (by decide) ?_
          refine z_icmp_ne C (by omega) (by decide) (tgt := 47) dX3_readDrawn_35 (by decide) (fun hc_4 => ?_) (fun hc_4 => ?_)
          · refine z_iload C dX3_readDrawn_47 0 rfl ?_
            refine z_istore C (lv' := [(5, vI vw), (4, vI vw), (0, .ref (a 8)), (1, vI r), (2, vI (b2i d)), (3, vI k)]) dX3_readDrawn_49 (by decide) rfl ?_
            refine z_iload C dX3_readDrawn_51 0 rfl ?_
            refine z_if_ge C (by omega) (tgt := 68) dX3_readDrawn_53 (by decide) (fun hc_5 => ?_) (fun hc_5 => ?_)
            · have hab : px w co (r - 1) = px wo co (r - 1) := funext (fun j => hR.2 _ j (by omega))
              refine z_iload C dX3_readDrawn_68 1 rfl ?_
              refine z_bipush C (z := 8) dX3_readDrawn_70 (by decide) ?_
              refine z_icmp_eq C (by omega) (by decide) (tgt := 193) dX3_readDrawn_72 (by decide) (fun hc_6 => ?_) (fun hc_6 => ?_)
              · exfalso; omega
              · refine z_aload_n C dX3_readDrawn_75 2 rfl ?_
                have J99 : ∀ (y : Int), (y = if fi then x else x + 1) → V 0 0 (CW cy a kd co mk al dz rd rw w sa sz p2 bt ou bi dm pl x ct) [(0, .ref (a 8)), (1, vI r), (2, vI (b2i d)), (3, vI k), (4, vI vw), (5, vI vw)] [vI y, vI (r - 1), .ref (a 2)] 99 := by
                  intro y iy
                  have hy : x ≤ y ∧ y ≤ x + 1 := by rw [iy]; split <;> omega
                  refine z_iload_n C dX3_readDrawn_99 2 rfl ?_
                  refine z_not C dX3_readDrawn_100 dX3_readDrawn_103 dX3_readDrawn_104 dX3_readDrawn_107 ?_
                  refine z_callV C (As := [vI (r - 1), vI y, vI (b2i (!d))]) (st := []) (c_X2_changeTo l D cy tw a kd co mk al dz rd rw w sa sz p2 bt ou bi dm pl x ct (r - 1) y (!d)  (by omega) (by omega) (by omega)) gX3_readDrawn_X2_changeTo kn_X2_changeTo rfl ⟨rfl, rfl, Nat.le_of_ble_eq_true rfl, Nat.le_of_ble_eq_true rfl⟩ 2 rfl (ci := 4) rfl rfl (Nat.le_of_ble_eq_true rfl) ⟨Nat.le_of_ble_eq_true rfl, Nat.le_of_ble_eq_true rfl⟩ dX3_readDrawn_108 (fun u7 hu7 => ?_)
                  clear hu7; clear u7
                  show V 0 0 (CW cy a kd co mk al dz rd rw w sa sz p2 bt ou bi dm pl x ct) [(0, .ref (a 8)), (1, vI r), (2, vI (b2i d)), (3, vI k), (4, vI vw), (5, vI vw)] [vI (chC (px w co (r - 1)) co y (!d))] 111
                  refine z_nmI (fun vb evb => ?_)
                  refine z_istore C (lv' := [(6, vI vb), (0, .ref (a 8)), (1, vI r), (2, vI (b2i d)), (3, vI k), (4, vI vw), (5, vI vw)]) dX3_readDrawn_111 (by decide) rfl ?_
                  rw [hab] at evb
                  have hvb := chC_rg (px wo co (r - 1)) (N := co) (x := y) (!d) (by omega) (by omega)
                  rw [← evb] at hvb
                  refine z_iload C dX3_readDrawn_113 5 rfl ?_
                  refine z_bipush C (z := 7) dX3_readDrawn_115 (by decide) ?_
                  refine z_icmp_ne C (by omega) (by decide) (tgt := 142) dX3_readDrawn_117 (by decide) (fun hc_8 => ?_) (fun hc_8 => ?_)
                  · refine z_iload C dX3_readDrawn_142 0 rfl ?_
                    refine z_iload C dX3_readDrawn_144 5 rfl ?_
                    refine z_iadd C dX3_readDrawn_146 ?_
                    refine z_iconst C (z := 3) dX3_readDrawn_147 ?_
                    refine z_isub C dX3_readDrawn_148 ?_
                    refine z_istore C (lv' := [(7, vI ((vb + vw) - 3)), (6, vI vb), (0, .ref (a 8)), (1, vI r), (2, vI (b2i d)), (3, vI k), (4, vI vw), (5, vI vw)]) dX3_readDrawn_149 (by decide) rfl ?_
                    refine z_iload C dX3_readDrawn_151 0 rfl ?_
                    refine z_aload_n C dX3_readDrawn_153 2 rfl ?_
                    refine z_get C hinX3 (ci := 5) rfl 8 rfl 7 (by decide) k0 rfl (v := vI x) rfl dX3_readDrawn_154 ?_
                    refine z_icmp_lt C (by omega) (by omega) (tgt := 173) dX3_readDrawn_157 (by decide) (fun hc_9 => ?_) (fun hc_9 => ?_)
                    · have i5 : rdDr (inC bt sz) (8 * sz) co (px wo co (r - 1)) 3201 ps re false true cu g = (3, p2, gg) := by
                        rw [i2, show (3201 - k).toNat = (3201 - (k + 1)).toNat + 1 by omega, rdDr, if_pos (by omega), ← evw, ← ep2, if_neg (by omega), if_neg (by omega), ← iy, ← evb, if_neg (by omega), if_pos (by rw [hfi]; exact Or.inl (by omega))]
                      refine z_iconst C (z := 3) dX3_readDrawn_173 ?_
                      refine z_iret (x := 3) C dX3_readDrawn_174 (w, x, ct) ?_ ?_ ?_ (by decide) (by decide)
                      · rw [i5]
                      · show RowRel wo w co r _
                        rw [i5]; exact hR
                      · rw [i5]
                    · refine z_iload C dX3_readDrawn_160 0 rfl ?_
                      refine z_aload_n C dX3_readDrawn_162 2 rfl ?_
                      refine z_get C hinX3 (ci := 5) rfl 8 rfl 7 (by decide) k0 rfl (v := vI x) rfl dX3_readDrawn_163 ?_
                      refine z_icmp_ne C (by omega) (by omega) (tgt := 175) dX3_readDrawn_166 (by decide) (fun hc_10 => ?_) (fun hc_10 => ?_)
                      · have i5 : rdDr (inC bt sz) (8 * sz) co (px wo co (r - 1)) 3201 ps re false true cu g = rdDr (inC bt sz) (8 * sz) co (px wo co (r - 1)) (3201 - (k + 1)).toNat p2 (mn (vb + vw - 3) co) (!d) false (decide (co < vb + vw - 3) || ct) (ptg gg x (mn (vb + vw - 3) co) d) := by
                          rw [i2, show (3201 - k).toNat = (3201 - (k + 1)).toNat + 1 by omega, rdDr, if_pos (by omega), ← evw, ← ep2, if_neg (by omega), if_neg (by omega), ← iy, ← evb, if_neg (by omega), if_neg (by rw [hfi]; intro z; omega)]
                        have hm := mn_rg (a := vb + vw - 3) (b := co) (x := 0) (by omega) (by omega)
                        refine z_aload_n C dX3_readDrawn_175 2 rfl ?_
                        refine z_iload_n C dX3_readDrawn_176 3 rfl ?_
                        refine z_iload C dX3_readDrawn_177 0 rfl ?_
                        refine z_iload_n C dX3_readDrawn_179 4 rfl ?_
                        refine z_callV C (As := [vI r, vI ((vb + vw) - 3), vI (b2i d)]) (st := []) (c_X3_layTo l D cy tw a kd co mk al dz rd rw w sa sz p2 bt ou bi dm pl x ct r ((vb + vw) - 3) d  (by omega) (by omega) (by omega) (by omega)) gX3_readDrawn_X3_layTo kn_X3_layTo rfl ⟨rfl, rfl, Nat.le_of_ble_eq_true rfl, Nat.le_of_ble_eq_true rfl⟩ 8 rfl (ci := 5) rfl rfl (Nat.le_of_ble_eq_true rfl) ⟨Nat.le_of_ble_eq_true rfl, Nat.le_of_ble_eq_true rfl⟩ dX3_readDrawn_180 (fun u11 hu11 => ?_)
                        clear hu11; clear u11
                        show V 0 0 (CW cy a kd co mk al dz rd rw (pnC w co r x (mn ((vb + vw) - 3) co) d) sa sz p2 bt ou bi dm pl (mn ((vb + vw) - 3) co) (decide (co < ((vb + vw) - 3)) || ct)) [(7, vI ((vb + vw) - 3)), (6, vI vb), (0, .ref (a 8)), (1, vI r), (2, vI (b2i d)), (3, vI k), (4, vI vw), (5, vI vw)] [] 183
                        refine z_iload_n C dX3_readDrawn_183 4 rfl ?_
                        refine z_not C dX3_readDrawn_184 dX3_readDrawn_187 dX3_readDrawn_188 dX3_readDrawn_191 ?_
                        refine z_istore_n C (lv' := [(2, vI (b2i (!d))), (7, vI ((vb + vw) - 3)), (6, vI vb), (0, .ref (a 8)), (1, vI r), (3, vI k), (4, vI vw), (5, vI vw)]) dX3_readDrawn_192 rfl (by decide) rfl ?_
                        refine z_iinc C (lv' := [(3, vI (k + 1)), (2, vI (b2i (!d))), (7, vI ((vb + vw) - 3)), (6, vI vb), (0, .ref (a 8)), (1, vI r), (4, vI vw), (5, vI vw)]) dX3_readDrawn_193 5 rfl (by decide) rfl ?_
                        refine z_goto C (tgt := 4) dX3_readDrawn_196 (by decide) ?_
                        refine z_lsub C [4, 5, 1, 0] rfl ?_
                        exact ih (!d) (k + 1) p2 (mn ((vb + vw) - 3) co) (decide (co < ((vb + vw) - 3)) || ct) (pnC w co r x (mn ((vb + vw) - 3) co) d) (ptg gg x (mn (vb + vw - 3) co) d) false (by omega) (by omega) (by omega) (by rw [decide_eq_false (by omega)]) (RR_pn d hr i3.1 hm.2.1 hR) (i5) (by omega)
                      · refine z_iload_n C dX3_readDrawn_169 5 rfl ?_
                        refine z_if_le C (by omega) (tgt := 175) dX3_readDrawn_170 (by decide) (fun hc_12 => ?_) (fun hc_12 => ?_)
                        · have i5 : rdDr (inC bt sz) (8 * sz) co (px wo co (r - 1)) 3201 ps re false true cu g = rdDr (inC bt sz) (8 * sz) co (px wo co (r - 1)) (3201 - (k + 1)).toNat p2 (mn (vb + vw - 3) co) (!d) false (decide (co < vb + vw - 3) || ct) (ptg gg x (mn (vb + vw - 3) co) d) := by
                            rw [i2, show (3201 - k).toNat = (3201 - (k + 1)).toNat + 1 by omega, rdDr, if_pos (by omega), ← evw, ← ep2, if_neg (by omega), if_neg (by omega), ← iy, ← evb, if_neg (by omega), if_neg (by rw [hfi]; rw [decide_eq_true (by omega)]; intro z; rcases z with z | z; (omega); exact absurd z.2 (by decide))]
                          have hm := mn_rg (a := vb + vw - 3) (b := co) (x := 0) (by omega) (by omega)
                          refine z_aload_n C dX3_readDrawn_175 2 rfl ?_
                          refine z_iload_n C dX3_readDrawn_176 3 rfl ?_
                          refine z_iload C dX3_readDrawn_177 0 rfl ?_
                          refine z_iload_n C dX3_readDrawn_179 4 rfl ?_
                          refine z_callV C (As := [vI r, vI ((vb + vw) - 3), vI (b2i d)]) (st := []) (c_X3_layTo l D cy tw a kd co mk al dz rd rw w sa sz p2 bt ou bi dm pl x ct r ((vb + vw) - 3) d  (by omega) (by omega) (by omega) (by omega)) gX3_readDrawn_X3_layTo kn_X3_layTo rfl ⟨rfl, rfl, Nat.le_of_ble_eq_true rfl, Nat.le_of_ble_eq_true rfl⟩ 8 rfl (ci := 5) rfl rfl (Nat.le_of_ble_eq_true rfl) ⟨Nat.le_of_ble_eq_true rfl, Nat.le_of_ble_eq_true rfl⟩ dX3_readDrawn_180 (fun u13 hu13 => ?_)
                          clear hu13; clear u13
                          show V 0 0 (CW cy a kd co mk al dz rd rw (pnC w co r x (mn ((vb + vw) - 3) co) d) sa sz p2 bt ou bi dm pl (mn ((vb + vw) - 3) co) (decide (co < ((vb + vw) - 3)) || ct)) [(7, vI ((vb + vw) - 3)), (6, vI vb), (0, .ref (a 8)), (1, vI r), (2, vI (b2i d)), (3, vI k), (4, vI vw), (5, vI vw)] [] 183
                          refine z_iload_n C dX3_readDrawn_183 4 rfl ?_
                          refine z_not C dX3_readDrawn_184 dX3_readDrawn_187 dX3_readDrawn_188 dX3_readDrawn_191 ?_
                          refine z_istore_n C (lv' := [(2, vI (b2i (!d))), (7, vI ((vb + vw) - 3)), (6, vI vb), (0, .ref (a 8)), (1, vI r), (3, vI k), (4, vI vw), (5, vI vw)]) dX3_readDrawn_192 rfl (by decide) rfl ?_
                          refine z_iinc C (lv' := [(3, vI (k + 1)), (2, vI (b2i (!d))), (7, vI ((vb + vw) - 3)), (6, vI vb), (0, .ref (a 8)), (1, vI r), (4, vI vw), (5, vI vw)]) dX3_readDrawn_193 5 rfl (by decide) rfl ?_
                          refine z_goto C (tgt := 4) dX3_readDrawn_196 (by decide) ?_
                          refine z_lsub C [4, 5, 1, 0] rfl ?_
                          exact ih (!d) (k + 1) p2 (mn ((vb + vw) - 3) co) (decide (co < ((vb + vw) - 3)) || ct) (pnC w co r x (mn ((vb + vw) - 3) co) d) (ptg gg x (mn (vb + vw - 3) co) d) false (by omega) (by omega) (by omega) (by rw [decide_eq_false (by omega)]) (RR_pn d hr i3.1 hm.2.1 hR) (i5) (by omega)
                        · have i5 : rdDr (inC bt sz) (8 * sz) co (px wo co (r - 1)) 3201 ps re false true cu g = (3, p2, gg) := by
                            rw [i2, show (3201 - k).toNat = (3201 - (k + 1)).toNat + 1 by omega, rdDr, if_pos (by omega), ← evw, ← ep2, if_neg (by omega), if_neg (by omega), ← iy, ← evb, if_neg (by omega), if_pos (by rw [hfi]; exact Or.inr ⟨by omega, decide_eq_false (by omega)⟩)]
                          refine z_iconst C (z := 3) dX3_readDrawn_173 ?_
                          refine z_iret (x := 3) C dX3_readDrawn_174 (w, x, ct) ?_ ?_ ?_ (by decide) (by decide)
                          · rw [i5]
                          · show RowRel wo w co r _
                            rw [i5]; exact hR
                          · rw [i5]
                  · refine z_aload_n C dX3_readDrawn_120 1 rfl ?_
                    refine z_iload_n C dX3_readDrawn_121 2 rfl ?_
                    refine z_aload_n C dX3_readDrawn_122 1 rfl ?_
                    refine z_get C hinX3 (ci := 5) rfl 8 rfl 2 (by decide) k1 rfl (v := .ref (a 2)) rfl dX3_readDrawn_123 ?_
                    refine z_iload_n C dX3_readDrawn_126 2 rfl ?_
                    refine z_iconst C (z := 1) dX3_readDrawn_127 ?_
                    refine z_isub C dX3_readDrawn_128 ?_
                    refine z_iload C dX3_readDrawn_129 0 rfl ?_
                    refine z_iload_n C dX3_readDrawn_131 3 rfl ?_
                    refine z_callV C (As := [vI (r - 1), vI vb, vI (b2i d)]) (st := [vI r, .ref (a 8)]) (c_X2_nextOf l D cy tw a kd co mk al dz rd rw w sa sz p2 bt ou bi dm pl x ct (r - 1) vb d  (by omega) (by omega) (by omega)) gX3_readDrawn_X2_nextOf kn_X2_nextOf rfl ⟨rfl, rfl, Nat.le_of_ble_eq_true rfl, Nat.le_of_ble_eq_true rfl⟩ 2 rfl (ci := 4) rfl rfl (Nat.le_of_ble_eq_true rfl) ⟨Nat.le_of_ble_eq_true rfl, Nat.le_of_ble_eq_true rfl⟩ dX3_readDrawn_132 (fun u14 hu14 => ?_)
                    clear hu14; clear u14
                    show V 0 0 (CW cy a kd co mk al dz rd rw w sa sz p2 bt ou bi dm pl x ct) [(6, vI vb), (0, .ref (a 8)), (1, vI r), (2, vI (b2i d)), (3, vI k), (4, vI vw), (5, vI vw)] [vI (nxt (px w co (r - 1)) co vb d), vI r, .ref (a 8)] 135
                    refine z_nmI (fun vc evc => ?_)
                    refine z_iload_n C dX3_readDrawn_135 3 rfl ?_
                    rw [hab] at evc
                    have hvc := nxt_rg (px wo co (r - 1)) co vb d
                    rw [← evc] at hvc
                    have hm := mn_rg (a := vc) (b := co) (x := 0) (by omega) (by omega)
                    have i5 : rdDr (inC bt sz) (8 * sz) co (px wo co (r - 1)) 3201 ps re false true cu g = rdDr (inC bt sz) (8 * sz) co (px wo co (r - 1)) (3201 - (k + 1)).toNat p2 (mn vc co) d false (decide (co < vc) || ct) (ptg gg x (mn vc co) d) := by
                      rw [i2, show (3201 - k).toNat = (3201 - (k + 1)).toNat + 1 by omega, rdDr, if_pos (by omega), ← evw, ← ep2, if_neg (by omega), if_neg (by omega), ← iy, ← evb, if_pos (by omega), ← evc]
                    refine z_callV C (As := [vI r, vI vc, vI (b2i d)]) (st := []) (c_X3_layTo l D cy tw a kd co mk al dz rd rw w sa sz p2 bt ou bi dm pl x ct r vc d  (by omega) (by omega) (by omega) (by omega)) gX3_readDrawn_X3_layTo kn_X3_layTo rfl ⟨rfl, rfl, Nat.le_of_ble_eq_true rfl, Nat.le_of_ble_eq_true rfl⟩ 8 rfl (ci := 5) rfl rfl (Nat.le_of_ble_eq_true rfl) ⟨Nat.le_of_ble_eq_true rfl, Nat.le_of_ble_eq_true rfl⟩ dX3_readDrawn_136 (fun u15 hu15 => ?_)
                    clear hu15; clear u15
                    show V 0 0 (CW cy a kd co mk al dz rd rw (pnC w co r x (mn vc co) d) sa sz p2 bt ou bi dm pl (mn vc co) (decide (co < vc) || ct)) [(6, vI vb), (0, .ref (a 8)), (1, vI r), (2, vI (b2i d)), (3, vI k), (4, vI vw), (5, vI vw)] [] 139
                    refine z_goto C (tgt := 193) dX3_readDrawn_139 (by decide) ?_
                    refine z_iinc C (lv' := [(3, vI (k + 1)), (6, vI vb), (0, .ref (a 8)), (1, vI r), (2, vI (b2i d)), (4, vI vw), (5, vI vw)]) dX3_readDrawn_193 4 rfl (by decide) rfl ?_
                    refine z_goto C (tgt := 4) dX3_readDrawn_196 (by decide) ?_
                    refine z_lsub C [2, 3, 4, 0] rfl ?_
                    exact ih d (k + 1) p2 (mn vc co) (decide (co < vc) || ct) (pnC w co r x (mn vc co) d) (ptg gg x (mn vc co) d) false (by omega) (by omega) (by omega) (by rw [decide_eq_false (by omega)]) (RR_pn d hr i3.1 hm.2.1 hR) (i5) (by omega)
                refine z_get C hinX3 (ci := 5) rfl 8 rfl 2 (by decide) k1 rfl (v := .ref (a 2)) rfl dX3_readDrawn_76 ?_
                refine z_iload_n C dX3_readDrawn_79 3 rfl ?_
                refine z_iconst C (z := 1) dX3_readDrawn_80 ?_
                refine z_isub C dX3_readDrawn_81 ?_
                refine z_iload_n C dX3_readDrawn_82 5 rfl ?_
                refine z_if_ne C (by omega) (tgt := 93) dX3_readDrawn_83 (by decide) (fun hc_16 => ?_) (fun hc_16 => ?_)
                · refine z_aload_n C dX3_readDrawn_93 2 rfl ?_
                  refine z_get C hinX3 (ci := 5) rfl 8 rfl 7 (by decide) k0 rfl (v := vI x) rfl dX3_readDrawn_94 ?_
                  refine z_iconst C (z := 1) dX3_readDrawn_97 ?_
                  refine z_iadd C dX3_readDrawn_98 ?_
                  refine z_lsub C [2, 3, 4, 5, 1, 0] rfl ?_
                  exact J99 (x + 1) (by rw [hfi, decide_eq_false (by omega)]; rfl)
                · refine z_aload_n C dX3_readDrawn_86 2 rfl ?_
                  refine z_get C hinX3 (ci := 5) rfl 8 rfl 7 (by decide) k0 rfl (v := vI x) rfl dX3_readDrawn_87 ?_
                  refine z_goto C (tgt := 99) dX3_readDrawn_90 (by decide) ?_
                  refine z_lsub C [2, 3, 4, 5, 1, 0] rfl ?_
                  exact J99 x (by rw [hfi, decide_eq_true (by omega)]; rfl)
            · have i5 : rdDr (inC bt sz) (8 * sz) co (px wo co (r - 1)) 3201 ps re false true cu g = (fz vw, p2, gg) := by
                rw [i2, show (3201 - k).toNat = (3201 - (k + 1)).toNat + 1 by omega, rdDr, if_pos (by omega), ← evw, ← ep2, if_neg (by omega), if_pos (by omega)]
              refine z_iload C dX3_readDrawn_56 0 rfl ?_
              refine z_iconst C (z := (-1)) dX3_readDrawn_58 ?_
              refine z_icmp_ne C (by omega) (by omega) (tgt := 66) dX3_readDrawn_59 (by decide) (fun hc_17 => ?_) (fun hc_17 => ?_)
              · refine z_iconst C (z := 3) dX3_readDrawn_66 ?_
                refine z_iret (x := 3) C dX3_readDrawn_67 (w, x, ct) ?_ ?_ ?_ (by decide) (by decide)
                · rw [i5]; show some (vI (fz _)) = _; rw [fz]; first | rw [if_pos (by omega)] | rw [if_neg (by omega)]
                · show RowRel wo _ co r _
                  rw [i5]; exact hR
                · rw [i5]
              · refine z_iconst C (z := (-1)) dX3_readDrawn_62 ?_
                refine z_goto C (tgt := 67) dX3_readDrawn_63 (by decide) ?_
                refine z_iret (x := (-1)) C dX3_readDrawn_67 (w, x, ct) ?_ ?_ ?_ (by decide) (by decide)
                · rw [i5]; show some (vI (fz _)) = _; rw [fz]; first | rw [if_pos (by omega)] | rw [if_neg (by omega)]
                · show RowRel wo _ co r _
                  rw [i5]; exact hR
                · rw [i5]
          · refine z_aload_n C dX3_readDrawn_38 1 rfl ?_
            refine z_iload_n C dX3_readDrawn_39 2 rfl ?_
            refine z_iload_n C dX3_readDrawn_40 3 rfl ?_
            refine z_callV C (As := [vI r, vI (b2i d)]) (st := []) (c_X3_layAcross l D cy tw a kd co mk al dz rd rw w sa sz p2 bt ou bi dm pl x ct r d  (by omega) (by omega) (by omega) (by omega) (by omega)) gX3_readDrawn_X3_layAcross kn_X3_layAcross rfl ⟨rfl, rfl, Nat.le_of_ble_eq_true rfl, Nat.le_of_ble_eq_true rfl⟩ 8 rfl (ci := 5) rfl rfl (Nat.le_of_ble_eq_true rfl) ⟨Nat.le_of_ble_eq_true rfl, Nat.le_of_ble_eq_true rfl⟩ dX3_readDrawn_41 (fun u18 hu18 => ?_)
            show V 0 0 (CW cy a kd co mk al dz rd rw u18.2.2.1 sa sz u18.2.1 bt ou bi dm pl u18.2.2.2.1 u18.2.2.2.2) [(4, vI vw), (0, .ref (a 8)), (1, vI r), (2, vI (b2i d)), (3, vI k)] [vI u18.1] 44
            refine z_goto C (tgt := 49) dX3_readDrawn_44 (by decide) ?_
            have h3u18 : -3 ≤ u18.1 ∧ u18.1 ≤ 0 := by
              have hr1 := rdRun_rg (inC bt sz) (8 * sz) d 3201 p2 0 false (by omega) (by omega)
              have hr2 := rdRun_rg (inC bt sz) (8 * sz) (!d) 3201 (rdRun (inC bt sz) (8 * sz) d 3201 p2 0 false).2 0 false (by omega) (by omega)
              rcases hu18 with ⟨q1, q2⟩ | ⟨q1, q3, q2⟩ | ⟨q1, q3, q2⟩ <;> (subst q2; simp only; omega)
            refine z_istore C (lv' := [(5, vI u18.1), (4, vI vw), (0, .ref (a 8)), (1, vI r), (2, vI (b2i d)), (3, vI k)]) dX3_readDrawn_49 (by decide) rfl ?_
            refine z_iload C dX3_readDrawn_51 0 rfl ?_
            refine z_if_ge C (by omega) (tgt := 68) dX3_readDrawn_53 (by decide) (fun hc_19 => ?_) (fun hc_19 => ?_)
            · obtain ⟨g4, i5, h5, hq1, hq2⟩ : ∃ g4, rdDr (inC bt sz) (8 * sz) co (px wo co (r - 1)) 3201 ps re false true cu g = rdDr (inC bt sz) (8 * sz) co (px wo co (r - 1)) (3201 - (k + 1)).toNat u18.2.1 u18.2.2.2.1 d false u18.2.2.2.2 g4 ∧ RowRel wo u18.2.2.1 co r g4 ∧ (p2 + 2 ≤ u18.2.1 ∧ u18.2.1 ≤ 8 * sz) ∧ (0 ≤ u18.2.2.2.1 ∧ u18.2.2.2.1 ≤ co) := by
                rcases hu18 with ⟨q1, q2⟩ | ⟨q1, q3, q2⟩ | ⟨q1, q3, q2⟩
                · subst q2; exact absurd q1 (by show ¬ (rdRun (inC bt sz) (8 * sz) d 3201 p2 0 false).1 < 0; exact Int.not_lt.mpr hc_19)
                · subst q2; exact absurd q3 (by show ¬ (rdRun (inC bt sz) (8 * sz) (!d) 3201 (rdRun (inC bt sz) (8 * sz) d 3201 p2 0 false).2 0 false).1 < 0; exact Int.not_lt.mpr hc_19)
                · have hr1 := rdRun_rg (inC bt sz) (8 * sz) d 3201 p2 0 false (by omega) (by omega)
                  have hr2 := rdRun_rg (inC bt sz) (8 * sz) (!d) 3201 (rdRun (inC bt sz) (8 * sz) d 3201 p2 0 false).2 0 false (by omega) (by omega)
                  have hm := mn_rg (a := x + (rdRun (inC bt sz) (8 * sz) d 3201 p2 0 false).1) (b := co) (x := 0) (by omega) (by omega)
                  have hm2 := mn_rg (a := mn (x + (rdRun (inC bt sz) (8 * sz) d 3201 p2 0 false).1) co + (rdRun (inC bt sz) (8 * sz) (!d) 3201 (rdRun (inC bt sz) (8 * sz) d 3201 p2 0 false).2 0 false).1) (b := co) (x := 0) (by omega) (by omega)
                  subst q2; exact ⟨_, by rw [i2, show (3201 - k).toNat = (3201 - (k + 1)).toNat + 1 by omega, rdDr, if_pos (by omega), ← evw, ← ep2, if_pos (by omega), if_neg q1, if_neg q3], RR_pn (!d) hr hm.1 hm2.2.1 (RR_pn d hr i3.1 hm.2.1 hR), ⟨by show p2 + 2 ≤ (rdRun (inC bt sz) (8 * sz) (!d) 3201 (rdRun (inC bt sz) (8 * sz) d 3201 p2 0 false).2 0 false).2; omega, hr2.1.2⟩, ⟨hm2.1, hm2.2.1⟩⟩
              refine z_iload C dX3_readDrawn_68 1 rfl ?_
              refine z_bipush C (z := 8) dX3_readDrawn_70 (by decide) ?_
              refine z_icmp_eq C (by omega) (by decide) (tgt := 193) dX3_readDrawn_72 (by decide) (fun hc_20 => ?_) (fun hc_20 => ?_)
              · refine z_iinc C (lv' := [(3, vI (k + 1)), (5, vI u18.1), (4, vI vw), (0, .ref (a 8)), (1, vI r), (2, vI (b2i d))]) dX3_readDrawn_193 5 rfl (by decide) rfl ?_
                refine z_goto C (tgt := 4) dX3_readDrawn_196 (by decide) ?_
                refine z_lsub C [3, 4, 5, 0] rfl ?_
                exact ih d (k + 1) u18.2.1 u18.2.2.2.1 u18.2.2.2.2 u18.2.2.1 g4 false (by omega) (by omega) (by omega) (by rw [decide_eq_false (by omega)]) (h5) (i5) (by omega)
              · exfalso; omega
            · obtain ⟨g4, i5, h5⟩ : ∃ g4, rdDr (inC bt sz) (8 * sz) co (px wo co (r - 1)) 3201 ps re false true cu g = (fz u18.1, u18.2.1, g4) ∧ RowRel wo u18.2.2.1 co r g4 := by
                rcases hu18 with ⟨q1, q2⟩ | ⟨q1, q3, q2⟩ | ⟨q1, q3, q2⟩
                · subst q2; exact ⟨gg, by rw [i2, show (3201 - k).toNat = (3201 - (k + 1)).toNat + 1 by omega, rdDr, if_pos (by omega), ← evw, ← ep2, if_pos (by omega), if_pos q1], hR⟩
                · have hr1 := rdRun_rg (inC bt sz) (8 * sz) d 3201 p2 0 false (by omega) (by omega)
                  have hm := mn_rg (a := x + (rdRun (inC bt sz) (8 * sz) d 3201 p2 0 false).1) (b := co) (x := 0) (by omega) (by omega)
                  subst q2; exact ⟨_, by rw [i2, show (3201 - k).toNat = (3201 - (k + 1)).toNat + 1 by omega, rdDr, if_pos (by omega), ← evw, ← ep2, if_pos (by omega), if_neg q1, if_pos q3], RR_pn d hr i3.1 hm.2.1 hR⟩
                · subst q2; exact absurd (Int.le_refl 0) hc_19
              refine z_iload C dX3_readDrawn_56 0 rfl ?_
              refine z_iconst C (z := (-1)) dX3_readDrawn_58 ?_
              refine z_icmp_ne C (by omega) (by omega) (tgt := 66) dX3_readDrawn_59 (by decide) (fun hc_21 => ?_) (fun hc_21 => ?_)
              · refine z_iconst C (z := 3) dX3_readDrawn_66 ?_
                refine z_iret (x := 3) C dX3_readDrawn_67 (u18.2.2.1, u18.2.2.2.1, u18.2.2.2.2) ?_ ?_ ?_ (by decide) (by decide)
                · rw [i5]; show some (vI (fz _)) = _; rw [fz]; first | rw [if_pos (by omega)] | rw [if_neg (by omega)]
                · show RowRel wo _ co r _
                  rw [i5]; exact h5
                · rw [i5]
              · refine z_iconst C (z := (-1)) dX3_readDrawn_62 ?_
                refine z_goto C (tgt := 67) dX3_readDrawn_63 (by decide) ?_
                refine z_iret (x := (-1)) C dX3_readDrawn_67 (u18.2.2.1, u18.2.2.2.1, u18.2.2.2.2) ?_ ?_ ?_ (by decide) (by decide)
                · rw [i5]; show some (vI (fz _)) = _; rw [fz]; first | rw [if_pos (by omega)] | rw [if_neg (by omega)]
                · show RowRel wo _ co r _
                  rw [i5]; exact h5
                · rw [i5]
  refine z_lsub C [2, 3, 1, 0] rfl ?_
  exact J4 _ false 0 ps re cu wo g true (by omega) (by omega) (by omega) (by rw [decide_eq_true rfl]) (hg) (rfl) (Nat.lt_succ_self _)
