theorem kn_X8_readDrawn : zKn yX8_readDrawn wsX8_readDrawn cX8_readDrawn 3 (some .boolean) 1 := ⟨⟨_, rfl⟩, by decide +kernel, by decide +kernel, by decide +kernel⟩
set_option maxHeartbeats 4000000 in
set_option maxRecDepth 100000 in
theorem c_X8_readDrawn (l : Launch) (D : va_G) (cy : Nat → ClassId) (tw : Nat → Nat) (b : Nat → Nat) (kd : Int) (co : Int) (th : Int) (rw : Int) (cl : Int) (wr : Int) (po : Int) (dm : Int) (aa : Int) (dk : Bool) (fi : Bool) (bb : Int) (cz : Int) (hm : Bool) (se : Nat → Bool) (da : Nat → Bool) (sa : Nat → Int) (bt : Nat → Int) (oz : Nat → Bool) (r : Int) (g : Int → Bool) (hco : 1 ≤ co ∧ co ≤ 700) (hk : 0 ≤ kd ∧ kd ≤ 2) (hr : 0 ≤ r ∧ r < 24) (hcl : 0 ≤ cl ∧ cl ≤ 400) (hbt : ∀ j : Nat, 0 ≤ bt j ∧ bt j < 256) (hpo : 0 ≤ po ∧ po ≤ 8 * cl) (hg : RM da da co r g) : zMet l yX8_readDrawn wsX8_readDrawn { frames := 5, cells := 0, slots := 0, locals := 115 } D (zT cy) tw (MW cy b kd co th rw cl wr po dm 0 aa dk fi bb cz hm se da sa bt oz) [.ref (b 0), vI r] 0 0 (S := Int × Int × Bool × Bool × Int × Int × (Nat → Bool) × Bool) (fun _ => some (vI (b2i (decide (¬ (rdDr (inC bt cl) (8 * cl) co (pd da (r - 1)) 3201 po 0 false true false g).1 = -1))))) (fun u => MW cy b kd co th rw cl wr ((rdDr (inC bt cl) (8 * cl) co (pd da (r - 1)) 3201 po 0 false true false g).2.1) dm u.1 u.2.1 u.2.2.1 u.2.2.2.1 u.2.2.2.2.1 u.2.2.2.2.2.1 u.2.2.2.2.2.2.2 se u.2.2.2.2.2.2.1 sa bt oz) (fun u => RM da u.2.2.2.2.2.2.1 co r (rdDr (inC bt cl) (8 * cl) co (pd da (r - 1)) 3201 po 0 false true false g).2.2 ∧ (¬ (rdDr (inC bt cl) (8 * cl) co (pd da (r - 1)) 3201 po 0 false true false g).1 = -1 → u.1 = (rdDr (inC bt cl) (8 * cl) co (pd da (r - 1)) 3201 po 0 false true false g).1)) := by
  refine z_met (cc := cX8_readDrawn) (nL := 3) (ret := some .boolean) (by decide +kernel) rfl (Nat.le_of_ble_eq_true rfl) (lv := [(0, .ref (b 0)), (1, vI r)]) rfl ?_
  intro V p_ e_ s_ m_ args_ below_ meth_ c_ A_ C hmn
  have hinX8 : ∀ w ∈ u_ws RX8 TX8 22, w ∈ wsX8_readDrawn := by decide +kernel
  have k0 : Cond.fieldLink RX8 121 "FaxFilterModel" "a" "I" ∈ wsX8_readDrawn := List.mem_of_getElem? (i := 1) rfl
  have k1 : Cond.fieldLink RX8 37 "FaxFilterModel" "columns" "I" ∈ wsX8_readDrawn := List.mem_of_getElem? (i := 2) rfl
  have k2 : Cond.fieldLink RX8 183 "FaxFilterModel" "state" "I" ∈ wsX8_readDrawn := List.mem_of_getElem? (i := 3) rfl
  have k3 : Cond.fieldLink RX8 124 "FaxFilterModel" "b" "I" ∈ wsX8_readDrawn := List.mem_of_getElem? (i := 6) rfl
  have k4 : Cond.fieldLink RX8 117 "FaxFilterModel" "isFirst" "Z" ∈ wsX8_readDrawn := List.mem_of_getElem? (i := 7) rfl
  have k5 : Cond.fieldLink RX8 127 "FaxFilterModel" "isDark" "Z" ∈ wsX8_readDrawn := List.mem_of_getElem? (i := 5) rfl
  have k6 : Cond.fieldLink RX8 130 "FaxFilterModel" "c" "I" ∈ wsX8_readDrawn := List.mem_of_getElem? (i := 4) rfl
  refine z_aload_n C dX8_readDrawn_0 0 rfl ?_
  refine z_callV C (As := []) (st := []) (c_X8_begin l D cy tw b kd co th rw cl wr po dm 0 aa dk fi bb cz hm se da sa bt oz   ) gX8_readDrawn_X8_begin kn_X8_begin rfl ⟨rfl, rfl, Nat.le_of_ble_eq_true rfl, Nat.le_of_ble_eq_true rfl⟩ 0 rfl (ci := 10) rfl rfl (Nat.le_of_ble_eq_true rfl) ⟨Nat.le_of_ble_eq_true rfl, Nat.le_of_ble_eq_true rfl⟩ dX8_readDrawn_1 (fun u1 hu1 => ?_)
  clear hu1; clear u1
  show V 0 0 (MW cy b kd co th rw cl wr po dm 0 0 false true bb cz hm se da sa bt oz) [(0, .ref (b 0)), (1, vI r)] [] 4
  have J4 : ∀ (f : Nat) (x : Int) (d : Bool) (fi : Bool) (w1 : Int) (w2 : Int) (q : Int) (w : Nat → Bool) (h : Bool) (sv : Int) (ct : Bool) (gg : Int → Bool) (k : Int), (0 ≤ k ∧ k ≤ q - po ∧ q ≤ 8 * cl) → (0 ≤ x ∧ x ≤ co) → (0 ≤ sv ∧ sv ≤ 3) → (RM da w co r gg) → ((sv = 3 ∧ rdDr (inC bt cl) (8 * cl) co (pd da (r - 1)) 3201 po 0 false true false g = (3, q, gg)) ∨ (sv = b2i ct ∧ rdDr (inC bt cl) (8 * cl) co (pd da (r - 1)) 3201 po 0 false true false g = rdDr (inC bt cl) (8 * cl) co (pd da (r - 1)) (3201 - k).toNat q x d fi ct gg)) → (4 * (8 * cl - q) + (3 - sv)).toNat < f → V 0 0 (MW cy b kd co th rw cl wr q dm sv x d fi w1 w2 h se w sa bt oz) [(0, .ref (b 0)), (1, vI r)] [] 4 := by
    intro f
    induction f with
    | zero => intro x d fi w1 w2 q w h sv ct gg k i0 i1 isv hR hS hf; exact absurd hf (Nat.not_lt_zero _)
    | succ f ih =>
      intro x d fi w1 w2 q w h sv ct gg k i0 i1 isv hR hS hf
      refine z_aload_n C dX8_readDrawn_4 0 rfl ?_
      refine z_get C hinX8 (ci := 10) rfl 0 rfl 16 (by decide) k0 rfl (v := vI x) rfl dX8_readDrawn_5 ?_
      refine z_aload_n C dX8_readDrawn_8 0 rfl ?_
      refine z_get C hinX8 (ci := 10) rfl 0 rfl 2 (by decide) k1 rfl (v := vI co) rfl dX8_readDrawn_9 ?_
      refine z_icmp_ge C (by omega) (by omega) (tgt := 197) dX8_readDrawn_12 (by decide) (fun hc_2 => ?_) (fun hc_2 => ?_)
      · refine z_iconst C (z := 1) dX8_readDrawn_197 ?_
        refine z_zret (b := true) C dX8_readDrawn_198 (sv, x, d, fi, w1, w2, w, h) ?_ ?_ ?_ (by decide) (by decide)
        · have i5 : ∃ y, rdDr (inC bt cl) (8 * cl) co (pd da (r - 1)) 3201 po 0 false true false g = (y, q, gg) ∧ y = sv ∧ 0 ≤ y := by
            rcases hS with ⟨z1, z2⟩ | ⟨z1, z2⟩
            · exact ⟨3, z2, z1.symm, by decide⟩
            · exact ⟨b2i ct, by rw [z2, rdDr_ge _ (by omega)], z1.symm, (b2i_01 ct).1⟩
          obtain ⟨y, i5, hy, hy0⟩ := i5
          rw [i5, decide_eq_true (by dsimp only; omega)]
        · have i5 : ∃ y, rdDr (inC bt cl) (8 * cl) co (pd da (r - 1)) 3201 po 0 false true false g = (y, q, gg) ∧ y = sv ∧ 0 ≤ y := by
            rcases hS with ⟨z1, z2⟩ | ⟨z1, z2⟩
            · exact ⟨3, z2, z1.symm, by decide⟩
            · exact ⟨b2i ct, by rw [z2, rdDr_ge _ (by omega)], z1.symm, (b2i_01 ct).1⟩
          obtain ⟨y, i5, hy, hy0⟩ := i5
          rw [i5]; exact ⟨hR, fun _ => hy.symm⟩
        · have i5 : ∃ y, rdDr (inC bt cl) (8 * cl) co (pd da (r - 1)) 3201 po 0 false true false g = (y, q, gg) ∧ y = sv ∧ 0 ≤ y := by
            rcases hS with ⟨z1, z2⟩ | ⟨z1, z2⟩
            · exact ⟨3, z2, z1.symm, by decide⟩
            · exact ⟨b2i ct, by rw [z2, rdDr_ge _ (by omega)], z1.symm, (b2i_01 ct).1⟩
          obtain ⟨y, i5, hy, hy0⟩ := i5
          rw [i5]
      · refine z_aload_n C dX8_readDrawn_15 0 rfl ?_
        refine z_get C hinX8 (ci := 10) rfl 0 rfl 15 (by decide) k2 rfl (v := vI sv) rfl dX8_readDrawn_16 ?_
        refine z_iconst C (z := 3) dX8_readDrawn_19 ?_
        refine z_icmp_ge C (by omega) (by decide) (tgt := 197) dX8_readDrawn_20 (by decide) (fun hc_3 => ?_) (fun hc_3 => ?_)
        · refine z_iconst C (z := 1) dX8_readDrawn_197 ?_
          refine z_zret (b := true) C dX8_readDrawn_198 (sv, x, d, fi, w1, w2, w, h) ?_ ?_ ?_ (by decide) (by decide)
          · have i5 : ∃ y, rdDr (inC bt cl) (8 * cl) co (pd da (r - 1)) 3201 po 0 false true false g = (y, q, gg) ∧ y = sv ∧ 0 ≤ y := by
              rcases hS with ⟨z1, z2⟩ | ⟨z1, z2⟩
              · exact ⟨3, z2, z1.symm, by decide⟩
              · have := b2i_01 ct; exfalso; omega
            obtain ⟨y, i5, hy, hy0⟩ := i5
            rw [i5, decide_eq_true (by dsimp only; omega)]
          · have i5 : ∃ y, rdDr (inC bt cl) (8 * cl) co (pd da (r - 1)) 3201 po 0 false true false g = (y, q, gg) ∧ y = sv ∧ 0 ≤ y := by
              rcases hS with ⟨z1, z2⟩ | ⟨z1, z2⟩
              · exact ⟨3, z2, z1.symm, by decide⟩
              · have := b2i_01 ct; exfalso; omega
            obtain ⟨y, i5, hy, hy0⟩ := i5
            rw [i5]; exact ⟨hR, fun _ => hy.symm⟩
          · have i5 : ∃ y, rdDr (inC bt cl) (8 * cl) co (pd da (r - 1)) 3201 po 0 false true false g = (y, q, gg) ∧ y = sv ∧ 0 ≤ y := by
              rcases hS with ⟨z1, z2⟩ | ⟨z1, z2⟩
              · exact ⟨3, z2, z1.symm, by decide⟩
              · have := b2i_01 ct; exfalso; omega
            obtain ⟨y, i5, hy, hy0⟩ := i5
            rw [i5]
        · have hct := b2i_01 ct
          obtain ⟨hsv, hQ⟩ := hS.resolve_left (fun z => by omega)
          clear hS
          have hab : ∀ j, j < co → pd w (r - 1) j = pd da (r - 1) j := fun j hj => hR.2 (r - 1) j (by omega) (by omega)
          refine z_aload_n C dX8_readDrawn_23 0 rfl ?_
          refine z_iload_n C dX8_readDrawn_24 1 rfl ?_
          refine z_callV C (As := [vI r]) (st := []) (c_X8_look l D cy tw b kd co th rw cl wr q dm sv x d fi w1 w2 h se w sa bt oz r  (by omega) (by omega) (by omega)) gX8_readDrawn_X8_look kn_X8_look rfl ⟨rfl, rfl, Nat.le_of_ble_eq_true rfl, Nat.le_of_ble_eq_true rfl⟩ 0 rfl (ci := 10) rfl rfl (Nat.le_of_ble_eq_true rfl) ⟨Nat.le_of_ble_eq_true rfl, Nat.le_of_ble_eq_true rfl⟩ dX8_readDrawn_25 (fun u4 hu4 => ?_)
          clear hu4; clear u4
          show V 0 0 (MW cy b kd co th rw cl wr q dm sv x d fi (chC (pd w (r - 1)) co (if fi then x else x + 1) (!d)) (nxt (pd w (r - 1)) co (chC (pd w (r - 1)) co (if fi then x else x + 1) (!d)) d) h se w sa bt oz) [(0, .ref (b 0)), (1, vI r)] [] 28
          have hyx : (if fi then x else x + 1) ≤ co ∧ x ≤ (if fi then x else x + 1) := by split <;> omega
          obtain ⟨vc, evc⟩ : ∃ z, z = (nxt (pd w (r - 1)) co (chC (pd w (r - 1)) co (if fi then x else x + 1) (!d)) d) := ⟨_, rfl⟩
          rw [← evc]
          obtain ⟨vb, evb⟩ : ∃ z, z = (chC (pd w (r - 1)) co (if fi then x else x + 1) (!d)) := ⟨_, rfl⟩
          rw [← evb]
          refine z_aload_n C dX8_readDrawn_28 0 rfl ?_
          have hvb8 : chC (pd da (r - 1)) co (if fi then x else x + 1) (!d) = vb := by rw [evb]; exact (chC_cg hab hyx.1 _).symm
          have evc8 : vc = nxt (pd da (r - 1)) co vb d := by rw [evc, ← evb]; exact nxt_cg hab _ _
          have hvb := chC_rg (pd da (r - 1)) (N := co) (x := (if fi then x else x + 1)) (!d) (by omega) (by omega)
          rw [hvb8] at hvb
          have hvc := nxt_rg (pd da (r - 1)) co vb d
          rw [← evc8] at hvc
          refine z_callV C (As := []) (st := []) (c_X8_takeStep l D cy tw b kd co th rw cl wr q dm sv x d fi vb vc h se w sa bt oz   (by omega) (hbt) (by omega)) gX8_readDrawn_X8_takeStep kn_X8_takeStep rfl ⟨rfl, rfl, Nat.le_of_ble_eq_true rfl, Nat.le_of_ble_eq_true rfl⟩ 0 rfl (ci := 10) rfl rfl (Nat.le_of_ble_eq_true rfl) ⟨Nat.le_of_ble_eq_true rfl, Nat.le_of_ble_eq_true rfl⟩ dX8_readDrawn_29 (fun u5 hu5 => ?_)
          clear hu5; clear u5
          show V 0 0 (MW cy b kd co th rw cl wr ((rdWay (inC bt cl) (8 * cl) q 9).2) dm sv x d fi vb vc h se w sa bt oz) [(0, .ref (b 0)), (1, vI r)] [vI (tsV (rdWay (inC bt cl) (8 * cl) q 9).1)] 32
          obtain ⟨q2, eq2⟩ : ∃ z, z = ((rdWay (inC bt cl) (8 * cl) q 9).2) := ⟨_, rfl⟩
          rw [← eq2]
          refine z_nmI (fun nv env => ?_)
          refine z_istore_n C (lv' := [(2, vI nv), (0, .ref (b 0)), (1, vI r)]) dX8_readDrawn_32 rfl (by decide) rfl ?_
          obtain ⟨vw, evw⟩ : ∃ z, z = (rdWay (inC bt cl) (8 * cl) q 9).1 := ⟨_, rfl⟩
          rw [← evw] at env
          obtain ⟨hqr, hwv⟩ := wv_inv (by omega) evw eq2 env
          refine z_iload_n C dX8_readDrawn_33 0 rfl ?_
          refine z_bipush C (z := 7) dX8_readDrawn_34 (by decide) ?_
          refine z_icmp_ne C (by omega) (by decide) (tgt := 41) dX8_readDrawn_36 (by decide) (fun hc_6 => ?_) (fun hc_6 => ?_)
          · refine z_iload_n C dX8_readDrawn_41 0 rfl ?_
            refine z_bipush C (z := 6) dX8_readDrawn_42 (by decide) ?_
            refine z_icmp_ne C (by omega) (by decide) (tgt := 55) dX8_readDrawn_44 (by decide) (fun hc_7 => ?_) (fun hc_7 => ?_)
            · have hw1 : nv = vw - 3 ∧ 0 ≤ vw ∧ vw ≤ 8 ∧ q + 1 ≤ q2 := by omega
              clear hwv
              refine z_iload_n C dX8_readDrawn_55 0 rfl ?_
              refine z_iconst C (z := 5) dX8_readDrawn_56 ?_
              refine z_icmp_ne C (by omega) (by decide) (tgt := 70) dX8_readDrawn_57 (by decide) (fun hc_8 => ?_) (fun hc_8 => ?_)
              · refine z_iload_n C dX8_readDrawn_70 0 rfl ?_
                refine z_iconst C (z := 4) dX8_readDrawn_71 ?_
                refine z_icmp_ne C (by omega) (by decide) (tgt := 104) dX8_readDrawn_72 (by decide) (fun hc_9 => ?_) (fun hc_9 => ?_)
                · refine z_aload_n C dX8_readDrawn_104 1 rfl ?_
                  refine z_get C hinX8 (ci := 10) rfl 0 rfl 19 (by decide) k3 rfl (v := vI vb) rfl dX8_readDrawn_105 ?_
                  refine z_iload_n C dX8_readDrawn_108 0 rfl ?_
                  refine z_iadd C dX8_readDrawn_109 ?_
                  refine z_aload_n C dX8_readDrawn_110 1 rfl ?_
                  refine z_get C hinX8 (ci := 10) rfl 0 rfl 16 (by decide) k0 rfl (v := vI x) rfl dX8_readDrawn_111 ?_
                  refine z_icmp_lt C (by omega) (by omega) (tgt := 137) dX8_readDrawn_114 (by decide) (fun hc_10 => ?_) (fun hc_10 => ?_)
                  · have i5 : rdDr (inC bt cl) (8 * cl) co (pd da (r - 1)) 3201 po 0 false true false g = (3, q2, gg) := by
                      rw [hQ, show (3201 - k).toNat = (3201 - (k + 1)).toNat + 1 by omega, rdDr, if_pos (by omega), ← evw, ← eq2, if_neg (by omega), if_neg (by omega), if_neg (by omega), hvb8, if_pos (Or.inl (by omega))]
                    refine z_aload_n C dX8_readDrawn_137 1 rfl ?_
                    refine z_iconst C (z := 3) dX8_readDrawn_138 ?_
                    refine z_put C hinX8 tyX8 tyX8_ok nmX8 (ci := 10) rfl 0 rfl 15 (by decide) k2 rfl rfl rfl rfl (Nat.le_of_ble_eq_true rfl) dX8_readDrawn_139 (ws' := MW cy b kd co th rw cl wr q2 dm 3 x d fi vb vc h se w sa bt oz) rfl ?_
                    refine z_goto C (tgt := 189) dX8_readDrawn_142 (by decide) ?_
                    refine z_aload_n C dX8_readDrawn_189 1 rfl ?_
                    refine z_iconst C (z := 0) dX8_readDrawn_190 ?_
                    refine z_put C hinX8 tyX8 tyX8_ok nmX8 (ci := 10) rfl 0 rfl 18 (by decide) k4 rfl rfl (z_narZ false).1 (z_narZ false).2 (Nat.le_of_ble_eq_true rfl) dX8_readDrawn_191 (ws' := MW cy b kd co th rw cl wr q2 dm 3 x d false vb vc h se w sa bt oz) rfl ?_
                    refine z_goto C (tgt := 4) dX8_readDrawn_194 (by decide) ?_
                    refine z_lsub C [1, 2] rfl ?_
                    exact ih x d false vb vc q2 w h 3 ct gg k (by omega) (by omega) (⟨by decide, by decide⟩) (hR) (Or.inl ⟨rfl, i5⟩) (by omega)
                  · refine z_aload_n C dX8_readDrawn_117 1 rfl ?_
                    refine z_get C hinX8 (ci := 10) rfl 0 rfl 18 (by decide) k4 rfl (v := vI (b2i fi)) rfl dX8_readDrawn_118 ?_
                    refine z_ifnz C (tgt := 145) dX8_readDrawn_121 (by decide) (fun cfi => ?_) (fun cfi => ?_)
                    · have i5 : rdDr (inC bt cl) (8 * cl) co (pd da (r - 1)) 3201 po 0 false true false g = rdDr (inC bt cl) (8 * cl) co (pd da (r - 1)) (3201 - (k + 1)).toNat q2 (mn (vb + vw - 3) co) (!d) false (decide (co < vb + vw - 3) || ct) (ptg gg x (mn (vb + vw - 3) co) d) := by
                        rw [hQ, show (3201 - k).toNat = (3201 - (k + 1)).toNat + 1 by omega, rdDr, if_pos (by omega), ← evw, ← eq2, if_neg (by omega), if_neg (by omega), if_neg (by omega), hvb8, if_neg (by intro z; rcases z with z | z; (omega); rw [cfi] at z; exact absurd z.2 (by decide))]
                      have hm := mn_rg (a := vb + vw - 3) (b := co) (x := 0) (by omega) (by omega)
                      have hpc : x + (vb + nv - x) = vb + vw - 3 := by omega
                      refine z_aload_n C dX8_readDrawn_145 1 rfl ?_
                      refine z_aload_n C dX8_readDrawn_146 1 rfl ?_
                      refine z_iload_n C dX8_readDrawn_147 2 rfl ?_
                      refine z_aload_n C dX8_readDrawn_148 1 rfl ?_
                      refine z_get C hinX8 (ci := 10) rfl 0 rfl 16 (by decide) k0 rfl (v := vI x) rfl dX8_readDrawn_149 ?_
                      refine z_aload_n C dX8_readDrawn_152 1 rfl ?_
                      refine z_get C hinX8 (ci := 10) rfl 0 rfl 19 (by decide) k3 rfl (v := vI vb) rfl dX8_readDrawn_153 ?_
                      refine z_iload_n C dX8_readDrawn_156 0 rfl ?_
                      refine z_iadd C dX8_readDrawn_157 ?_
                      refine z_aload_n C dX8_readDrawn_158 1 rfl ?_
                      refine z_get C hinX8 (ci := 10) rfl 0 rfl 16 (by decide) k0 rfl (v := vI x) rfl dX8_readDrawn_159 ?_
                      refine z_isub C dX8_readDrawn_162 ?_
                      refine z_aload_n C dX8_readDrawn_163 1 rfl ?_
                      refine z_get C hinX8 (ci := 10) rfl 0 rfl 17 (by decide) k5 rfl (v := vI (b2i d)) rfl dX8_readDrawn_164 ?_
                      refine z_callV C (As := [vI r, vI x, vI ((vb + nv) - x), vI (b2i d)]) (st := [.ref (b 0)]) (c_X8_paintRun l D cy tw b kd co th rw cl wr q2 dm sv x d fi vb vc h se w sa bt oz r x ((vb + nv) - x) d  (by omega) (by omega) (by omega) (by omega) (by omega)) gX8_readDrawn_X8_paintRun kn_X8_paintRun rfl ⟨rfl, rfl, Nat.le_of_ble_eq_true rfl, Nat.le_of_ble_eq_true rfl⟩ 0 rfl (ci := 10) rfl rfl (Nat.le_of_ble_eq_true rfl) ⟨Nat.le_of_ble_eq_true rfl, Nat.le_of_ble_eq_true rfl⟩ dX8_readDrawn_167 (fun u11 hu11 => ?_)
                      clear hu11; clear u11
                      show V 0 0 (MW cy b kd co th rw cl wr q2 dm (if co < x + ((vb + nv) - x) then (if 1 < sv then sv else 1) else sv) x d fi vb vc h se (pnM w r x (mn (x + ((vb + nv) - x)) co) d) sa bt oz) [(2, vI nv), (0, .ref (b 0)), (1, vI r)] [vI (mn (x + ((vb + nv) - x)) co), .ref (b 0)] 170
                      refine z_put C hinX8 tyX8 tyX8_ok nmX8 (ci := 10) rfl 0 rfl 16 (by decide) k0 rfl rfl rfl rfl (Nat.le_of_ble_eq_true rfl) dX8_readDrawn_170 (ws' := MW cy b kd co th rw cl wr q2 dm (if co < x + ((vb + nv) - x) then (if 1 < sv then sv else 1) else sv) (mn (x + ((vb + nv) - x)) co) d fi vb vc h se (pnM w r x (mn (x + ((vb + nv) - x)) co) d) sa bt oz) rfl ?_
                      refine z_aload_n C dX8_readDrawn_173 1 rfl ?_
                      refine z_aload_n C dX8_readDrawn_174 1 rfl ?_
                      refine z_get C hinX8 (ci := 10) rfl 0 rfl 17 (by decide) k5 rfl (v := vI (b2i d)) rfl dX8_readDrawn_175 ?_
                      refine z_not C dX8_readDrawn_178 dX8_readDrawn_181 dX8_readDrawn_182 dX8_readDrawn_185 ?_
                      refine z_put C hinX8 tyX8 tyX8_ok nmX8 (ci := 10) rfl 0 rfl 17 (by decide) k5 rfl rfl (z_narZ (!d)).1 (z_narZ (!d)).2 (Nat.le_of_ble_eq_true rfl) dX8_readDrawn_186 (ws' := MW cy b kd co th rw cl wr q2 dm (if co < x + ((vb + nv) - x) then (if 1 < sv then sv else 1) else sv) (mn (x + ((vb + nv) - x)) co) (!d) fi vb vc h se (pnM w r x (mn (x + ((vb + nv) - x)) co) d) sa bt oz) rfl ?_
                      refine z_aload_n C dX8_readDrawn_189 1 rfl ?_
                      refine z_iconst C (z := 0) dX8_readDrawn_190 ?_
                      refine z_put C hinX8 tyX8 tyX8_ok nmX8 (ci := 10) rfl 0 rfl 18 (by decide) k4 rfl rfl (z_narZ false).1 (z_narZ false).2 (Nat.le_of_ble_eq_true rfl) dX8_readDrawn_191 (ws' := MW cy b kd co th rw cl wr q2 dm (if co < x + ((vb + nv) - x) then (if 1 < sv then sv else 1) else sv) (mn (x + ((vb + nv) - x)) co) (!d) false vb vc h se (pnM w r x (mn (x + ((vb + nv) - x)) co) d) sa bt oz) rfl ?_
                      refine z_goto C (tgt := 4) dX8_readDrawn_194 (by decide) ?_
                      refine z_lsub C [1, 2] rfl ?_
                      exact ih (mn (x + ((vb + nv) - x)) co) (!d) false vb vc q2 (pnM w r x (mn (x + ((vb + nv) - x)) co) d) h (if co < x + ((vb + nv) - x) then (if 1 < sv then sv else 1) else sv) (decide (co < vb + vw - 3) || ct) (ptg gg x (mn (vb + vw - 3) co) d) (k + 1) (by omega) (by rw [hpc]; exact ⟨hm.1, hm.2.1⟩) (by have z8 := b2i_01 (decide (co < vb + vw - 3) || ct); have z7 := sx_ct (co := co) (y := vb + vw - 3) hsv; rw [hpc, z7]; omega) (by rw [hpc]; exact RM_pn d hr.1 i1.1 hm.2.1 hco.2 hR) (Or.inr ⟨by first | (rw [hpc]; exact sx_ct hsv) | exact sx_ct hsv, by rw [hpc]; exact i5⟩) (by have z8 := b2i_01 (decide (co < vb + vw - 3) || ct); have z7 := sx_ct (co := co) (y := vb + vw - 3) hsv; rw [hpc, z7]; omega)
                    · refine z_aload_n C dX8_readDrawn_124 1 rfl ?_
                      refine z_get C hinX8 (ci := 10) rfl 0 rfl 19 (by decide) k3 rfl (v := vI vb) rfl dX8_readDrawn_125 ?_
                      refine z_iload_n C dX8_readDrawn_128 0 rfl ?_
                      refine z_iadd C dX8_readDrawn_129 ?_
                      refine z_aload_n C dX8_readDrawn_130 1 rfl ?_
                      refine z_get C hinX8 (ci := 10) rfl 0 rfl 16 (by decide) k0 rfl (v := vI x) rfl dX8_readDrawn_131 ?_
                      refine z_icmp_ne C (by omega) (by omega) (tgt := 145) dX8_readDrawn_134 (by decide) (fun hc_12 => ?_) (fun hc_12 => ?_)
                      · have i5 : rdDr (inC bt cl) (8 * cl) co (pd da (r - 1)) 3201 po 0 false true false g = rdDr (inC bt cl) (8 * cl) co (pd da (r - 1)) (3201 - (k + 1)).toNat q2 (mn (vb + vw - 3) co) (!d) false (decide (co < vb + vw - 3) || ct) (ptg gg x (mn (vb + vw - 3) co) d) := by
                          rw [hQ, show (3201 - k).toNat = (3201 - (k + 1)).toNat + 1 by omega, rdDr, if_pos (by omega), ← evw, ← eq2, if_neg (by omega), if_neg (by omega), if_neg (by omega), hvb8, if_neg (by intro z; omega)]
                        have hm := mn_rg (a := vb + vw - 3) (b := co) (x := 0) (by omega) (by omega)
                        have hpc : x + (vb + nv - x) = vb + vw - 3 := by omega
                        refine z_aload_n C dX8_readDrawn_145 1 rfl ?_
                        refine z_aload_n C dX8_readDrawn_146 1 rfl ?_
                        refine z_iload_n C dX8_readDrawn_147 2 rfl ?_
                        refine z_aload_n C dX8_readDrawn_148 1 rfl ?_
                        refine z_get C hinX8 (ci := 10) rfl 0 rfl 16 (by decide) k0 rfl (v := vI x) rfl dX8_readDrawn_149 ?_
                        refine z_aload_n C dX8_readDrawn_152 1 rfl ?_
                        refine z_get C hinX8 (ci := 10) rfl 0 rfl 19 (by decide) k3 rfl (v := vI vb) rfl dX8_readDrawn_153 ?_
                        refine z_iload_n C dX8_readDrawn_156 0 rfl ?_
                        refine z_iadd C dX8_readDrawn_157 ?_
                        refine z_aload_n C dX8_readDrawn_158 1 rfl ?_
                        refine z_get C hinX8 (ci := 10) rfl 0 rfl 16 (by decide) k0 rfl (v := vI x) rfl dX8_readDrawn_159 ?_
                        refine z_isub C dX8_readDrawn_162 ?_
                        refine z_aload_n C dX8_readDrawn_163 1 rfl ?_
                        refine z_get C hinX8 (ci := 10) rfl 0 rfl 17 (by decide) k5 rfl (v := vI (b2i d)) rfl dX8_readDrawn_164 ?_
                        refine z_callV C (As := [vI r, vI x, vI ((vb + nv) - x), vI (b2i d)]) (st := [.ref (b 0)]) (c_X8_paintRun l D cy tw b kd co th rw cl wr q2 dm sv x d fi vb vc h se w sa bt oz r x ((vb + nv) - x) d  (by omega) (by omega) (by omega) (by omega) (by omega)) gX8_readDrawn_X8_paintRun kn_X8_paintRun rfl ⟨rfl, rfl, Nat.le_of_ble_eq_true rfl, Nat.le_of_ble_eq_true rfl⟩ 0 rfl (ci := 10) rfl rfl (Nat.le_of_ble_eq_true rfl) ⟨Nat.le_of_ble_eq_true rfl, Nat.le_of_ble_eq_true rfl⟩ dX8_readDrawn_167 (fun u13 hu13 => ?_)
                        clear hu13; clear u13
                        show V 0 0 (MW cy b kd co th rw cl wr q2 dm (if co < x + ((vb + nv) - x) then (if 1 < sv then sv else 1) else sv) x d fi vb vc h se (pnM w r x (mn (x + ((vb + nv) - x)) co) d) sa bt oz) [(2, vI nv), (0, .ref (b 0)), (1, vI r)] [vI (mn (x + ((vb + nv) - x)) co), .ref (b 0)] 170
                        refine z_put C hinX8 tyX8 tyX8_ok nmX8 (ci := 10) rfl 0 rfl 16 (by decide) k0 rfl rfl rfl rfl (Nat.le_of_ble_eq_true rfl) dX8_readDrawn_170 (ws' := MW cy b kd co th rw cl wr q2 dm (if co < x + ((vb + nv) - x) then (if 1 < sv then sv else 1) else sv) (mn (x + ((vb + nv) - x)) co) d fi vb vc h se (pnM w r x (mn (x + ((vb + nv) - x)) co) d) sa bt oz) rfl ?_
                        refine z_aload_n C dX8_readDrawn_173 1 rfl ?_
                        refine z_aload_n C dX8_readDrawn_174 1 rfl ?_
                        refine z_get C hinX8 (ci := 10) rfl 0 rfl 17 (by decide) k5 rfl (v := vI (b2i d)) rfl dX8_readDrawn_175 ?_
                        refine z_not C dX8_readDrawn_178 dX8_readDrawn_181 dX8_readDrawn_182 dX8_readDrawn_185 ?_
                        refine z_put C hinX8 tyX8 tyX8_ok nmX8 (ci := 10) rfl 0 rfl 17 (by decide) k5 rfl rfl (z_narZ (!d)).1 (z_narZ (!d)).2 (Nat.le_of_ble_eq_true rfl) dX8_readDrawn_186 (ws' := MW cy b kd co th rw cl wr q2 dm (if co < x + ((vb + nv) - x) then (if 1 < sv then sv else 1) else sv) (mn (x + ((vb + nv) - x)) co) (!d) fi vb vc h se (pnM w r x (mn (x + ((vb + nv) - x)) co) d) sa bt oz) rfl ?_
                        refine z_aload_n C dX8_readDrawn_189 1 rfl ?_
                        refine z_iconst C (z := 0) dX8_readDrawn_190 ?_
                        refine z_put C hinX8 tyX8 tyX8_ok nmX8 (ci := 10) rfl 0 rfl 18 (by decide) k4 rfl rfl (z_narZ false).1 (z_narZ false).2 (Nat.le_of_ble_eq_true rfl) dX8_readDrawn_191 (ws' := MW cy b kd co th rw cl wr q2 dm (if co < x + ((vb + nv) - x) then (if 1 < sv then sv else 1) else sv) (mn (x + ((vb + nv) - x)) co) (!d) false vb vc h se (pnM w r x (mn (x + ((vb + nv) - x)) co) d) sa bt oz) rfl ?_
                        refine z_goto C (tgt := 4) dX8_readDrawn_194 (by decide) ?_
                        refine z_lsub C [1, 2] rfl ?_
                        exact ih (mn (x + ((vb + nv) - x)) co) (!d) false vb vc q2 (pnM w r x (mn (x + ((vb + nv) - x)) co) d) h (if co < x + ((vb + nv) - x) then (if 1 < sv then sv else 1) else sv) (decide (co < vb + vw - 3) || ct) (ptg gg x (mn (vb + vw - 3) co) d) (k + 1) (by omega) (by rw [hpc]; exact ⟨hm.1, hm.2.1⟩) (by have z8 := b2i_01 (decide (co < vb + vw - 3) || ct); have z7 := sx_ct (co := co) (y := vb + vw - 3) hsv; rw [hpc, z7]; omega) (by rw [hpc]; exact RM_pn d hr.1 i1.1 hm.2.1 hco.2 hR) (Or.inr ⟨by first | (rw [hpc]; exact sx_ct hsv) | exact sx_ct hsv, by rw [hpc]; exact i5⟩) (by have z8 := b2i_01 (decide (co < vb + vw - 3) || ct); have z7 := sx_ct (co := co) (y := vb + vw - 3) hsv; rw [hpc, z7]; omega)
                      · have i5 : rdDr (inC bt cl) (8 * cl) co (pd da (r - 1)) 3201 po 0 false true false g = (3, q2, gg) := by
                          rw [hQ, show (3201 - k).toNat = (3201 - (k + 1)).toNat + 1 by omega, rdDr, if_pos (by omega), ← evw, ← eq2, if_neg (by omega), if_neg (by omega), if_neg (by omega), hvb8, if_pos (Or.inr ⟨by omega, cfi⟩)]
                        refine z_aload_n C dX8_readDrawn_137 1 rfl ?_
                        refine z_iconst C (z := 3) dX8_readDrawn_138 ?_
                        refine z_put C hinX8 tyX8 tyX8_ok nmX8 (ci := 10) rfl 0 rfl 15 (by decide) k2 rfl rfl rfl rfl (Nat.le_of_ble_eq_true rfl) dX8_readDrawn_139 (ws' := MW cy b kd co th rw cl wr q2 dm 3 x d fi vb vc h se w sa bt oz) rfl ?_
                        refine z_goto C (tgt := 189) dX8_readDrawn_142 (by decide) ?_
                        refine z_aload_n C dX8_readDrawn_189 1 rfl ?_
                        refine z_iconst C (z := 0) dX8_readDrawn_190 ?_
                        refine z_put C hinX8 tyX8 tyX8_ok nmX8 (ci := 10) rfl 0 rfl 18 (by decide) k4 rfl rfl (z_narZ false).1 (z_narZ false).2 (Nat.le_of_ble_eq_true rfl) dX8_readDrawn_191 (ws' := MW cy b kd co th rw cl wr q2 dm 3 x d false vb vc h se w sa bt oz) rfl ?_
                        refine z_goto C (tgt := 4) dX8_readDrawn_194 (by decide) ?_
                        refine z_lsub C [1, 2] rfl ?_
                        exact ih x d false vb vc q2 w h 3 ct gg k (by omega) (by omega) (⟨by decide, by decide⟩) (hR) (Or.inl ⟨rfl, i5⟩) (by omega)
                · have i5 : rdDr (inC bt cl) (8 * cl) co (pd da (r - 1)) 3201 po 0 false true false g = rdDr (inC bt cl) (8 * cl) co (pd da (r - 1)) (3201 - (k + 1)).toNat q2 (mn vc co) d false (decide (co < vc) || ct) (ptg gg x (mn vc co) d) := by
                    rw [hQ, show (3201 - k).toNat = (3201 - (k + 1)).toNat + 1 by omega, rdDr, if_pos (by omega), ← evw, ← eq2, if_neg (by omega), if_neg (by omega), if_pos (by omega), hvb8, ← evc8]
                  have hm := mn_rg (a := vc) (b := co) (x := 0) (by omega) (by omega)
                  have hpc : x + (vc - x) = vc := by omega
                  refine z_aload_n C dX8_readDrawn_75 1 rfl ?_
                  refine z_aload_n C dX8_readDrawn_76 1 rfl ?_
                  refine z_iload_n C dX8_readDrawn_77 2 rfl ?_
                  refine z_aload_n C dX8_readDrawn_78 1 rfl ?_
                  refine z_get C hinX8 (ci := 10) rfl 0 rfl 16 (by decide) k0 rfl (v := vI x) rfl dX8_readDrawn_79 ?_
                  refine z_aload_n C dX8_readDrawn_82 1 rfl ?_
                  refine z_get C hinX8 (ci := 10) rfl 0 rfl 20 (by decide) k6 rfl (v := vI vc) rfl dX8_readDrawn_83 ?_
                  refine z_aload_n C dX8_readDrawn_86 1 rfl ?_
                  refine z_get C hinX8 (ci := 10) rfl 0 rfl 16 (by decide) k0 rfl (v := vI x) rfl dX8_readDrawn_87 ?_
                  refine z_isub C dX8_readDrawn_90 ?_
                  refine z_aload_n C dX8_readDrawn_91 1 rfl ?_
                  refine z_get C hinX8 (ci := 10) rfl 0 rfl 17 (by decide) k5 rfl (v := vI (b2i d)) rfl dX8_readDrawn_92 ?_
                  refine z_callV C (As := [vI r, vI x, vI (vc - x), vI (b2i d)]) (st := [.ref (b 0)]) (c_X8_paintRun l D cy tw b kd co th rw cl wr q2 dm sv x d fi vb vc h se w sa bt oz r x (vc - x) d  (by omega) (by omega) (by omega) (by omega) (by omega)) gX8_readDrawn_X8_paintRun kn_X8_paintRun rfl ⟨rfl, rfl, Nat.le_of_ble_eq_true rfl, Nat.le_of_ble_eq_true rfl⟩ 0 rfl (ci := 10) rfl rfl (Nat.le_of_ble_eq_true rfl) ⟨Nat.le_of_ble_eq_true rfl, Nat.le_of_ble_eq_true rfl⟩ dX8_readDrawn_95 (fun u14 hu14 => ?_)
                  clear hu14; clear u14
                  show V 0 0 (MW cy b kd co th rw cl wr q2 dm (if co < x + (vc - x) then (if 1 < sv then sv else 1) else sv) x d fi vb vc h se (pnM w r x (mn (x + (vc - x)) co) d) sa bt oz) [(2, vI nv), (0, .ref (b 0)), (1, vI r)] [vI (mn (x + (vc - x)) co), .ref (b 0)] 98
                  refine z_put C hinX8 tyX8 tyX8_ok nmX8 (ci := 10) rfl 0 rfl 16 (by decide) k0 rfl rfl rfl rfl (Nat.le_of_ble_eq_true rfl) dX8_readDrawn_98 (ws' := MW cy b kd co th rw cl wr q2 dm (if co < x + (vc - x) then (if 1 < sv then sv else 1) else sv) (mn (x + (vc - x)) co) d fi vb vc h se (pnM w r x (mn (x + (vc - x)) co) d) sa bt oz) rfl ?_
                  refine z_goto C (tgt := 189) dX8_readDrawn_101 (by decide) ?_
                  refine z_aload_n C dX8_readDrawn_189 1 rfl ?_
                  refine z_iconst C (z := 0) dX8_readDrawn_190 ?_
                  refine z_put C hinX8 tyX8 tyX8_ok nmX8 (ci := 10) rfl 0 rfl 18 (by decide) k4 rfl rfl (z_narZ false).1 (z_narZ false).2 (Nat.le_of_ble_eq_true rfl) dX8_readDrawn_191 (ws' := MW cy b kd co th rw cl wr q2 dm (if co < x + (vc - x) then (if 1 < sv then sv else 1) else sv) (mn (x + (vc - x)) co) d false vb vc h se (pnM w r x (mn (x + (vc - x)) co) d) sa bt oz) rfl ?_
                  refine z_goto C (tgt := 4) dX8_readDrawn_194 (by decide) ?_
                  refine z_lsub C [1, 2] rfl ?_
                  exact ih (mn (x + (vc - x)) co) d false vb vc q2 (pnM w r x (mn (x + (vc - x)) co) d) h (if co < x + (vc - x) then (if 1 < sv then sv else 1) else sv) (decide (co < vc) || ct) (ptg gg x (mn (vc) co) d) (k + 1) (by omega) (by rw [hpc]; exact ⟨hm.1, hm.2.1⟩) (by have z8 := b2i_01 (decide (co < vc) || ct); have z7 := sx_ct (co := co) (y := vc) hsv; rw [hpc, z7]; omega) (by rw [hpc]; exact RM_pn d hr.1 i1.1 hm.2.1 hco.2 hR) (Or.inr ⟨by first | (rw [hpc]; exact sx_ct hsv) | exact sx_ct hsv, by rw [hpc]; exact i5⟩) (by have z8 := b2i_01 (decide (co < vc) || ct); have z7 := sx_ct (co := co) (y := vc) hsv; rw [hpc, z7]; omega)
              · rw [hsv]
                refine z_aload_n C dX8_readDrawn_60 1 rfl ?_
                refine z_iload_n C dX8_readDrawn_61 2 rfl ?_
                refine z_callV C (As := [vI r]) (st := []) (c_X8_readAcross l D cy tw b kd co th rw cl wr q2 dm x d fi vb vc h se w sa bt oz r ct (by omega) (by omega) (by omega) (hbt) (by omega) (by omega)) gX8_readDrawn_X8_readAcross kn_X8_readAcross rfl ⟨rfl, rfl, Nat.le_of_ble_eq_true rfl, Nat.le_of_ble_eq_true rfl⟩ 0 rfl (ci := 10) rfl rfl (Nat.le_of_ble_eq_true rfl) ⟨Nat.le_of_ble_eq_true rfl, Nat.le_of_ble_eq_true rfl⟩ dX8_readDrawn_62 (fun u15 hu15 => ?_)
                show V 0 0 (MW cy b kd co th rw cl wr u15.1.2.1 dm u15.1.2.2.2.2 u15.1.2.2.2.1 d fi vb vc u15.2 se u15.1.2.2.1 sa bt oz) [(2, vI nv), (0, .ref (b 0)), (1, vI r)] [vI (b2i u15.1.1)] 65
                refine z_ifnz C (tgt := 189) dX8_readDrawn_65 (by decide) (fun hc_16 => ?_) (fun hc_16 => ?_)
                · have hr1 := rdRun_rg (inC bt cl) (8 * cl) d 3201 q2 0 false (by omega) (by omega)
                  have hr2 := rdRun_rg (inC bt cl) (8 * cl) (!d) 3201 (rdRun (inC bt cl) (8 * cl) d 3201 q2 0 false).2 0 false (by omega) (by omega)
                  have hm1 := mn_rg (a := x + (rdRun (inC bt cl) (8 * cl) d 3201 q2 0 false).1) (b := co) (x := 0)
                  have hm2 := mn_rg (a := mn (x + (rdRun (inC bt cl) (8 * cl) d 3201 q2 0 false).1) co + (rdRun (inC bt cl) (8 * cl) (!d) 3201 (rdRun (inC bt cl) (8 * cl) d 3201 q2 0 false).2 0 false).1) (b := co) (x := 0)
                  have i5 : ∃ (kq4 : Int) (cq4 : Bool) (g4 : Int → Bool), ((u15.1.2.2.2.2 = 3 ∧ rdDr (inC bt cl) (8 * cl) co (pd da (r - 1)) 3201 po 0 false true false g = (3, u15.1.2.1, g4)) ∨ (u15.1.2.2.2.2 = b2i cq4 ∧ rdDr (inC bt cl) (8 * cl) co (pd da (r - 1)) 3201 po 0 false true false g = rdDr (inC bt cl) (8 * cl) co (pd da (r - 1)) (3201 - kq4).toNat u15.1.2.1 u15.1.2.2.2.1 d false cq4 g4)) ∧ RM da u15.1.2.2.1 co r g4 ∧ (1 ≤ kq4 ∧ kq4 ≤ u15.1.2.1 - po ∧ u15.1.2.1 ≤ 8 * cl) ∧ (q2 ≤ u15.1.2.1) ∧ (0 ≤ u15.1.2.2.2.1 ∧ u15.1.2.2.2.1 ≤ co) ∧ 0 ≤ u15.1.2.2.2.2 ∧ u15.1.2.2.2.2 ≤ 3 := by
                    rcases hu15 with ⟨q1, q4⟩ | ⟨q1, q3, q4⟩ | ⟨q1, q3, q4⟩ <;> rw [q4] at hc_16 ⊢
                    · have z9 := of_decide_eq_true hc_16
                      refine ⟨k + 1, ct, gg, Or.inl ⟨if_neg z9, by rw [hQ, show (3201 - k).toNat = (3201 - (k + 1)).toNat + 1 by omega, rdDr, if_pos (by omega), ← evw, ← eq2, if_pos (by omega), if_pos q1]; rw [fz, if_neg z9]⟩, hR, ⟨by omega, by dsimp only; omega, by dsimp only; omega⟩, by dsimp only; omega, i1, ?_⟩
                      dsimp only; rw [if_neg z9]; exact ⟨by decide, by decide⟩
                    · have z9 := of_decide_eq_true hc_16
                      refine ⟨k + 1, ct, _, Or.inl ⟨if_neg z9, by rw [hQ, show (3201 - k).toNat = (3201 - (k + 1)).toNat + 1 by omega, rdDr, if_pos (by omega), ← evw, ← eq2, if_pos (by omega), if_neg q1, if_pos q3]; rw [fz, if_neg z9]⟩, RM_pn d hr.1 i1.1 (hm1 (by omega) (by omega)).2.1 hco.2 hR, ⟨by omega, by dsimp only; omega, by dsimp only; omega⟩, by dsimp only; omega, ⟨(hm1 (by omega) (by omega)).1, (hm1 (by omega) (by omega)).2.1⟩, ?_⟩
                      dsimp only; rw [if_neg z9]; exact ⟨by decide, by decide⟩
                    · refine ⟨k + 1, _, _, Or.inr ⟨rfl, by rw [hQ, show (3201 - k).toNat = (3201 - (k + 1)).toNat + 1 by omega, rdDr, if_pos (by omega), ← evw, ← eq2, if_pos (by omega), if_neg q1, if_neg q3]⟩, RM_pn (!d) hr.1 (hm1 (by omega) (by omega)).1 (hm2 (by have := hm1 (by omega) (by omega); omega) (by omega)).2.1 hco.2 (RM_pn d hr.1 i1.1 (hm1 (by omega) (by omega)).2.1 hco.2 hR), ⟨by omega, by dsimp only; omega, by dsimp only; omega⟩, by dsimp only; omega, ⟨(hm2 (by have := hm1 (by omega) (by omega); omega) (by omega)).1, (hm2 (by have := hm1 (by omega) (by omega); omega) (by omega)).2.1⟩, ?_⟩
                      have z8 := b2i_01 (decide (co < mn (x + (rdRun (inC bt cl) (8 * cl) d 3201 q2 0 false).1) co + (rdRun (inC bt cl) (8 * cl) (!d) 3201 (rdRun (inC bt cl) (8 * cl) d 3201 q2 0 false).2 0 false).1) || (decide (co < x + (rdRun (inC bt cl) (8 * cl) d 3201 q2 0 false).1) || ct))
                      exact ⟨z8.1, Int.le_trans z8.2 (by decide)⟩
                  obtain ⟨kq4, cq4, g4, i5, h5, hkq4, hq4, ha4, hs4⟩ := i5
                  refine z_aload_n C dX8_readDrawn_189 1 rfl ?_
                  refine z_iconst C (z := 0) dX8_readDrawn_190 ?_
                  refine z_put C hinX8 tyX8 tyX8_ok nmX8 (ci := 10) rfl 0 rfl 18 (by decide) k4 rfl rfl (z_narZ false).1 (z_narZ false).2 (Nat.le_of_ble_eq_true rfl) dX8_readDrawn_191 (ws' := MW cy b kd co th rw cl wr u15.1.2.1 dm u15.1.2.2.2.2 u15.1.2.2.2.1 d false vb vc u15.2 se u15.1.2.2.1 sa bt oz) rfl ?_
                  refine z_goto C (tgt := 4) dX8_readDrawn_194 (by decide) ?_
                  refine z_lsub C [1, 2] rfl ?_
                  exact ih u15.1.2.2.2.1 d false vb vc u15.1.2.1 u15.1.2.2.1 u15.2 u15.1.2.2.2.2 cq4 g4 kq4 (by omega) (ha4) (hs4) (h5) (i5) (by omega)
                · have hr1 := rdRun_rg (inC bt cl) (8 * cl) d 3201 q2 0 false (by omega) (by omega)
                  have hr2 := rdRun_rg (inC bt cl) (8 * cl) (!d) 3201 (rdRun (inC bt cl) (8 * cl) d 3201 q2 0 false).2 0 false (by omega) (by omega)
                  have hm1 := mn_rg (a := x + (rdRun (inC bt cl) (8 * cl) d 3201 q2 0 false).1) (b := co) (x := 0)
                  have hm2 := mn_rg (a := mn (x + (rdRun (inC bt cl) (8 * cl) d 3201 q2 0 false).1) co + (rdRun (inC bt cl) (8 * cl) (!d) 3201 (rdRun (inC bt cl) (8 * cl) d 3201 q2 0 false).2 0 false).1) (b := co) (x := 0)
                  have i5 : ∃ g4, rdDr (inC bt cl) (8 * cl) co (pd da (r - 1)) 3201 po 0 false true false g = (-1, u15.1.2.1, g4) ∧ RM da u15.1.2.2.1 co r g4 := by
                    rcases hu15 with ⟨q1, q4⟩ | ⟨q1, q3, q4⟩ | ⟨q1, q3, q4⟩ <;> rw [q4] at hc_16 ⊢
                    · have z9 := of_decide_eq_false hc_16
                      exact ⟨gg, by rw [hQ, show (3201 - k).toNat = (3201 - (k + 1)).toNat + 1 by omega, rdDr, if_pos (by omega), ← evw, ← eq2, if_pos (by omega), if_pos q1]; rw [fz, if_pos (Classical.not_not.mp z9)], hR⟩
                    · have z9 := of_decide_eq_false hc_16
                      exact ⟨_, by rw [hQ, show (3201 - k).toNat = (3201 - (k + 1)).toNat + 1 by omega, rdDr, if_pos (by omega), ← evw, ← eq2, if_pos (by omega), if_neg q1, if_pos q3]; rw [fz, if_pos (Classical.not_not.mp z9)], RM_pn d hr.1 i1.1 (hm1 (by omega) (by omega)).2.1 hco.2 hR⟩
                    · exact absurd hc_16 (by show ¬ true = false; decide)
                  obtain ⟨g4, i5, h5⟩ := i5
                  refine z_iconst C (z := 0) dX8_readDrawn_68 ?_
                  refine z_zret (b := false) C dX8_readDrawn_69 (u15.1.2.2.2.2, u15.1.2.2.2.1, d, fi, vb, vc, u15.1.2.2.1, u15.2) ?_ ?_ ?_ (by decide) (by decide)
                  · rw [i5]; rfl
                  · rw [i5]; exact ⟨h5, fun z => absurd rfl z⟩
                  · rw [i5]
            · have hw1 : vw = -2 := by omega
              clear hwv
              have i5 : rdDr (inC bt cl) (8 * cl) co (pd da (r - 1)) 3201 po 0 false true false g = (3, q2, gg) := by
                rw [hQ, show (3201 - k).toNat = (3201 - (k + 1)).toNat + 1 by omega, rdDr, if_pos (by omega), ← evw, ← eq2, if_neg (by omega), if_pos (by omega)]; rw [show vw = -2 by omega]; rfl
              refine z_aload_n C dX8_readDrawn_47 1 rfl ?_
              refine z_iconst C (z := 3) dX8_readDrawn_48 ?_
              refine z_put C hinX8 tyX8 tyX8_ok nmX8 (ci := 10) rfl 0 rfl 15 (by decide) k2 rfl rfl rfl rfl (Nat.le_of_ble_eq_true rfl) dX8_readDrawn_49 (ws' := MW cy b kd co th rw cl wr q2 dm 3 x d fi vb vc h se w sa bt oz) rfl ?_
              refine z_goto C (tgt := 189) dX8_readDrawn_52 (by decide) ?_
              refine z_aload_n C dX8_readDrawn_189 1 rfl ?_
              refine z_iconst C (z := 0) dX8_readDrawn_190 ?_
              refine z_put C hinX8 tyX8 tyX8_ok nmX8 (ci := 10) rfl 0 rfl 18 (by decide) k4 rfl rfl (z_narZ false).1 (z_narZ false).2 (Nat.le_of_ble_eq_true rfl) dX8_readDrawn_191 (ws' := MW cy b kd co th rw cl wr q2 dm 3 x d false vb vc h se w sa bt oz) rfl ?_
              refine z_goto C (tgt := 4) dX8_readDrawn_194 (by decide) ?_
              refine z_lsub C [1, 2] rfl ?_
              exact ih x d false vb vc q2 w h 3 ct gg k (by omega) (by omega) (⟨by decide, by decide⟩) (hR) (Or.inl ⟨rfl, i5⟩) (by omega)
          · have hw1 : vw = -1 := by omega
            clear hwv
            have i5 : rdDr (inC bt cl) (8 * cl) co (pd da (r - 1)) 3201 po 0 false true false g = (-1, q2, gg) := by
              rw [hQ, show (3201 - k).toNat = (3201 - (k + 1)).toNat + 1 by omega, rdDr, if_pos (by omega), ← evw, ← eq2, if_neg (by omega), if_pos (by omega)]; rw [show vw = -1 by omega]; rfl
            refine z_iconst C (z := 0) dX8_readDrawn_39 ?_
            refine z_zret (b := false) C dX8_readDrawn_40 (sv, x, d, fi, vb, vc, w, h) ?_ ?_ ?_ (by decide) (by decide)
            · rw [i5]; rfl
            · rw [i5]; exact ⟨hR, fun z => absurd rfl z⟩
            · rw [i5]
  exact J4 _ 0 false true bb cz po da hm 0 false g 0 (by omega) (by omega) (⟨by decide, by decide⟩) (hg) (Or.inr ⟨rfl, rfl⟩) (Nat.lt_succ_self _)
