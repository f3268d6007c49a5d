def trV (r : Int) : Int := if r = -1 then -2 else if r < 0 then -1 else r
theorem trV_1 {r : Int} (h : r = -1) : trV r = -2 := if_pos h
theorem trV_n {r : Int} (h : ¬ r = -1) (h2 : r < 0) : trV r = -1 := by rw [trV, if_neg h, if_pos h2]
theorem trV_p {r : Int} (h : 0 ≤ r) : trV r = r := by rw [trV, if_neg (by omega), if_neg (by omega)]
theorem kn_X8_takeRun : zKn yX8_takeRun wsX8_takeRun cX8_takeRun 4 (some .int) 1 := ⟨⟨_, rfl⟩, by decide +kernel, by decide +kernel, by decide +kernel⟩
set_option maxHeartbeats 1000000 in
set_option maxRecDepth 100000 in
theorem c_X8_takeRun (l : Launch) (D : va_G) (cy : Nat → ClassId) (tw : Nat → Nat) (b : Nat → Nat) (kd : Int) (co : Int) (th : Int) (rw : Int) (cl : Int) (wr : Int) (po : Int) (dm : Int) (sx : Int) (aa : Int) (dk : Bool) (fi : Bool) (bb : Int) (cz : Int) (hm : Bool) (se : Nat → Bool) (da : Nat → Bool) (sa : Nat → Int) (bt : Nat → Int) (oz : Nat → Bool) (d : Bool)  (hcl : 0 ≤ cl ∧ cl ≤ 400) (hbt : ∀ j : Nat, 0 ≤ bt j ∧ bt j < 256) (hpo : 0 ≤ po ∧ po ≤ 8 * cl) : zMet l yX8_takeRun wsX8_takeRun { frames := 3, cells := 0, slots := 0, locals := 68 } D (zT cy) tw (MW cy b kd co th rw cl wr po dm sx aa dk fi bb cz hm se da sa bt oz) [.ref (b 0), vI (b2i d)] 0 0 (S := Bool) (fun _ => some (vI (trV (rdRun (inC bt cl) (8 * cl) d 3201 po 0 false).1))) (fun u => MW cy b kd co th rw cl wr ((rdRun (inC bt cl) (8 * cl) d 3201 po 0 false).2) dm sx aa dk fi bb cz u se da sa bt oz) (fun u => ((rdRun (inC bt cl) (8 * cl) d 3201 po 0 false).1 = -2 → u = false) ∧ ((rdRun (inC bt cl) (8 * cl) d 3201 po 0 false).1 = -3 → u = true)) := by
  refine z_met (cc := cX8_takeRun) (nL := 4) (ret := some .int) (by decide +kernel) rfl (Nat.le_of_ble_eq_true rfl) (lv := [(0, .ref (b 0)), (1, vI (b2i d))]) rfl ?_
  intro V p_ e_ s_ m_ args_ below_ meth_ c_ A_ C hmn
  have hinX8 : ∀ w ∈ u_ws RX8 TX8 22, w ∈ wsX8_takeRun := by decide +kernel
  have k0 : Cond.fieldLink RX8 177 "FaxFilterModel" "hadMake" "Z" ∈ wsX8_takeRun := List.mem_of_getElem? (i := 1) rfl
  refine z_iconst C (z := 0) dX8_takeRun_0 ?_
  refine z_istore_n C (lv' := [(2, vI 0), (0, .ref (b 0)), (1, vI (b2i d))]) dX8_takeRun_1 rfl (by decide) rfl ?_
  refine z_aload_n C dX8_takeRun_2 1 rfl ?_
  refine z_iconst C (z := 0) dX8_takeRun_3 ?_
  refine z_put C hinX8 tyX8 tyX8_ok nmX8 (ci := 10) rfl 0 rfl 21 (by decide) k0 rfl rfl (z_narZ false).1 (z_narZ false).2 (Nat.le_of_ble_eq_true rfl) dX8_takeRun_4 (ws' := MW cy b kd co th rw cl wr po dm sx aa dk fi bb cz false se da sa bt oz) rfl ?_
  have J7 : ∀ (f : Nat) (g : Int) (q : Int) (h : Bool) (k : Int), (0 ≤ k ∧ k ≤ q - po ∧ q ≤ 8 * cl) → (0 ≤ g ∧ g ≤ 640 * k) → (rdRun (inC bt cl) (8 * cl) d 3201 po 0 false = rdRun (inC bt cl) (8 * cl) d (3201 - k).toNat q g h) → (8 * cl - q).toNat < f → V 0 0 (MW cy b kd co th rw cl wr q dm sx aa dk fi bb cz h se da sa bt oz) [(0, .ref (b 0)), (1, vI (b2i d)), (2, vI g)] [] 7 := by
    intro f
    induction f with
    | zero => intro g q h k i0 i1 i2 hf; exact absurd hf (Nat.not_lt_zero _)
    | succ f ih =>
      intro g q h k i0 i1 i2 hf
      refine z_aload_n C dX8_takeRun_7 0 rfl ?_
      refine z_iload_n C dX8_takeRun_8 1 rfl ?_
      refine z_ifz C (tgt := 16) dX8_takeRun_9 (by decide) (fun cd => ?_) (fun cd => ?_)
      · refine z_iconst C (z := 0) dX8_takeRun_16 ?_
        refine z_callV C (As := [vI 0]) (st := []) (c_X8_takeCode l D cy tw b kd co th rw cl wr q dm sx aa dk fi bb cz h se da sa bt oz 0  (by omega) (hbt) (by omega) (by omega)) gX8_takeRun_X8_takeCode kn_X8_takeCode rfl ⟨rfl, rfl, Nat.le_of_ble_eq_true rfl, Nat.le_of_ble_eq_true rfl⟩ 0 rfl (ci := 10) rfl rfl (Nat.le_of_ble_eq_true rfl) ⟨Nat.le_of_ble_eq_true rfl, Nat.le_of_ble_eq_true rfl⟩ dX8_takeRun_17 (fun u1 hu1 => ?_)
        clear hu1; clear u1
        show V 0 0 (MW cy b kd co th rw cl wr (tkp (inC bt cl) (8 * cl) q (cB 0)) dm sx aa dk fi bb cz h se da sa bt oz) [(0, .ref (b 0)), (1, vI (b2i d)), (2, vI g)] [vI (tkc (inC bt cl) (8 * cl) q (cB 0))] 20
        obtain ⟨q2, eq2⟩ : ∃ z, z = (tkp (inC bt cl) (8 * cl) q (cB 0)) := ⟨_, rfl⟩
        rw [← eq2]
        refine z_nmI (fun nv env => ?_)
        refine z_istore_n C (lv' := [(3, vI nv), (0, .ref (b 0)), (1, vI (b2i d)), (2, vI g)]) dX8_takeRun_20 rfl (by decide) rfl ?_
        have hd : d = cB 0 := by rw [cd]; rfl
        have hcs := tkc_cases (inC bt cl) (T := 8 * cl) (p := q) (cB 0) (by omega)
        rw [← env, ← eq2] at hcs
        
        refine z_iload_n C dX8_takeRun_21 0 rfl ?_
        refine z_if_ge C (by omega) (tgt := 27) dX8_takeRun_22 (by decide) (fun hc_2 => ?_) (fun hc_2 => ?_)
        · rcases hcs with hcs | ⟨hn, h1, h2, h3, h5, h6, h7, h8⟩
          · exfalso; omega
          have hn9 := fun z => hn (decide_eq_true z)
          rw [← hd] at hn9 h1 h2 h8
          refine z_iload_n C dX8_takeRun_27 3 rfl ?_
          refine z_iload_n C dX8_takeRun_28 0 rfl ?_
          refine z_iadd C dX8_takeRun_29 ?_
          refine z_istore_n C (lv' := [(2, vI (g + nv)), (3, vI nv), (0, .ref (b 0)), (1, vI (b2i d))]) dX8_takeRun_30 rfl (by decide) rfl ?_
          refine z_iload_n C dX8_takeRun_31 1 rfl ?_
          refine z_bipush C (z := 64) dX8_takeRun_32 (by decide) ?_
          refine z_icmp_ge C (by omega) (by decide) (tgt := 39) dX8_takeRun_34 (by decide) (fun hc_3 => ?_) (fun hc_3 => ?_)
          · have i4 : rdRun (inC bt cl) (8 * cl) d 3201 po 0 false = rdRun (inC bt cl) (8 * cl) d (3201 - (k + 1)).toNat q2 (g + nv) true := by
              rw [i2, show (3201 - k).toNat = (3201 - (k + 1)).toNat + 1 by omega, rdRun, if_neg hn9, if_neg (by omega), ← h1, ← h2]
            refine z_aload_n C dX8_takeRun_39 2 rfl ?_
            refine z_iconst C (z := 1) dX8_takeRun_40 ?_
            refine z_put C hinX8 tyX8 tyX8_ok nmX8 (ci := 10) rfl 0 rfl 21 (by decide) k0 rfl rfl (z_narZ true).1 (z_narZ true).2 (Nat.le_of_ble_eq_true rfl) dX8_takeRun_41 (ws' := MW cy b kd co th rw cl wr q2 dm sx aa dk fi bb cz true se da sa bt oz) rfl ?_
            refine z_goto C (tgt := 7) dX8_takeRun_44 (by decide) ?_
            refine z_lsub C [2, 3, 0] rfl ?_
            exact ih (g + nv) q2 true (k + 1) (by omega) (by omega) (i4) (by omega)
          · have i4 : rdRun (inC bt cl) (8 * cl) d 3201 po 0 false = (g + nv, q2) := by
              rw [i2, show (3201 - k).toNat = (3201 - (k + 1)).toNat + 1 by omega, rdRun, if_neg hn9, if_pos (by omega), ← h1, ← h2]
            refine z_iload_n C dX8_takeRun_37 0 rfl ?_
            refine z_iret (x := (g + nv)) C dX8_takeRun_38 h ?_ ?_ ?_ (by decide) (by decide)
            · rw [i4, trV_p (by omega)]
            · rw [i4]; exact ⟨fun z => by dsimp only at z; omega, fun z => by dsimp only at z; omega⟩
            · rw [i4]
        · rcases hcs with ⟨hn, h1, h2, h3⟩ | hcs
          rotate_left; · exfalso; omega
          have hn9 := of_decide_eq_true hn
          rw [← hd] at hn9
          have i4 : rdRun (inC bt cl) (8 * cl) d 3201 po 0 false = (if 8 * cl - q < 12 then -1 else if h then -3 else -2, q) := by
            rw [i2, show (3201 - k).toNat = (3201 - (k + 1)).toNat + 1 by omega, rdRun, if_pos hn9]
          refine z_iload_n C dX8_takeRun_25 0 rfl ?_
          refine z_iret (x := nv) C dX8_takeRun_26 h ?_ ?_ ?_ (by decide) (by decide)
          · rw [i4, h1]; split <;> (dsimp only) <;> (first | (rw [trV_1 (by omega)]) | (rw [trV_n (by split <;> omega) (by split <;> omega)]))
          · rw [i4]; dsimp only; split
            · exact ⟨fun z => by omega, fun z => by omega⟩
            · cases h
              · exact ⟨fun _ => rfl, fun z => absurd z (by decide)⟩
              · exact ⟨fun z => absurd z (by decide), fun _ => rfl⟩
          · rw [i4, h2]
      · refine z_iconst C (z := 1) dX8_takeRun_12 ?_
        refine z_goto C (tgt := 17) dX8_takeRun_13 (by decide) ?_
        refine z_callV C (As := [vI 1]) (st := []) (c_X8_takeCode l D cy tw b kd co th rw cl wr q dm sx aa dk fi bb cz h se da sa bt oz 1  (by omega) (hbt) (by omega) (by omega)) gX8_takeRun_X8_takeCode kn_X8_takeCode rfl ⟨rfl, rfl, Nat.le_of_ble_eq_true rfl, Nat.le_of_ble_eq_true rfl⟩ 0 rfl (ci := 10) rfl rfl (Nat.le_of_ble_eq_true rfl) ⟨Nat.le_of_ble_eq_true rfl, Nat.le_of_ble_eq_true rfl⟩ dX8_takeRun_17 (fun u4 hu4 => ?_)
        clear hu4; clear u4
        show V 0 0 (MW cy b kd co th rw cl wr (tkp (inC bt cl) (8 * cl) q (cB 1)) dm sx aa dk fi bb cz h se da sa bt oz) [(0, .ref (b 0)), (1, vI (b2i d)), (2, vI g)] [vI (tkc (inC bt cl) (8 * cl) q (cB 1))] 20
        obtain ⟨q2, eq2⟩ : ∃ z, z = (tkp (inC bt cl) (8 * cl) q (cB 1)) := ⟨_, rfl⟩
        rw [← eq2]
        refine z_nmI (fun nv env => ?_)
        refine z_istore_n C (lv' := [(3, vI nv), (0, .ref (b 0)), (1, vI (b2i d)), (2, vI g)]) dX8_takeRun_20 rfl (by decide) rfl ?_
        have hd : d = cB 1 := by rw [cd]; rfl
        have hcs := tkc_cases (inC bt cl) (T := 8 * cl) (p := q) (cB 1) (by omega)
        rw [← env, ← eq2] at hcs
        
        refine z_iload_n C dX8_takeRun_21 0 rfl ?_
        refine z_if_ge C (by omega) (tgt := 27) dX8_takeRun_22 (by decide) (fun hc_5 => ?_) (fun hc_5 => ?_)
        · rcases hcs with hcs | ⟨hn, h1, h2, h3, h5, h6, h7, h8⟩
          · exfalso; omega
          have hn9 := fun z => hn (decide_eq_true z)
          rw [← hd] at hn9 h1 h2 h8
          refine z_iload_n C dX8_takeRun_27 3 rfl ?_
          refine z_iload_n C dX8_takeRun_28 0 rfl ?_
          refine z_iadd C dX8_takeRun_29 ?_
          refine z_istore_n C (lv' := [(2, vI (g + nv)), (3, vI nv), (0, .ref (b 0)), (1, vI (b2i d))]) dX8_takeRun_30 rfl (by decide) rfl ?_
          refine z_iload_n C dX8_takeRun_31 1 rfl ?_
          refine z_bipush C (z := 64) dX8_takeRun_32 (by decide) ?_
          refine z_icmp_ge C (by omega) (by decide) (tgt := 39) dX8_takeRun_34 (by decide) (fun hc_6 => ?_) (fun hc_6 => ?_)
          · have i4 : rdRun (inC bt cl) (8 * cl) d 3201 po 0 false = rdRun (inC bt cl) (8 * cl) d (3201 - (k + 1)).toNat q2 (g + nv) true := by
              rw [i2, show (3201 - k).toNat = (3201 - (k + 1)).toNat + 1 by omega, rdRun, if_neg hn9, if_neg (by omega), ← h1, ← h2]
            refine z_aload_n C dX8_takeRun_39 2 rfl ?_
            refine z_iconst C (z := 1) dX8_takeRun_40 ?_
            refine z_put C hinX8 tyX8 tyX8_ok nmX8 (ci := 10) rfl 0 rfl 21 (by decide) k0 rfl rfl (z_narZ true).1 (z_narZ true).2 (Nat.le_of_ble_eq_true rfl) dX8_takeRun_41 (ws' := MW cy b kd co th rw cl wr q2 dm sx aa dk fi bb cz true se da sa bt oz) rfl ?_
            refine z_goto C (tgt := 7) dX8_takeRun_44 (by decide) ?_
            refine z_lsub C [2, 3, 0] rfl ?_
            exact ih (g + nv) q2 true (k + 1) (by omega) (by omega) (i4) (by omega)
          · have i4 : rdRun (inC bt cl) (8 * cl) d 3201 po 0 false = (g + nv, q2) := by
              rw [i2, show (3201 - k).toNat = (3201 - (k + 1)).toNat + 1 by omega, rdRun, if_neg hn9, if_pos (by omega), ← h1, ← h2]
            refine z_iload_n C dX8_takeRun_37 0 rfl ?_
            refine z_iret (x := (g + nv)) C dX8_takeRun_38 h ?_ ?_ ?_ (by decide) (by decide)
            · rw [i4, trV_p (by omega)]
            · rw [i4]; exact ⟨fun z => by dsimp only at z; omega, fun z => by dsimp only at z; omega⟩
            · rw [i4]
        · rcases hcs with ⟨hn, h1, h2, h3⟩ | hcs
          rotate_left; · exfalso; omega
          have hn9 := of_decide_eq_true hn
          rw [← hd] at hn9
          have i4 : rdRun (inC bt cl) (8 * cl) d 3201 po 0 false = (if 8 * cl - q < 12 then -1 else if h then -3 else -2, q) := by
            rw [i2, show (3201 - k).toNat = (3201 - (k + 1)).toNat + 1 by omega, rdRun, if_pos hn9]
          refine z_iload_n C dX8_takeRun_25 0 rfl ?_
          refine z_iret (x := nv) C dX8_takeRun_26 h ?_ ?_ ?_ (by decide) (by decide)
          · rw [i4, h1]; split <;> (dsimp only) <;> (first | (rw [trV_1 (by omega)]) | (rw [trV_n (by split <;> omega) (by split <;> omega)]))
          · rw [i4]; dsimp only; split
            · exact ⟨fun z => by omega, fun z => by omega⟩
            · cases h
              · exact ⟨fun _ => rfl, fun z => absurd z (by decide)⟩
              · exact ⟨fun z => absurd z (by decide), fun _ => rfl⟩
          · rw [i4, h2]
  refine z_lsub C [1, 2, 0] rfl ?_
  exact J7 _ 0 po false 0 (by omega) (by omega) (rfl) (Nat.lt_succ_self _)
