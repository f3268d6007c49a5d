theorem kn_X8_takeCode : zKn yX8_takeCode wsX8_takeCode cX8_takeCode 4 (some .int) 1 := ⟨⟨_, rfl⟩, by decide +kernel, by decide +kernel, by decide +kernel⟩
set_option maxHeartbeats 1000000 in
set_option maxRecDepth 100000 in
theorem c_X8_takeCode (l : Launch) (D : va_G) (cy : Nat → ClassId) (tw : Nat → Nat) (b : Nat → Nat) (kd : Int) (co : Int) (th : Int) (rw : Int) (cl : Int) (wr : Int) (po : Int) (dm : Int) (sx : Int) (aa : Int) (dk : Bool) (fi : Bool) (bb : Int) (cz : Int) (hm : Bool) (se : Nat → Bool) (da : Nat → Bool) (sa : Nat → Int) (bt : Nat → Int) (oz : Nat → Bool) (y : Int)  (hcl : 0 ≤ cl ∧ cl ≤ 400) (hbt : ∀ j : Nat, 0 ≤ bt j ∧ bt j < 256) (hpo : 0 ≤ po ∧ po ≤ 8 * cl) (hy : 0 ≤ y ∧ y ≤ 1) : zMet l yX8_takeCode wsX8_takeCode { frames := 2, cells := 0, slots := 0, locals := 45 } D (zT cy) tw (MW cy b kd co th rw cl wr po dm sx aa dk fi bb cz hm se da sa bt oz) [.ref (b 0), vI y] 0 0 (S := Unit) (fun _ => some (vI (tkc (inC bt cl) (8 * cl) po (cB y)))) (fun _ => MW cy b kd co th rw cl wr (tkp (inC bt cl) (8 * cl) po (cB y)) dm sx aa dk fi bb cz hm se da sa bt oz) (fun _ => True) := by
  refine z_met (cc := cX8_takeCode) (nL := 4) (ret := some .int) (by decide +kernel) rfl (Nat.le_of_ble_eq_true rfl) (lv := [(0, .ref (b 0)), (1, vI y)]) rfl ?_
  intro V p_ e_ s_ m_ args_ below_ meth_ c_ A_ C hmn
  have hinX8 : ∀ w ∈ u_ws RX8 TX8 22, w ∈ wsX8_takeCode := by decide +kernel
  have k0 : Cond.fieldLink RX8 7 "FaxFilterModel" "code" "[I" ∈ wsX8_takeCode := List.mem_of_getElem? (i := 1) rfl
  have k1 : Cond.fieldLink RX8 13 "FaxFilterModel" "bits" "[I" ∈ wsX8_takeCode := List.mem_of_getElem? (i := 2) rfl
  have k2 : Cond.fieldLink RX8 69 "FaxFilterModel" "place" "I" ∈ wsX8_takeCode := List.mem_of_getElem? (i := 3) rfl
  refine z_iconst C (z := 0) dX8_takeCode_0 ?_
  refine z_istore_n C (lv' := [(2, vI 0), (0, .ref (b 0)), (1, vI y)]) dX8_takeCode_1 rfl (by decide) rfl ?_
  have J2 : ∀ (f : Nat) (n : Int), (0 ≤ n ∧ n ≤ 641) → (∀ j : Int, 0 ≤ j → j < n → isR j = true → ¬ (slI (inC bt cl) po (cB y) = slI' j ∧ lenC (cB y) (slI' j) ≤ 8 * cl - po)) → (641 - n).toNat < f → V 0 0 (MW cy b kd co th rw cl wr po dm sx aa dk fi bb cz hm se da sa bt oz) [(0, .ref (b 0)), (1, vI y), (2, vI n)] [] 2 := by
    intro f
    induction f with
    | zero => intro n i0 i1 hf; exact absurd hf (Nat.not_lt_zero _)
    | succ f ih =>
      intro n i0 i1 hf
      refine z_iload_n C dX8_takeCode_2 2 rfl ?_
      refine z_sipush C (z := 640) dX8_takeCode_3 (by decide) ?_
      refine z_icmp_gt C (by omega) (by decide) (tgt := 66) dX8_takeCode_6 (by decide) (fun hc_1 => ?_) (fun hc_1 => ?_)
      · have hnt : tkN (inC bt cl) (8 * cl) po (cB y) = true := by
          unfold tkN
          apply decide_eq_true
          rcases slI_rg (inC bt cl) po (cB y) with e | e
          · left; omega
          · right
            have hr := runN_rg e
            exact Int.lt_of_not_ge fun z => i1 _ hr.1 (by omega) (sl_runN e).1 ⟨(sl_runN e).2.symm, by rw [(sl_runN e).2]; exact z⟩
        refine z_aload_n C dX8_takeCode_66 0 rfl ?_
        refine z_callV C (As := []) (st := []) (c_X8_left l D cy tw b kd co th rw cl wr po dm sx aa dk fi bb cz hm se da sa bt oz   ) gX8_takeCode_X8_left kn_X8_left rfl ⟨rfl, rfl, Nat.le_of_ble_eq_true rfl, Nat.le_of_ble_eq_true rfl⟩ 0 rfl (ci := 10) rfl rfl (Nat.le_of_ble_eq_true rfl) ⟨Nat.le_of_ble_eq_true rfl, Nat.le_of_ble_eq_true rfl⟩ dX8_takeCode_67 (fun u2 hu2 => ?_)
        clear hu2; clear u2
        show V 0 0 (MW cy b kd co th rw cl wr po dm sx aa dk fi bb cz hm se da sa bt oz) [(0, .ref (b 0)), (1, vI y), (2, vI n)] [vI (8 * cl - po)] 70
        refine z_bipush C (z := 12) dX8_takeCode_70 (by decide) ?_
        refine z_icmp_ge C (by omega) (by decide) (tgt := 80) dX8_takeCode_72 (by decide) (fun hc_3 => ?_) (fun hc_3 => ?_)
        · refine z_iconst C (z := (-1)) dX8_takeCode_80 ?_
          refine z_iret (x := (-1)) C dX8_takeCode_81 () ?_ ?_ ?_ (by decide) (by decide)
          · rw [tkc, if_pos hnt, if_neg (by omega)]
          · exact trivial
          · rw [tkp, if_pos hnt]
        · refine z_bipush C (z := (-2)) dX8_takeCode_75 (by decide) ?_
          refine z_goto C (tgt := 81) dX8_takeCode_77 (by decide) ?_
          refine z_iret (x := (-2)) C dX8_takeCode_81 () ?_ ?_ ?_ (by decide) (by decide)
          · rw [tkc, if_pos hnt, if_pos (by omega)]
          · exact trivial
          · rw [tkp, if_pos hnt]
      · refine z_sipush C (z := 704) dX8_takeCode_9 (by decide) ?_
        refine z_iload_n C dX8_takeCode_12 1 rfl ?_
        refine z_imul C dX8_takeCode_13 ?_
        refine z_iload_n C dX8_takeCode_14 2 rfl ?_
        refine z_iadd C dX8_takeCode_15 ?_
        refine z_istore_n C (lv' := [(3, vI ((704 * y) + n)), (0, .ref (b 0)), (1, vI y), (2, vI n)]) dX8_takeCode_16 rfl (by decide) rfl ?_
        refine z_iload_n C dX8_takeCode_17 3 rfl ?_
        refine z_callS C (As := [vI n]) (st := []) (c_X8_isRun l D cy tw b kd co th rw cl wr po dm sx aa dk fi bb cz hm se da sa bt oz n  (by omega)) gX8_takeCode_X8_isRun kn_X8_isRun ⟨rfl, rfl, Nat.le_of_ble_eq_true rfl, Nat.le_of_ble_eq_true rfl⟩ rfl (Nat.le_of_ble_eq_true rfl) ⟨Nat.le_of_ble_eq_true rfl, Nat.le_of_ble_eq_true rfl⟩ dX8_takeCode_18 (fun u4 hu4 => ?_)
        clear hu4; clear u4
        show V 0 0 (MW cy b kd co th rw cl wr po dm sx aa dk fi bb cz hm se da sa bt oz) [(3, vI ((704 * y) + n)), (0, .ref (b 0)), (1, vI y), (2, vI n)] [vI (b2i (isR n))] 21
        refine z_ifz C (tgt := 60) dX8_takeCode_21 (by decide) (fun ci => ?_) (fun ci => ?_)
        · refine z_iinc C (lv' := [(2, vI (n + 1)), (3, vI ((704 * y) + n)), (0, .ref (b 0)), (1, vI y)]) dX8_takeCode_60 3 rfl (by decide) rfl ?_
          refine z_goto C (tgt := 2) dX8_takeCode_63 (by decide) ?_
          refine z_lsub C [2, 3, 0] rfl ?_
          exact ih (n + 1) (by omega) (fun j h1 h2 h3 => (by omega : j < n ∨ j = n).elim (fun z => i1 j h1 z h3) (fun z => by rw [z, ci] at h3; cases h3)) (by omega)
        · have hi9 := isR_rg ci
          obtain ⟨e1, e2⟩ := mCB_at (c := y) ci hy
          have hsl := runN_sl ci
          have hl := lenC_2 (d := cB y) hsl.2
          have hc9 := codC_rg (cB y) (slI' n)
          have hcl9 := cod_lt (cB y) (slI' n).toNat (by omega)
          rw [show (((slI' n).toNat : Nat) : Int) = slI' n by omega] at hcl9
          refine z_aload_n C dX8_takeCode_24 1 rfl ?_
          refine z_aload_n C dX8_takeCode_25 1 rfl ?_
          refine z_get C hinX8 (ci := 10) rfl 0 rfl 3 (by decide) k0 rfl (v := .ref (b 1)) rfl dX8_takeCode_26 ?_
          refine z_iload_n C dX8_takeCode_29 0 rfl ?_
          refine z_iald C 1 1 (g := mC) rfl rfl (by omega) (by omega) (by decide) dX8_takeCode_30 ?_
          refine z_aload_n C dX8_takeCode_31 1 rfl ?_
          refine z_get C hinX8 (ci := 10) rfl 0 rfl 4 (by decide) k1 rfl (v := .ref (b 2)) rfl dX8_takeCode_32 ?_
          refine z_iload_n C dX8_takeCode_35 0 rfl ?_
          refine z_iald C 2 1 (g := mB) rfl rfl (by omega) (by omega) (by decide) dX8_takeCode_36 ?_
          refine z_callV C (As := [vI (mC ((704 * y) + n : Int).toNat), vI (mB ((704 * y) + n : Int).toNat)]) (st := []) (c_X8_begins l D cy tw b kd co th rw cl wr po dm sx aa dk fi bb cz hm se da sa bt oz (mC ((704 * y) + n : Int).toNat) (mB ((704 * y) + n : Int).toNat)  (by omega) (hbt) (by omega) (by omega) (by rw [e1, e2]; exact ⟨hc9.1, hc9.2, hcl9⟩)) gX8_takeCode_X8_begins kn_X8_begins rfl ⟨rfl, rfl, Nat.le_of_ble_eq_true rfl, Nat.le_of_ble_eq_true rfl⟩ 0 rfl (ci := 10) rfl rfl (Nat.le_of_ble_eq_true rfl) ⟨Nat.le_of_ble_eq_true rfl, Nat.le_of_ble_eq_true rfl⟩ dX8_takeCode_37 (fun u5 hu5 => ?_)
          clear hu5; clear u5
          show V 0 0 (MW cy b kd co th rw cl wr po dm sx aa dk fi bb cz hm se da sa bt oz) [(3, vI ((704 * y) + n)), (0, .ref (b 0)), (1, vI y), (2, vI n)] [vI (b2i (decide ((mB ((704 * y) + n : Int).toNat) ≤ 8 * cl - po ∧ pkI (inC bt cl) po ((mB ((704 * y) + n : Int).toNat) : Int).toNat = (mC ((704 * y) + n : Int).toNat))))] 40
          refine z_ifz C (tgt := 60) dX8_takeCode_40 (by decide) (fun cb => ?_) (fun cb => ?_)
          · refine z_iinc C (lv' := [(2, vI (n + 1)), (3, vI ((704 * y) + n)), (0, .ref (b 0)), (1, vI y)]) dX8_takeCode_60 3 rfl (by decide) rfl ?_
            refine z_goto C (tgt := 2) dX8_takeCode_63 (by decide) ?_
            refine z_lsub C [2, 3, 0] rfl ?_
            exact ih (n + 1) (by omega) (fun j h1 h2 h3 => (by omega : j < n ∨ j = n).elim (fun z => i1 j h1 z h3) (fun z => by rw [z]; rintro ⟨q1, q2⟩; exact (of_decide_eq_false cb) ⟨by rw [e2]; exact q2, by rw [e1, e2]; exact (slot_iff (inC bt cl) po (cB y) hsl.2).mpr q1⟩)) (by omega)
          · have hb := of_decide_eq_true cb
            rw [e1, e2] at hb
            have hq := (slot_iff (inC bt cl) po (cB y) hsl.2).mp hb.2
            have hnt : ¬ tkN (inC bt cl) (8 * cl) po (cB y) = true := by unfold tkN; rw [hq, decide_eq_false (by omega)]; decide
            refine z_aload_n C dX8_takeCode_43 1 rfl ?_
            refine z_aload_n C dX8_takeCode_44 1 rfl ?_
            refine z_get C hinX8 (ci := 10) rfl 0 rfl 13 (by decide) k2 rfl (v := vI po) rfl dX8_takeCode_45 ?_
            refine z_aload_n C dX8_takeCode_48 1 rfl ?_
            refine z_get C hinX8 (ci := 10) rfl 0 rfl 4 (by decide) k1 rfl (v := .ref (b 2)) rfl dX8_takeCode_49 ?_
            refine z_iload_n C dX8_takeCode_52 0 rfl ?_
            refine z_iald C 2 1 (g := mB) rfl rfl (by omega) (by omega) (by decide) dX8_takeCode_53 ?_
            refine z_iadd C dX8_takeCode_54 ?_
            refine z_put C hinX8 tyX8 tyX8_ok nmX8 (ci := 10) rfl 0 rfl 13 (by decide) k2 rfl rfl rfl rfl (Nat.le_of_ble_eq_true rfl) dX8_takeCode_55 (ws' := MW cy b kd co th rw cl wr (po + (mB ((704 * y) + n : Int).toNat)) dm sx aa dk fi bb cz hm se da sa bt oz) rfl ?_
            refine z_iload_n C dX8_takeCode_58 3 rfl ?_
            refine z_iret (x := n) C dX8_takeCode_59 () ?_ ?_ ?_ (by decide) (by decide)
            · rw [tkc, if_neg hnt, hq, hsl.1]
            · exact trivial
            · rw [tkp, if_neg hnt, hq, e2]
  refine z_lsub C [1, 2, 0] rfl ?_
  exact J2 _ 0 (by omega) (fun j h1 h2 => by omega) (Nat.lt_succ_self _)
