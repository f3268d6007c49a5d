def hdV (h : Bool × Bool × Int) : Int := if h.1 = true then b2i h.2.1 else -1
theorem bitC_in (bt : Nat → Int) (sz i : Int) : bitC bt sz i = b2i (inC bt sz i) := by
  have h := bitC_01 bt sz i
  by_cases z : bitC bt sz i = 0
  · rw [inC_f z, z]; rfl
  · rw [inC_t z, b2i_t]; omega
def rpM (da : Nat → Bool) (r : Int) (sv : Bool) (x : Int) : Nat → Bool := fun j => if 700 * r ≤ (j : Int) ∧ (j : Int) < 700 * r + x then (sv && (decide (0 < r) && da (j - 700))) else da j
theorem rpM_0 (da : Nat → Bool) (r : Int) (sv : Bool) : rpM da r sv 0 = da := by funext j; rw [rpM, if_neg (by omega)]
theorem rpM_s {da : Nat → Bool} {r x : Int} {sv v : Bool} (h0 : 0 ≤ r) (hx : 0 ≤ x) (hv : v = (sv && (decide (0 < r) && da (700 * (r - 1) + x : Int).toNat))) : va_up (rpM da r sv x) (700 * r + x : Int).toNat v = rpM da r sv (x + 1) := by
  funext j
  unfold va_up rpM
  by_cases e : j = (700 * r + x : Int).toNat
  · rw [if_pos e, if_pos (by omega), hv]
    by_cases hr : 0 < r
    · rw [show (700 * (r - 1) + x : Int).toNat = j - 700 by omega]
    · rw [decide_eq_false hr, Bool.false_and, Bool.false_and]
  · rw [if_neg e]
    by_cases q : 700 * r ≤ (j : Int) ∧ (j : Int) < 700 * r + x
    · rw [if_pos q, if_pos (by omega)]
    · rw [if_neg q, if_neg (by omega)]
theorem rpM_lo {da : Nat → Bool} {r x y : Int} {sv : Bool} (hx : x < 700) : rpM da r sv y (700 * (r - 1) + x : Int).toNat = da (700 * (r - 1) + x : Int).toNat ∨ r ≤ 0 := by
  rcases Int.lt_or_le 0 r with h | h
  · left; rw [rpM, if_neg (by omega)]
  · right; exact h
theorem RM_rp {da w : Nat → Bool} {co r : Int} {g : Int → Bool} (sv : Bool) (hr : 0 ≤ r) (hco : 1 ≤ co ∧ co ≤ 700) (h : RM da w co r g) : RM da (rpM w r sv co) co r (fun j => if sv = true then pd da (r - 1) j else false) := by
  have hi : ∀ r' j : Int, 0 ≤ r' → 0 ≤ j → j < 700 → (700 * r ≤ ((700 * r' + j : Int).toNat : Int) ∧ ((700 * r' + j : Int).toNat : Int) < 700 * r + co ↔ r' = r ∧ 0 ≤ j ∧ j < co) := fun r' j h1 h2 h3 => by
    have := pd_ix (r := r) (r' := r') (x := 0) (y := co) (j := j) (Int.le_refl 0) hco.2 h2 h3
    rw [show ((700 * r' + j : Int).toNat : Int) = 700 * r' + j by omega]
    rw [Int.add_zero] at this
    exact this
  refine ⟨fun j h0 h1 => ?_, fun r' j hn hj => ?_⟩
  · rw [pd_in ⟨hr, h0⟩, rpM, if_pos ((hi r j hr h0 (by omega)).mpr ⟨rfl, h0, h1⟩)]
    show (sv && (decide (0 < r) && w ((700 * r + j : Int).toNat - 700))) = if sv = true then pd da (r - 1) j else false
    rw [← h.2 (r - 1) j (by omega) (by omega)]
    by_cases h9 : 0 < r
    · rw [pd_in (by omega), decide_eq_true h9, show (700 * (r - 1) + j : Int).toNat = (700 * r + j : Int).toNat - 700 by omega]
      cases sv <;> rfl
    · rw [pd_out (by omega), decide_eq_false h9]
      cases sv <;> rfl
  · rw [← h.2 r' j hn hj]
    by_cases h9 : 0 ≤ r' ∧ 0 ≤ j
    · rw [pd_in h9, pd_in h9, rpM, if_neg (fun z => hn ((hi r' j h9.1 h9.2 hj).mp z).1)]
    · rw [pd_out h9, pd_out h9]
theorem kn_X8_readHead : zKn yX8_readHead wsX8_readHead cX8_readHead 2 (some .int) 0 := ⟨⟨_, rfl⟩, by decide +kernel, by decide +kernel, by decide +kernel⟩
set_option maxHeartbeats 1000000 in
set_option maxRecDepth 100000 in
theorem c_X8_readHead (l : Launch) (D : va_G) (cy : Nat → ClassId) (tw : Nat → Nat) (b : Nat → Nat) (kd : Int) (co : Int) (th : Int) (rw : Int) (cl : Int) (wr : Int) (po : Int) (dm : Int) (sx : Int) (aa : Int) (dk : Bool) (fi : Bool) (bb : Int) (cz : Int) (hm : Bool) (se : Nat → Bool) (da : Nat → Bool) (sa : Nat → Int) (bt : Nat → Int) (oz : Nat → Bool)   (hk : 0 ≤ kd ∧ kd ≤ 2) (hcl : 0 ≤ cl ∧ cl ≤ 400) (hbt : ∀ j : Nat, 0 ≤ bt j ∧ bt j < 256) (hpo : 0 ≤ po ∧ po ≤ 8 * cl) : zMet l yX8_readHead wsX8_readHead { frames := 3, cells := 0, slots := 0, locals := 63 } D (zT cy) tw (MW cy b kd co th rw cl wr po dm sx aa dk fi bb cz hm se da sa bt oz) [.ref (b 0)] 0 0 (S := Unit) (fun _ => some (vI (hdV (hd (inC bt cl) (8 * cl) kd (se 0) (se 1) po)))) (fun _ => MW cy b kd co th rw cl wr ((hd (inC bt cl) (8 * cl) kd (se 0) (se 1) po).2.2) dm sx aa dk fi bb cz hm se da sa bt oz) (fun _ => True) := by
  refine z_met (cc := cX8_readHead) (nL := 2) (ret := some .int) (by decide +kernel) rfl (Nat.le_of_ble_eq_true rfl) (lv := [(0, .ref (b 0))]) rfl ?_
  intro V p_ e_ s_ m_ args_ below_ meth_ c_ A_ C hmn
  have hinX8 : ∀ w ∈ u_ws RX8 TX8 22, w ∈ wsX8_readHead := by decide +kernel
  have k0 : Cond.fieldLink RX8 33 "FaxFilterModel" "kind" "I" ∈ wsX8_readHead := List.mem_of_getElem? (i := 1) rfl
  have k1 : Cond.fieldLink RX8 16 "FaxFilterModel" "settings" "[Z" ∈ wsX8_readHead := List.mem_of_getElem? (i := 3) rfl
  have k2 : Cond.fieldLink RX8 69 "FaxFilterModel" "place" "I" ∈ wsX8_readHead := List.mem_of_getElem? (i := 2) rfl
  refine z_aload_n C dX8_readHead_0 0 rfl ?_
  refine z_get C hinX8 (ci := 10) rfl 0 rfl 1 (by decide) k0 rfl (v := vI kd) rfl dX8_readHead_1 ?_
  refine z_iconst C (z := 2) dX8_readHead_4 ?_
  refine z_icmp_ne C (by omega) (by decide) (tgt := 12) dX8_readHead_5 (by decide) (fun hc_1 => ?_) (fun hc_1 => ?_)
  · refine z_iconst C (z := 1) dX8_readHead_12 ?_
    refine z_istore_n C (lv' := [(1, vI 1), (0, .ref (b 0))]) dX8_readHead_13 rfl (by decide) rfl ?_
    refine z_aload_n C dX8_readHead_14 1 rfl ?_
    refine z_callV C (As := []) (st := []) (c_X8_hasMarks l D cy tw b kd co th rw cl wr po dm sx aa dk fi bb cz hm se da sa bt oz   (by omega)) gX8_readHead_X8_hasMarks kn_X8_hasMarks rfl ⟨rfl, rfl, Nat.le_of_ble_eq_true rfl, Nat.le_of_ble_eq_true rfl⟩ 0 rfl (ci := 10) rfl rfl (Nat.le_of_ble_eq_true rfl) ⟨Nat.le_of_ble_eq_true rfl, Nat.le_of_ble_eq_true rfl⟩ dX8_readHead_15 (fun u2 hu2 => ?_)
    clear hu2; clear u2
    show V 0 0 (MW cy b kd co th rw cl wr po dm sx aa dk fi bb cz hm se da sa bt oz) [(1, vI 1), (0, .ref (b 0))] [vI (b2i (hasMk kd (se 0)))] 18
    refine z_ifz C (tgt := 79) dX8_readHead_18 (by decide) (fun cm => ?_) (fun cm => ?_)
    · have hk1 : ¬ kd = 1 := by intro z; rw [hasMk, decide_eq_true z] at cm; exact absurd cm (by simp)
      refine z_aload_n C dX8_readHead_79 1 rfl ?_
      refine z_get C hinX8 (ci := 10) rfl 0 rfl 5 (by decide) k1 rfl (v := .ref (b 3)) rfl dX8_readHead_80 ?_
      refine z_iconst C (z := 1) dX8_readHead_83 ?_
      refine z_zald C 3 3 (g := se) rfl rfl (by omega) (by omega) (by decide) dX8_readHead_84 ?_
      refine z_ifz C (tgt := 105) dX8_readHead_85 (by decide) (fun ca => ?_) (fun ca => ?_)
      · refine z_aload_n C dX8_readHead_105 1 rfl ?_
        refine z_get C hinX8 (ci := 10) rfl 0 rfl 1 (by decide) k0 rfl (v := vI kd) rfl dX8_readHead_106 ?_
        refine z_iconst C (z := 2) dX8_readHead_109 ?_
        refine z_icmp_ne C (by omega) (by decide) (tgt := 124) dX8_readHead_110 (by decide) (fun hc_3 => ?_) (fun hc_3 => ?_)
        · refine z_iload_n C dX8_readHead_124 0 rfl ?_
          refine z_iret (x := 1) C dX8_readHead_125 () ?_ ?_ ?_ (by decide) (by decide)
          · have i4 : hd (inC bt cl) (8 * cl) kd (se 0) (se 1) po = (true, true, po) := by
              rw [hd, cm, if_neg (by decide), if_neg (by omega), show se 1 = _ from ca, if_neg (by decide)]
            rw [i4]; rfl
          · have i4 : hd (inC bt cl) (8 * cl) kd (se 0) (se 1) po = (true, true, po) := by
              rw [hd, cm, if_neg (by decide), if_neg (by omega), show se 1 = _ from ca, if_neg (by decide)]
            trivial
          · have i4 : hd (inC bt cl) (8 * cl) kd (se 0) (se 1) po = (true, true, po) := by
              rw [hd, cm, if_neg (by decide), if_neg (by omega), show se 1 = _ from ca, if_neg (by decide)]
            rw [i4]
        · exfalso; omega
      · refine z_aload_n C dX8_readHead_88 1 rfl ?_
        refine z_aload_n C dX8_readHead_89 1 rfl ?_
        refine z_get C hinX8 (ci := 10) rfl 0 rfl 13 (by decide) k2 rfl (v := vI po) rfl dX8_readHead_90 ?_
        refine z_bipush C (z := 7) dX8_readHead_93 (by decide) ?_
        refine z_iadd C dX8_readHead_95 ?_
        refine z_bipush C (z := 8) dX8_readHead_96 (by decide) ?_
        refine z_idiv C dX8_readHead_98 (by omega) (by decide) ?_
        refine z_bipush C (z := 8) dX8_readHead_99 (by decide) ?_
        refine z_imul C dX8_readHead_101 ?_
        refine z_put C hinX8 tyX8 tyX8_ok nmX8 (ci := 10) rfl 0 rfl 13 (by decide) k2 rfl rfl rfl rfl (Nat.le_of_ble_eq_true rfl) dX8_readHead_102 (ws' := MW cy b kd co th rw cl wr (((po + 7) / 8) * 8) dm sx aa dk fi bb cz hm se da sa bt oz) rfl ?_
        obtain ⟨p3, ep3⟩ : ∃ z, z = (((po + 7) / 8) * 8) := ⟨_, rfl⟩
        rw [← ep3]
        refine z_aload_n C dX8_readHead_105 1 rfl ?_
        have hp3 : p3 = po + -po % 2 ^ 3 := by omega
        refine z_get C hinX8 (ci := 10) rfl 0 rfl 1 (by decide) k0 rfl (v := vI kd) rfl dX8_readHead_106 ?_
        refine z_iconst C (z := 2) dX8_readHead_109 ?_
        refine z_icmp_ne C (by omega) (by decide) (tgt := 124) dX8_readHead_110 (by decide) (fun hc_4 => ?_) (fun hc_4 => ?_)
        · refine z_iload_n C dX8_readHead_124 0 rfl ?_
          refine z_iret (x := 1) C dX8_readHead_125 () ?_ ?_ ?_ (by decide) (by decide)
          · have i4 : hd (inC bt cl) (8 * cl) kd (se 0) (se 1) po = (true, true, p3) := by
              rw [hd, cm, if_neg (by decide), if_neg (by omega), show se 1 = _ from ca, if_pos rfl, ← hp3]
            rw [i4]; rfl
          · have i4 : hd (inC bt cl) (8 * cl) kd (se 0) (se 1) po = (true, true, p3) := by
              rw [hd, cm, if_neg (by decide), if_neg (by omega), show se 1 = _ from ca, if_pos rfl, ← hp3]
            trivial
          · have i4 : hd (inC bt cl) (8 * cl) kd (se 0) (se 1) po = (true, true, p3) := by
              rw [hd, cm, if_neg (by decide), if_neg (by omega), show se 1 = _ from ca, if_pos rfl, ← hp3]
            rw [i4]
        · exfalso; omega
    · have hk2 : kd = 0 ∨ kd = 1 := by rw [hasMk] at cm; simp only [Bool.or_eq_true, Bool.and_eq_true, decide_eq_true_eq] at cm; omega
      refine z_aload_n C dX8_readHead_21 1 rfl ?_
      refine z_callV C (As := []) (st := []) (c_X8_findMark l D cy tw b kd co th rw cl wr po dm sx aa dk fi bb cz hm se da sa bt oz   (by omega) (hbt) (by omega)) gX8_readHead_X8_findMark kn_X8_findMark rfl ⟨rfl, rfl, Nat.le_of_ble_eq_true rfl, Nat.le_of_ble_eq_true rfl⟩ 0 rfl (ci := 10) rfl rfl (Nat.le_of_ble_eq_true rfl) ⟨Nat.le_of_ble_eq_true rfl, Nat.le_of_ble_eq_true rfl⟩ dX8_readHead_22 (fun u5 hu5 => ?_)
      clear hu5; clear u5
      show V 0 0 (MW cy b kd co th rw cl wr (if 0 ≤ fmk (inC bt cl) (8 * cl) po 0 then fmk (inC bt cl) (8 * cl) po 0 else 8 * cl) dm sx aa dk fi bb cz hm se da sa bt oz) [(1, vI 1), (0, .ref (b 0))] [vI (b2i (decide (0 ≤ fmk (inC bt cl) (8 * cl) po 0)))] 25
      have hfr := fmk_rg (inC bt cl) (8 * cl) po 0
      obtain ⟨p1, ep1⟩ : ∃ z, z = (if 0 ≤ fmk (inC bt cl) (8 * cl) po 0 then fmk (inC bt cl) (8 * cl) po 0 else 8 * cl) := ⟨_, rfl⟩
      rw [← ep1]
      refine z_ifnz C (tgt := 30) dX8_readHead_25 (by decide) (fun ck => ?_) (fun ck => ?_)
      · have hf := of_decide_eq_true ck
        rw [if_pos hf] at ep1
        have hp1 := ep1
        refine z_aload_n C dX8_readHead_30 1 rfl ?_
        refine z_get C hinX8 (ci := 10) rfl 0 rfl 1 (by decide) k0 rfl (v := vI kd) rfl dX8_readHead_31 ?_
        refine z_iconst C (z := 1) dX8_readHead_34 ?_
        refine z_icmp_ne C (by omega) (by decide) (tgt := 66) dX8_readHead_35 (by decide) (fun hc_6 => ?_) (fun hc_6 => ?_)
        · refine z_aload_n C dX8_readHead_66 1 rfl ?_
          refine z_callV C (As := []) (st := []) (c_X8_isMarkHere l D cy tw b kd co th rw cl wr p1 dm sx aa dk fi bb cz hm se da sa bt oz   (by omega) (hbt) (by omega)) gX8_readHead_X8_isMarkHere kn_X8_isMarkHere rfl ⟨rfl, rfl, Nat.le_of_ble_eq_true rfl, Nat.le_of_ble_eq_true rfl⟩ 0 rfl (ci := 10) rfl rfl (Nat.le_of_ble_eq_true rfl) ⟨Nat.le_of_ble_eq_true rfl, Nat.le_of_ble_eq_true rfl⟩ dX8_readHead_67 (fun u7 hu7 => ?_)
          clear hu7; clear u7
          show V 0 0 (MW cy b kd co th rw cl wr p1 dm sx aa dk fi bb cz hm se da sa bt oz) [(1, vI 1), (0, .ref (b 0))] [vI (b2i (isMk (inC bt cl) (8 * cl) p1))] 70
          refine z_ifz C (tgt := 77) dX8_readHead_70 (by decide) (fun ci => ?_) (fun ci => ?_)
          · refine z_iload_n C dX8_readHead_77 0 rfl ?_
            refine z_iret (x := 1) C dX8_readHead_78 () ?_ ?_ ?_ (by decide) (by decide)
            · have i4 : hd (inC bt cl) (8 * cl) kd (se 0) (se 1) po = (!isMk (inC bt cl) (8 * cl) p1, true, p1) := by
                rw [hd, cm, if_pos rfl, if_neg (by omega), if_neg (by omega), ← hp1]
              rw [ci] at i4
              rw [i4]; rfl
            · have i4 : hd (inC bt cl) (8 * cl) kd (se 0) (se 1) po = (!isMk (inC bt cl) (8 * cl) p1, true, p1) := by
                rw [hd, cm, if_pos rfl, if_neg (by omega), if_neg (by omega), ← hp1]
              rw [ci] at i4
              trivial
            · have i4 : hd (inC bt cl) (8 * cl) kd (se 0) (se 1) po = (!isMk (inC bt cl) (8 * cl) p1, true, p1) := by
                rw [hd, cm, if_pos rfl, if_neg (by omega), if_neg (by omega), ← hp1]
              rw [ci] at i4
              rw [i4]
          · refine z_iconst C (z := (-1)) dX8_readHead_73 ?_
            refine z_goto C (tgt := 78) dX8_readHead_74 (by decide) ?_
            refine z_iret (x := (-1)) C dX8_readHead_78 () ?_ ?_ ?_ (by decide) (by decide)
            · have i4 : hd (inC bt cl) (8 * cl) kd (se 0) (se 1) po = (!isMk (inC bt cl) (8 * cl) p1, true, p1) := by
                rw [hd, cm, if_pos rfl, if_neg (by omega), if_neg (by omega), ← hp1]
              rw [ci] at i4
              rw [i4]; rfl
            · have i4 : hd (inC bt cl) (8 * cl) kd (se 0) (se 1) po = (!isMk (inC bt cl) (8 * cl) p1, true, p1) := by
                rw [hd, cm, if_pos rfl, if_neg (by omega), if_neg (by omega), ← hp1]
              rw [ci] at i4
              trivial
            · have i4 : hd (inC bt cl) (8 * cl) kd (se 0) (se 1) po = (!isMk (inC bt cl) (8 * cl) p1, true, p1) := by
                rw [hd, cm, if_pos rfl, if_neg (by omega), if_neg (by omega), ← hp1]
              rw [ci] at i4
              rw [i4]
        · refine z_aload_n C dX8_readHead_38 1 rfl ?_
          refine z_callV C (As := []) (st := []) (c_X8_left l D cy tw b kd co th rw cl wr p1 dm sx aa dk fi bb cz hm se da sa bt oz   ) gX8_readHead_X8_left kn_X8_left rfl ⟨rfl, rfl, Nat.le_of_ble_eq_true rfl, Nat.le_of_ble_eq_true rfl⟩ 0 rfl (ci := 10) rfl rfl (Nat.le_of_ble_eq_true rfl) ⟨Nat.le_of_ble_eq_true rfl, Nat.le_of_ble_eq_true rfl⟩ dX8_readHead_39 (fun u8 hu8 => ?_)
          clear hu8; clear u8
          show V 0 0 (MW cy b kd co th rw cl wr p1 dm sx aa dk fi bb cz hm se da sa bt oz) [(1, vI 1), (0, .ref (b 0))] [vI (8 * cl - p1)] 42
          refine z_if_ne C (by omega) (tgt := 47) dX8_readHead_42 (by decide) (fun hc_9 => ?_) (fun hc_9 => ?_)
          · refine z_aload_n C dX8_readHead_47 1 rfl ?_
            refine z_aload_n C dX8_readHead_48 1 rfl ?_
            refine z_get C hinX8 (ci := 10) rfl 0 rfl 13 (by decide) k2 rfl (v := vI p1) rfl dX8_readHead_49 ?_
            refine z_callV C (As := [vI p1]) (st := []) (c_X8_bitAt l D cy tw b kd co th rw cl wr p1 dm sx aa dk fi bb cz hm se da sa bt oz p1  (by omega) (hbt) (by omega)) gX8_readHead_X8_bitAt kn_X8_bitAt rfl ⟨rfl, rfl, Nat.le_of_ble_eq_true rfl, Nat.le_of_ble_eq_true rfl⟩ 0 rfl (ci := 10) rfl rfl (Nat.le_of_ble_eq_true rfl) ⟨Nat.le_of_ble_eq_true rfl, Nat.le_of_ble_eq_true rfl⟩ dX8_readHead_52 (fun u10 hu10 => ?_)
            clear hu10; clear u10
            show V 0 0 (MW cy b kd co th rw cl wr p1 dm sx aa dk fi bb cz hm se da sa bt oz) [(1, vI 1), (0, .ref (b 0))] [vI (bitC bt cl p1)] 55
            have hb1 := bitC_01 bt cl p1
            refine z_istore_n C (lv' := [(1, vI (bitC bt cl p1)), (0, .ref (b 0))]) dX8_readHead_55 rfl (by decide) rfl ?_
            refine z_aload_n C dX8_readHead_56 1 rfl ?_
            refine z_dup C dX8_readHead_57 rfl ?_
            refine z_get C hinX8 (ci := 10) rfl 0 rfl 13 (by decide) k2 rfl (v := vI p1) rfl dX8_readHead_58 ?_
            refine z_iconst C (z := 1) dX8_readHead_61 ?_
            refine z_iadd C dX8_readHead_62 ?_
            refine z_put C hinX8 tyX8 tyX8_ok nmX8 (ci := 10) rfl 0 rfl 13 (by decide) k2 rfl rfl rfl rfl (Nat.le_of_ble_eq_true rfl) dX8_readHead_63 (ws' := MW cy b kd co th rw cl wr (p1 + 1) dm sx aa dk fi bb cz hm se da sa bt oz) rfl ?_
            refine z_aload_n C dX8_readHead_66 1 rfl ?_
            refine z_callV C (As := []) (st := []) (c_X8_isMarkHere l D cy tw b kd co th rw cl wr (p1 + 1) dm sx aa dk fi bb cz hm se da sa bt oz   (by omega) (hbt) (by omega)) gX8_readHead_X8_isMarkHere kn_X8_isMarkHere rfl ⟨rfl, rfl, Nat.le_of_ble_eq_true rfl, Nat.le_of_ble_eq_true rfl⟩ 0 rfl (ci := 10) rfl rfl (Nat.le_of_ble_eq_true rfl) ⟨Nat.le_of_ble_eq_true rfl, Nat.le_of_ble_eq_true rfl⟩ dX8_readHead_67 (fun u11 hu11 => ?_)
            clear hu11; clear u11
            show V 0 0 (MW cy b kd co th rw cl wr (p1 + 1) dm sx aa dk fi bb cz hm se da sa bt oz) [(1, vI (bitC bt cl p1)), (0, .ref (b 0))] [vI (b2i (isMk (inC bt cl) (8 * cl) (p1 + 1)))] 70
            refine z_ifz C (tgt := 77) dX8_readHead_70 (by decide) (fun ci => ?_) (fun ci => ?_)
            · refine z_iload_n C dX8_readHead_77 0 rfl ?_
              refine z_iret (x := (bitC bt cl p1)) C dX8_readHead_78 () ?_ ?_ ?_ (by decide) (by decide)
              · have i4 : hd (inC bt cl) (8 * cl) kd (se 0) (se 1) po = (!isMk (inC bt cl) (8 * cl) (p1 + 1), inC bt cl p1, p1 + 1) := by
                  rw [hd, cm, if_pos rfl, if_neg (by omega), if_pos (by omega), if_neg (by omega), ← hp1]
                rw [ci] at i4
                rw [i4, bitC_in]; rfl
              · have i4 : hd (inC bt cl) (8 * cl) kd (se 0) (se 1) po = (!isMk (inC bt cl) (8 * cl) (p1 + 1), inC bt cl p1, p1 + 1) := by
                  rw [hd, cm, if_pos rfl, if_neg (by omega), if_pos (by omega), if_neg (by omega), ← hp1]
                rw [ci] at i4
                trivial
              · have i4 : hd (inC bt cl) (8 * cl) kd (se 0) (se 1) po = (!isMk (inC bt cl) (8 * cl) (p1 + 1), inC bt cl p1, p1 + 1) := by
                  rw [hd, cm, if_pos rfl, if_neg (by omega), if_pos (by omega), if_neg (by omega), ← hp1]
                rw [ci] at i4
                rw [i4]
            · refine z_iconst C (z := (-1)) dX8_readHead_73 ?_
              refine z_goto C (tgt := 78) dX8_readHead_74 (by decide) ?_
              refine z_iret (x := (-1)) C dX8_readHead_78 () ?_ ?_ ?_ (by decide) (by decide)
              · have i4 : hd (inC bt cl) (8 * cl) kd (se 0) (se 1) po = (!isMk (inC bt cl) (8 * cl) (p1 + 1), inC bt cl p1, p1 + 1) := by
                  rw [hd, cm, if_pos rfl, if_neg (by omega), if_pos (by omega), if_neg (by omega), ← hp1]
                rw [ci] at i4
                rw [i4]; rfl
              · have i4 : hd (inC bt cl) (8 * cl) kd (se 0) (se 1) po = (!isMk (inC bt cl) (8 * cl) (p1 + 1), inC bt cl p1, p1 + 1) := by
                  rw [hd, cm, if_pos rfl, if_neg (by omega), if_pos (by omega), if_neg (by omega), ← hp1]
                rw [ci] at i4
                trivial
              · have i4 : hd (inC bt cl) (8 * cl) kd (se 0) (se 1) po = (!isMk (inC bt cl) (8 * cl) (p1 + 1), inC bt cl p1, p1 + 1) := by
                  rw [hd, cm, if_pos rfl, if_neg (by omega), if_pos (by omega), if_neg (by omega), ← hp1]
                rw [ci] at i4
                rw [i4]
          · have i4 : hd (inC bt cl) (8 * cl) kd (se 0) (se 1) po = (false, false, p1) := by
              rw [hd, cm, if_pos rfl, if_neg (by omega), if_pos (by omega), if_pos (by omega), hp1]
            refine z_iconst C (z := (-1)) dX8_readHead_45 ?_
            refine z_iret (x := (-1)) C dX8_readHead_46 () ?_ ?_ ?_ (by decide) (by decide)
            · rw [i4]; rfl
            · exact trivial
            · rw [i4]
      · have hf := of_decide_eq_false ck
        rw [if_neg hf] at ep1
        have i4 : hd (inC bt cl) (8 * cl) kd (se 0) (se 1) po = (false, false, p1) := by
          rw [hd, cm, if_pos rfl, if_pos (by omega), ep1]
        refine z_iconst C (z := (-1)) dX8_readHead_28 ?_
        refine z_iret (x := (-1)) C dX8_readHead_29 () ?_ ?_ ?_ (by decide) (by decide)
        · rw [i4]; rfl
        · exact trivial
        · rw [i4]
  · refine z_iconst C (z := 0) dX8_readHead_8 ?_
    refine z_goto C (tgt := 13) dX8_readHead_9 (by decide) ?_
    refine z_istore_n C (lv' := [(1, vI 0), (0, .ref (b 0))]) dX8_readHead_13 rfl (by decide) rfl ?_
    refine z_aload_n C dX8_readHead_14 1 rfl ?_
    refine z_callV C (As := []) (st := []) (c_X8_hasMarks l D cy tw b kd co th rw cl wr po dm sx aa dk fi bb cz hm se da sa bt oz   (by omega)) gX8_readHead_X8_hasMarks kn_X8_hasMarks rfl ⟨rfl, rfl, Nat.le_of_ble_eq_true rfl, Nat.le_of_ble_eq_true rfl⟩ 0 rfl (ci := 10) rfl rfl (Nat.le_of_ble_eq_true rfl) ⟨Nat.le_of_ble_eq_true rfl, Nat.le_of_ble_eq_true rfl⟩ dX8_readHead_15 (fun u12 hu12 => ?_)
    clear hu12; clear u12
    show V 0 0 (MW cy b kd co th rw cl wr po dm sx aa dk fi bb cz hm se da sa bt oz) [(1, vI 0), (0, .ref (b 0))] [vI (b2i (hasMk kd (se 0)))] 18
    refine z_ifz C (tgt := 79) dX8_readHead_18 (by decide) (fun cm => ?_) (fun cm => ?_)
    · have hk1 : ¬ kd = 1 := by intro z; rw [hasMk, decide_eq_true z] at cm; exact absurd cm (by simp)
      refine z_aload_n C dX8_readHead_79 1 rfl ?_
      refine z_get C hinX8 (ci := 10) rfl 0 rfl 5 (by decide) k1 rfl (v := .ref (b 3)) rfl dX8_readHead_80 ?_
      refine z_iconst C (z := 1) dX8_readHead_83 ?_
      refine z_zald C 3 3 (g := se) rfl rfl (by omega) (by omega) (by decide) dX8_readHead_84 ?_
      refine z_ifz C (tgt := 105) dX8_readHead_85 (by decide) (fun ca => ?_) (fun ca => ?_)
      · refine z_aload_n C dX8_readHead_105 1 rfl ?_
        refine z_get C hinX8 (ci := 10) rfl 0 rfl 1 (by decide) k0 rfl (v := vI kd) rfl dX8_readHead_106 ?_
        refine z_iconst C (z := 2) dX8_readHead_109 ?_
        refine z_icmp_ne C (by omega) (by decide) (tgt := 124) dX8_readHead_110 (by decide) (fun hc_13 => ?_) (fun hc_13 => ?_)
        · exfalso; omega
        · refine z_aload_n C dX8_readHead_113 1 rfl ?_
          refine z_callV C (As := []) (st := []) (c_X8_isMarkHere l D cy tw b kd co th rw cl wr po dm sx aa dk fi bb cz hm se da sa bt oz   (by omega) (hbt) (by omega)) gX8_readHead_X8_isMarkHere kn_X8_isMarkHere rfl ⟨rfl, rfl, Nat.le_of_ble_eq_true rfl, Nat.le_of_ble_eq_true rfl⟩ 0 rfl (ci := 10) rfl rfl (Nat.le_of_ble_eq_true rfl) ⟨Nat.le_of_ble_eq_true rfl, Nat.le_of_ble_eq_true rfl⟩ dX8_readHead_114 (fun u14 hu14 => ?_)
          clear hu14; clear u14
          show V 0 0 (MW cy b kd co th rw cl wr po dm sx aa dk fi bb cz hm se da sa bt oz) [(1, vI 0), (0, .ref (b 0))] [vI (b2i (isMk (inC bt cl) (8 * cl) po))] 117
          refine z_ifz C (tgt := 124) dX8_readHead_117 (by decide) (fun ci => ?_) (fun ci => ?_)
          · refine z_iload_n C dX8_readHead_124 0 rfl ?_
            refine z_iret (x := 0) C dX8_readHead_125 () ?_ ?_ ?_ (by decide) (by decide)
            · have i4 : hd (inC bt cl) (8 * cl) kd (se 0) (se 1) po = (!isMk (inC bt cl) (8 * cl) po, false, po) := by
                rw [hd, cm, if_neg (by decide), if_pos (by omega), show se 1 = _ from ca, if_neg (by decide)]
              rw [ci] at i4
              rw [i4]; rfl
            · have i4 : hd (inC bt cl) (8 * cl) kd (se 0) (se 1) po = (!isMk (inC bt cl) (8 * cl) po, false, po) := by
                rw [hd, cm, if_neg (by decide), if_pos (by omega), show se 1 = _ from ca, if_neg (by decide)]
              rw [ci] at i4
              trivial
            · have i4 : hd (inC bt cl) (8 * cl) kd (se 0) (se 1) po = (!isMk (inC bt cl) (8 * cl) po, false, po) := by
                rw [hd, cm, if_neg (by decide), if_pos (by omega), show se 1 = _ from ca, if_neg (by decide)]
              rw [ci] at i4
              rw [i4]
          · refine z_iconst C (z := (-1)) dX8_readHead_120 ?_
            refine z_goto C (tgt := 125) dX8_readHead_121 (by decide) ?_
            refine z_iret (x := (-1)) C dX8_readHead_125 () ?_ ?_ ?_ (by decide) (by decide)
            · have i4 : hd (inC bt cl) (8 * cl) kd (se 0) (se 1) po = (!isMk (inC bt cl) (8 * cl) po, false, po) := by
                rw [hd, cm, if_neg (by decide), if_pos (by omega), show se 1 = _ from ca, if_neg (by decide)]
              rw [ci] at i4
              rw [i4]; rfl
            · have i4 : hd (inC bt cl) (8 * cl) kd (se 0) (se 1) po = (!isMk (inC bt cl) (8 * cl) po, false, po) := by
                rw [hd, cm, if_neg (by decide), if_pos (by omega), show se 1 = _ from ca, if_neg (by decide)]
              rw [ci] at i4
              trivial
            · have i4 : hd (inC bt cl) (8 * cl) kd (se 0) (se 1) po = (!isMk (inC bt cl) (8 * cl) po, false, po) := by
                rw [hd, cm, if_neg (by decide), if_pos (by omega), show se 1 = _ from ca, if_neg (by decide)]
              rw [ci] at i4
              rw [i4]
      · refine z_aload_n C dX8_readHead_88 1 rfl ?_
        refine z_aload_n C dX8_readHead_89 1 rfl ?_
        refine z_get C hinX8 (ci := 10) rfl 0 rfl 13 (by decide) k2 rfl (v := vI po) rfl dX8_readHead_90 ?_
        refine z_bipush C (z := 7) dX8_readHead_93 (by decide) ?_
        refine z_iadd C dX8_readHead_95 ?_
        refine z_bipush C (z := 8) dX8_readHead_96 (by decide) ?_
        refine z_idiv C dX8_readHead_98 (by omega) (by decide) ?_
        refine z_bipush C (z := 8) dX8_readHead_99 (by decide) ?_
        refine z_imul C dX8_readHead_101 ?_
        refine z_put C hinX8 tyX8 tyX8_ok nmX8 (ci := 10) rfl 0 rfl 13 (by decide) k2 rfl rfl rfl rfl (Nat.le_of_ble_eq_true rfl) dX8_readHead_102 (ws' := MW cy b kd co th rw cl wr (((po + 7) / 8) * 8) dm sx aa dk fi bb cz hm se da sa bt oz) rfl ?_
        obtain ⟨p3, ep3⟩ : ∃ z, z = (((po + 7) / 8) * 8) := ⟨_, rfl⟩
        rw [← ep3]
        refine z_aload_n C dX8_readHead_105 1 rfl ?_
        have hp3 : p3 = po + -po % 2 ^ 3 := by omega
        refine z_get C hinX8 (ci := 10) rfl 0 rfl 1 (by decide) k0 rfl (v := vI kd) rfl dX8_readHead_106 ?_
        refine z_iconst C (z := 2) dX8_readHead_109 ?_
        refine z_icmp_ne C (by omega) (by decide) (tgt := 124) dX8_readHead_110 (by decide) (fun hc_15 => ?_) (fun hc_15 => ?_)
        · exfalso; omega
        · refine z_aload_n C dX8_readHead_113 1 rfl ?_
          refine z_callV C (As := []) (st := []) (c_X8_isMarkHere l D cy tw b kd co th rw cl wr p3 dm sx aa dk fi bb cz hm se da sa bt oz   (by omega) (hbt) (by omega)) gX8_readHead_X8_isMarkHere kn_X8_isMarkHere rfl ⟨rfl, rfl, Nat.le_of_ble_eq_true rfl, Nat.le_of_ble_eq_true rfl⟩ 0 rfl (ci := 10) rfl rfl (Nat.le_of_ble_eq_true rfl) ⟨Nat.le_of_ble_eq_true rfl, Nat.le_of_ble_eq_true rfl⟩ dX8_readHead_114 (fun u16 hu16 => ?_)
          clear hu16; clear u16
          show V 0 0 (MW cy b kd co th rw cl wr p3 dm sx aa dk fi bb cz hm se da sa bt oz) [(1, vI 0), (0, .ref (b 0))] [vI (b2i (isMk (inC bt cl) (8 * cl) p3))] 117
          refine z_ifz C (tgt := 124) dX8_readHead_117 (by decide) (fun ci => ?_) (fun ci => ?_)
          · refine z_iload_n C dX8_readHead_124 0 rfl ?_
            refine z_iret (x := 0) C dX8_readHead_125 () ?_ ?_ ?_ (by decide) (by decide)
            · have i4 : hd (inC bt cl) (8 * cl) kd (se 0) (se 1) po = (!isMk (inC bt cl) (8 * cl) p3, false, p3) := by
                rw [hd, cm, if_neg (by decide), if_pos (by omega), show se 1 = _ from ca, if_pos rfl, ← hp3]
              rw [ci] at i4
              rw [i4]; rfl
            · have i4 : hd (inC bt cl) (8 * cl) kd (se 0) (se 1) po = (!isMk (inC bt cl) (8 * cl) p3, false, p3) := by
                rw [hd, cm, if_neg (by decide), if_pos (by omega), show se 1 = _ from ca, if_pos rfl, ← hp3]
              rw [ci] at i4
              trivial
            · have i4 : hd (inC bt cl) (8 * cl) kd (se 0) (se 1) po = (!isMk (inC bt cl) (8 * cl) p3, false, p3) := by
                rw [hd, cm, if_neg (by decide), if_pos (by omega), show se 1 = _ from ca, if_pos rfl, ← hp3]
              rw [ci] at i4
              rw [i4]
          · refine z_iconst C (z := (-1)) dX8_readHead_120 ?_
            refine z_goto C (tgt := 125) dX8_readHead_121 (by decide) ?_
            refine z_iret (x := (-1)) C dX8_readHead_125 () ?_ ?_ ?_ (by decide) (by decide)
            · have i4 : hd (inC bt cl) (8 * cl) kd (se 0) (se 1) po = (!isMk (inC bt cl) (8 * cl) p3, false, p3) := by
                rw [hd, cm, if_neg (by decide), if_pos (by omega), show se 1 = _ from ca, if_pos rfl, ← hp3]
              rw [ci] at i4
              rw [i4]; rfl
            · have i4 : hd (inC bt cl) (8 * cl) kd (se 0) (se 1) po = (!isMk (inC bt cl) (8 * cl) p3, false, p3) := by
                rw [hd, cm, if_neg (by decide), if_pos (by omega), show se 1 = _ from ca, if_pos rfl, ← hp3]
              rw [ci] at i4
              trivial
            · have i4 : hd (inC bt cl) (8 * cl) kd (se 0) (se 1) po = (!isMk (inC bt cl) (8 * cl) p3, false, p3) := by
                rw [hd, cm, if_neg (by decide), if_pos (by omega), show se 1 = _ from ca, if_pos rfl, ← hp3]
              rw [ci] at i4
              rw [i4]
    · exfalso; rw [hasMk, decide_eq_false (by omega), decide_eq_false (by omega)] at cm; exact absurd cm (by simp)
theorem kn_X8_repair : zKn yX8_repair wsX8_repair cX8_repair 3 (none) 1 := ⟨⟨_, rfl⟩, by decide +kernel, by decide +kernel, by decide +kernel⟩
set_option maxHeartbeats 400000 in
set_option maxRecDepth 100000 in
theorem c_X8_repair (l : Launch) (D : va_G) (cy : Nat → ClassId) (tw : Nat → Nat) (b : Nat → Nat) (kd : Int) (co : Int) (th : Int) (rw : Int) (cl : Int) (wr : Int) (po : Int) (dm : Int) (sx : Int) (aa : Int) (dk : Bool) (fi : Bool) (bb : Int) (cz : Int) (hm : Bool) (se : Nat → Bool) (da : Nat → Bool) (sa : Nat → Int) (bt : Nat → Int) (oz : Nat → Bool) (r : Int)  (hco : 1 ≤ co ∧ co ≤ 700) (hr : 0 ≤ r ∧ r < 24) : zMet l yX8_repair wsX8_repair { frames := 0, cells := 0, slots := 0, locals := 0 } D (zT cy) tw (MW cy b kd co th rw cl wr po dm sx aa dk fi bb cz hm se da sa bt oz) [.ref (b 0), vI r] 0 0 (S := Unit) (fun _ => none) (fun _ => MW cy b kd co th rw cl wr po dm sx aa dk fi bb cz hm se (rpM da r (se 3) co) sa bt oz) (fun _ => True) := by
  refine z_met (cc := cX8_repair) (nL := 3) (ret := none) (by decide +kernel) rfl (Nat.le_of_ble_eq_true rfl) (lv := [(0, .ref (b 0)), (1, vI r)]) rfl ?_
  intro V p_ e_ s_ m_ args_ below_ meth_ c_ A_ C hmn
  have hinX8 : ∀ w ∈ u_ws RX8 TX8 22, w ∈ wsX8_repair := by decide +kernel
  have k0 : Cond.fieldLink RX8 37 "FaxFilterModel" "columns" "I" ∈ wsX8_repair := List.mem_of_getElem? (i := 1) rfl
  have k1 : Cond.fieldLink RX8 20 "FaxFilterModel" "dark" "[Z" ∈ wsX8_repair := List.mem_of_getElem? (i := 2) rfl
  have k2 : Cond.fieldLink RX8 16 "FaxFilterModel" "settings" "[Z" ∈ wsX8_repair := List.mem_of_getElem? (i := 3) rfl
  refine z_iconst C (z := 0) dX8_repair_0 ?_
  refine z_istore_n C (lv' := [(2, vI 0), (0, .ref (b 0)), (1, vI r)]) dX8_repair_1 rfl (by decide) rfl ?_
  have J2 : ∀ (f : Nat) (x : Int) (d2 : Nat → Bool), (0 ≤ x ∧ x ≤ co) → (d2 = rpM da r (se 3) x) → (co - x).toNat < f → V 0 0 (MW cy b kd co th rw cl wr po dm sx aa dk fi bb cz hm se d2 sa bt oz) [(0, .ref (b 0)), (1, vI r), (2, vI x)] [] 2 := by
    intro f
    induction f with
    | zero => intro x d2 i0 i1 hf; exact absurd hf (Nat.not_lt_zero _)
    | succ f ih =>
      intro x d2 i0 i1 hf
      refine z_iload_n C dX8_repair_2 2 rfl ?_
      refine z_aload_n C dX8_repair_3 0 rfl ?_
      refine z_get C hinX8 (ci := 10) rfl 0 rfl 2 (by decide) k0 rfl (v := vI co) rfl dX8_repair_4 ?_
      refine z_icmp_ge C (by omega) (by omega) (tgt := 63) dX8_repair_7 (by decide) (fun hc_1 => ?_) (fun hc_1 => ?_)
      · refine z_vret C dX8_repair_63 () ?_ ?_ ?_ (by decide) (by decide)
        · exact rfl
        · exact trivial
        · rw [i1, show x = co by omega]
      · refine z_aload_n C dX8_repair_10 0 rfl ?_
        refine z_get C hinX8 (ci := 10) rfl 0 rfl 7 (by decide) k1 rfl (v := .ref (b 4)) rfl dX8_repair_11 ?_
        refine z_sipush C (z := 700) dX8_repair_14 (by decide) ?_
        refine z_iload_n C dX8_repair_17 1 rfl ?_
        refine z_imul C dX8_repair_18 ?_
        refine z_iload_n C dX8_repair_19 2 rfl ?_
        refine z_iadd C dX8_repair_20 ?_
        refine z_aload_n C dX8_repair_21 0 rfl ?_
        refine z_get C hinX8 (ci := 10) rfl 0 rfl 5 (by decide) k2 rfl (v := .ref (b 3)) rfl dX8_repair_22 ?_
        refine z_iconst C (z := 3) dX8_repair_25 ?_
        refine z_zald C 3 3 (g := se) rfl rfl (by omega) (by omega) (by decide) dX8_repair_26 ?_
        refine z_ifz C (tgt := 55) dX8_repair_27 (by decide) (fun c7 => ?_) (fun c7 => ?_)
        · refine z_iconst C (z := 0) dX8_repair_55 ?_
          refine z_zast C 4 3 (g := d2) (b := false) (x := (700 * r) + x) rfl rfl (by omega) (by omega) (by decide) dX8_repair_56 (ws' := MW cy b kd co th rw cl wr po dm sx aa dk fi bb cz hm se (va_up d2 ((700 * r) + x : Int).toNat false) sa bt oz) rfl ?_
          refine z_iinc C (lv' := [(2, vI (x + 1)), (0, .ref (b 0)), (1, vI r)]) dX8_repair_57 2 rfl (by decide) rfl ?_
          refine z_goto C (tgt := 2) dX8_repair_60 (by decide) ?_
          refine z_lsub C [1, 2, 0] rfl ?_
          exact ih (x + 1) (va_up d2 ((700 * r) + x : Int).toNat false) (by omega) (by rw [i1]; exact rpM_s hr.1 i0.1 (by rw [show se 3 = _ from c7]; rfl)) (by omega)
        · refine z_iload_n C dX8_repair_30 1 rfl ?_
          refine z_if_le C (by omega) (tgt := 55) dX8_repair_31 (by decide) (fun c1 => ?_) (fun c1 => ?_)
          · refine z_iconst C (z := 0) dX8_repair_55 ?_
            refine z_zast C 4 3 (g := d2) (b := false) (x := (700 * r) + x) rfl rfl (by omega) (by omega) (by decide) dX8_repair_56 (ws' := MW cy b kd co th rw cl wr po dm sx aa dk fi bb cz hm se (va_up d2 ((700 * r) + x : Int).toNat false) sa bt oz) rfl ?_
            refine z_iinc C (lv' := [(2, vI (x + 1)), (0, .ref (b 0)), (1, vI r)]) dX8_repair_57 2 rfl (by decide) rfl ?_
            refine z_goto C (tgt := 2) dX8_repair_60 (by decide) ?_
            refine z_lsub C [1, 2, 0] rfl ?_
            exact ih (x + 1) (va_up d2 ((700 * r) + x : Int).toNat false) (by omega) (by rw [i1]; exact rpM_s hr.1 i0.1 (by rw [decide_eq_false (by omega), Bool.false_and, Bool.and_false])) (by omega)
          · refine z_aload_n C dX8_repair_34 0 rfl ?_
            refine z_get C hinX8 (ci := 10) rfl 0 rfl 7 (by decide) k1 rfl (v := .ref (b 4)) rfl dX8_repair_35 ?_
            refine z_sipush C (z := 700) dX8_repair_38 (by decide) ?_
            refine z_iload_n C dX8_repair_41 1 rfl ?_
            refine z_iconst C (z := 1) dX8_repair_42 ?_
            refine z_isub C dX8_repair_43 ?_
            refine z_imul C dX8_repair_44 ?_
            refine z_iload_n C dX8_repair_45 2 rfl ?_
            refine z_iadd C dX8_repair_46 ?_
            have hlo : d2 (700 * (r - 1) + x : Int).toNat = da (700 * (r - 1) + x : Int).toNat := by
              rw [i1]
              rcases rpM_lo (da := da) (r := r) (x := x) (y := x) (sv := se 3) (by omega) with z | z
              · exact z
              · exfalso; omega
            refine z_zald C 4 3 (g := d2) rfl rfl (by omega) (by omega) (by decide) dX8_repair_47 ?_
            refine z_ifz C (tgt := 55) dX8_repair_48 (by decide) (fun c8 => ?_) (fun c8 => ?_)
            · refine z_iconst C (z := 0) dX8_repair_55 ?_
              refine z_zast C 4 3 (g := d2) (b := false) (x := (700 * r) + x) rfl rfl (by omega) (by omega) (by decide) dX8_repair_56 (ws' := MW cy b kd co th rw cl wr po dm sx aa dk fi bb cz hm se (va_up d2 ((700 * r) + x : Int).toNat false) sa bt oz) rfl ?_
              refine z_iinc C (lv' := [(2, vI (x + 1)), (0, .ref (b 0)), (1, vI r)]) dX8_repair_57 2 rfl (by decide) rfl ?_
              refine z_goto C (tgt := 2) dX8_repair_60 (by decide) ?_
              refine z_lsub C [1, 2, 0] rfl ?_
              exact ih (x + 1) (va_up d2 ((700 * r) + x : Int).toNat false) (by omega) (by rw [i1]; exact rpM_s hr.1 i0.1 (by rw [← hlo, c8, show se 3 = _ from c7, decide_eq_true (by omega)]; rfl)) (by omega)
            · refine z_iconst C (z := 1) dX8_repair_51 ?_
              refine z_goto C (tgt := 56) dX8_repair_52 (by decide) ?_
              refine z_zast C 4 3 (g := d2) (b := true) (x := (700 * r) + x) rfl rfl (by omega) (by omega) (by decide) dX8_repair_56 (ws' := MW cy b kd co th rw cl wr po dm sx aa dk fi bb cz hm se (va_up d2 ((700 * r) + x : Int).toNat true) sa bt oz) rfl ?_
              refine z_iinc C (lv' := [(2, vI (x + 1)), (0, .ref (b 0)), (1, vI r)]) dX8_repair_57 2 rfl (by decide) rfl ?_
              refine z_goto C (tgt := 2) dX8_repair_60 (by decide) ?_
              refine z_lsub C [1, 2, 0] rfl ?_
              exact ih (x + 1) (va_up d2 ((700 * r) + x : Int).toNat true) (by omega) (by rw [i1]; exact rpM_s hr.1 i0.1 (by rw [← hlo, c8, show se 3 = _ from c7, decide_eq_true (by omega)]; rfl)) (by omega)
  refine z_lsub C [1, 2, 0] rfl ?_
  exact J2 _ 0 da (by omega) ((rpM_0 da r (se 3)).symm) (Nat.lt_succ_self _)
