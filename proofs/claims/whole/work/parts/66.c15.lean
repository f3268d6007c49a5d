theorem kn_X8_putStep : zKn yX8_putStep wsX8_putStep cX8_putStep 2 (none) 1 := ⟨⟨_, rfl⟩, by decide +kernel, by decide +kernel, by decide +kernel⟩
set_option maxHeartbeats 400000 in
set_option maxRecDepth 100000 in
theorem c_X8_putStep (l : Launch) (D : va_G) (cy : Nat → ClassId) (tw : Nat → Nat) (b : Nat → Nat) (kd : Int) (co : Int) (th : Int) (rw : Int) (cl : Int) (po : Int) (dm : Int) (sx : Int) (aa : Int) (dk : Bool) (fi : Bool) (bb : Int) (cz : Int) (hm : Bool) (se : Nat → Bool) (da : Nat → Bool) (sa : Nat → Int) (bt : Nat → Int) (oz : Nat → Bool) (y : Int) (L : List Bool) (hL : OZ oz L) (hy : -3 ≤ y ∧ y ≤ 3) (hroom : ((L.length : Nat) : Int) + 24 ≤ 139999) : zMet l yX8_putStep wsX8_putStep { frames := 2, cells := 0, slots := 0, locals := 44 } D (zT cy) tw (MW cy b kd co th rw cl ((L.length : Nat) : Int) po dm sx aa dk fi bb cz hm se da sa bt oz) [.ref (b 0), vI y] 0 0 (S := Nat → Bool) (fun _ => none) (fun u => MW cy b kd co th rw cl (((L ++ wayL (y + 3)).length : Nat) : Int) po dm sx aa dk fi bb cz hm se da sa bt u) (fun u => OZ u (L ++ wayL (y + 3))) := by
  refine z_met (cc := cX8_putStep) (nL := 2) (ret := none) (by decide +kernel) rfl (Nat.le_of_ble_eq_true rfl) (lv := [(0, .ref (b 0)), (1, vI y)]) rfl ?_
  intro V p_ e_ s_ m_ args_ below_ meth_ c_ A_ C hmn
  refine z_iload_n C dX8_putStep_0 1 rfl ?_
  refine z_if_ne C (by omega) (tgt := 13) dX8_putStep_1 (by decide) (fun hc_1 => ?_) (fun hc_1 => ?_)
  · refine z_iload_n C dX8_putStep_13 1 rfl ?_
    refine z_iconst C (z := 1) dX8_putStep_14 ?_
    refine z_icmp_eq C (by omega) (by decide) (tgt := 23) dX8_putStep_15 (by decide) (fun hc_2 => ?_) (fun hc_2 => ?_)
    · refine z_aload_n C dX8_putStep_23 0 rfl ?_
      refine z_iload_n C dX8_putStep_24 1 rfl ?_
      refine z_iconst C (z := 1) dX8_putStep_25 ?_
      refine z_icmp_ne C (by omega) (by decide) (tgt := 33) dX8_putStep_26 (by decide) (fun hc_3 => ?_) (fun hc_3 => ?_)
      · refine z_iconst C (z := 2) dX8_putStep_33 ?_
        refine z_iconst C (z := 3) dX8_putStep_34 ?_
        refine z_callV C (As := [vI 2, vI 3]) (st := []) (c_X8_putBits l D cy tw b kd co th rw cl po dm sx aa dk fi bb cz hm se da sa bt oz 2 3 L (by omega) (by omega) (by omega) (by omega)) gX8_putStep_X8_putBits kn_X8_putBits rfl ⟨rfl, rfl, Nat.le_of_ble_eq_true rfl, Nat.le_of_ble_eq_true rfl⟩ 0 rfl (ci := 10) rfl rfl (Nat.le_of_ble_eq_true rfl) ⟨Nat.le_of_ble_eq_true rfl, Nat.le_of_ble_eq_true rfl⟩ dX8_putStep_35 (fun u4 hu4 => ?_)
        show V 0 0 (MW cy b kd co th rw cl (((L ++ bitsL 2 (3 : Int).toNat).length : Nat) : Int) po dm sx aa dk fi bb cz hm se da sa bt u4) [(0, .ref (b 0)), (1, vI y)] [] 38
        refine z_goto C (tgt := 87) dX8_putStep_38 (by decide) ?_
        refine z_vret C dX8_putStep_87 u4 ?_ ?_ ?_ (by decide) (by decide)
        · exact rfl
        · have e : L ++ wayL (y + 3) = (L ++ bitsL 2 (3 : Int).toNat) := by first | (rw [show y = -3 by omega]; rfl) | (rw [show y = -2 by omega]; rfl) | (rw [show y = -1 by omega]; rfl) | (rw [show y = 0 by omega]; rfl) | (rw [show y = 1 by omega]; rfl) | (rw [show y = 2 by omega]; rfl) | (rw [show y = 3 by omega]; rfl)
          rw [e]; exact hu4
        · have e : L ++ wayL (y + 3) = (L ++ bitsL 2 (3 : Int).toNat) := by first | (rw [show y = -3 by omega]; rfl) | (rw [show y = -2 by omega]; rfl) | (rw [show y = -1 by omega]; rfl) | (rw [show y = 0 by omega]; rfl) | (rw [show y = 1 by omega]; rfl) | (rw [show y = 2 by omega]; rfl) | (rw [show y = 3 by omega]; rfl)
          rw [e]
      · refine z_iconst C (z := 3) dX8_putStep_29 ?_
        refine z_goto C (tgt := 34) dX8_putStep_30 (by decide) ?_
        refine z_iconst C (z := 3) dX8_putStep_34 ?_
        refine z_callV C (As := [vI 3, vI 3]) (st := []) (c_X8_putBits l D cy tw b kd co th rw cl po dm sx aa dk fi bb cz hm se da sa bt oz 3 3 L (by omega) (by omega) (by omega) (by omega)) gX8_putStep_X8_putBits kn_X8_putBits rfl ⟨rfl, rfl, Nat.le_of_ble_eq_true rfl, Nat.le_of_ble_eq_true rfl⟩ 0 rfl (ci := 10) rfl rfl (Nat.le_of_ble_eq_true rfl) ⟨Nat.le_of_ble_eq_true rfl, Nat.le_of_ble_eq_true rfl⟩ dX8_putStep_35 (fun u5 hu5 => ?_)
        show V 0 0 (MW cy b kd co th rw cl (((L ++ bitsL 3 (3 : Int).toNat).length : Nat) : Int) po dm sx aa dk fi bb cz hm se da sa bt u5) [(0, .ref (b 0)), (1, vI y)] [] 38
        refine z_goto C (tgt := 87) dX8_putStep_38 (by decide) ?_
        refine z_vret C dX8_putStep_87 u5 ?_ ?_ ?_ (by decide) (by decide)
        · exact rfl
        · have e : L ++ wayL (y + 3) = (L ++ bitsL 3 (3 : Int).toNat) := by first | (rw [show y = -3 by omega]; rfl) | (rw [show y = -2 by omega]; rfl) | (rw [show y = -1 by omega]; rfl) | (rw [show y = 0 by omega]; rfl) | (rw [show y = 1 by omega]; rfl) | (rw [show y = 2 by omega]; rfl) | (rw [show y = 3 by omega]; rfl)
          rw [e]; exact hu5
        · have e : L ++ wayL (y + 3) = (L ++ bitsL 3 (3 : Int).toNat) := by first | (rw [show y = -3 by omega]; rfl) | (rw [show y = -2 by omega]; rfl) | (rw [show y = -1 by omega]; rfl) | (rw [show y = 0 by omega]; rfl) | (rw [show y = 1 by omega]; rfl) | (rw [show y = 2 by omega]; rfl) | (rw [show y = 3 by omega]; rfl)
          rw [e]
    · refine z_iload_n C dX8_putStep_18 1 rfl ?_
      refine z_iconst C (z := (-1)) dX8_putStep_19 ?_
      refine z_icmp_ne C (by omega) (by omega) (tgt := 41) dX8_putStep_20 (by decide) (fun hc_6 => ?_) (fun hc_6 => ?_)
      · refine z_iload_n C dX8_putStep_41 1 rfl ?_
        refine z_iconst C (z := 2) dX8_putStep_42 ?_
        refine z_icmp_eq C (by omega) (by decide) (tgt := 52) dX8_putStep_43 (by decide) (fun hc_7 => ?_) (fun hc_7 => ?_)
        · refine z_aload_n C dX8_putStep_52 0 rfl ?_
          refine z_iload_n C dX8_putStep_53 1 rfl ?_
          refine z_iconst C (z := 2) dX8_putStep_54 ?_
          refine z_icmp_ne C (by omega) (by decide) (tgt := 62) dX8_putStep_55 (by decide) (fun hc_8 => ?_) (fun hc_8 => ?_)
          · refine z_iconst C (z := 2) dX8_putStep_62 ?_
            refine z_bipush C (z := 6) dX8_putStep_63 (by decide) ?_
            refine z_callV C (As := [vI 2, vI 6]) (st := []) (c_X8_putBits l D cy tw b kd co th rw cl po dm sx aa dk fi bb cz hm se da sa bt oz 2 6 L (by omega) (by omega) (by omega) (by omega)) gX8_putStep_X8_putBits kn_X8_putBits rfl ⟨rfl, rfl, Nat.le_of_ble_eq_true rfl, Nat.le_of_ble_eq_true rfl⟩ 0 rfl (ci := 10) rfl rfl (Nat.le_of_ble_eq_true rfl) ⟨Nat.le_of_ble_eq_true rfl, Nat.le_of_ble_eq_true rfl⟩ dX8_putStep_65 (fun u9 hu9 => ?_)
            show V 0 0 (MW cy b kd co th rw cl (((L ++ bitsL 2 (6 : Int).toNat).length : Nat) : Int) po dm sx aa dk fi bb cz hm se da sa bt u9) [(0, .ref (b 0)), (1, vI y)] [] 68
            refine z_goto C (tgt := 87) dX8_putStep_68 (by decide) ?_
            refine z_vret C dX8_putStep_87 u9 ?_ ?_ ?_ (by decide) (by decide)
            · exact rfl
            · have e : L ++ wayL (y + 3) = (L ++ bitsL 2 (6 : Int).toNat) := by first | (rw [show y = -3 by omega]; rfl) | (rw [show y = -2 by omega]; rfl) | (rw [show y = -1 by omega]; rfl) | (rw [show y = 0 by omega]; rfl) | (rw [show y = 1 by omega]; rfl) | (rw [show y = 2 by omega]; rfl) | (rw [show y = 3 by omega]; rfl)
              rw [e]; exact hu9
            · have e : L ++ wayL (y + 3) = (L ++ bitsL 2 (6 : Int).toNat) := by first | (rw [show y = -3 by omega]; rfl) | (rw [show y = -2 by omega]; rfl) | (rw [show y = -1 by omega]; rfl) | (rw [show y = 0 by omega]; rfl) | (rw [show y = 1 by omega]; rfl) | (rw [show y = 2 by omega]; rfl) | (rw [show y = 3 by omega]; rfl)
              rw [e]
          · refine z_iconst C (z := 3) dX8_putStep_58 ?_
            refine z_goto C (tgt := 63) dX8_putStep_59 (by decide) ?_
            refine z_bipush C (z := 6) dX8_putStep_63 (by decide) ?_
            refine z_callV C (As := [vI 3, vI 6]) (st := []) (c_X8_putBits l D cy tw b kd co th rw cl po dm sx aa dk fi bb cz hm se da sa bt oz 3 6 L (by omega) (by omega) (by omega) (by omega)) gX8_putStep_X8_putBits kn_X8_putBits rfl ⟨rfl, rfl, Nat.le_of_ble_eq_true rfl, Nat.le_of_ble_eq_true rfl⟩ 0 rfl (ci := 10) rfl rfl (Nat.le_of_ble_eq_true rfl) ⟨Nat.le_of_ble_eq_true rfl, Nat.le_of_ble_eq_true rfl⟩ dX8_putStep_65 (fun u10 hu10 => ?_)
            show V 0 0 (MW cy b kd co th rw cl (((L ++ bitsL 3 (6 : Int).toNat).length : Nat) : Int) po dm sx aa dk fi bb cz hm se da sa bt u10) [(0, .ref (b 0)), (1, vI y)] [] 68
            refine z_goto C (tgt := 87) dX8_putStep_68 (by decide) ?_
            refine z_vret C dX8_putStep_87 u10 ?_ ?_ ?_ (by decide) (by decide)
            · exact rfl
            · have e : L ++ wayL (y + 3) = (L ++ bitsL 3 (6 : Int).toNat) := by first | (rw [show y = -3 by omega]; rfl) | (rw [show y = -2 by omega]; rfl) | (rw [show y = -1 by omega]; rfl) | (rw [show y = 0 by omega]; rfl) | (rw [show y = 1 by omega]; rfl) | (rw [show y = 2 by omega]; rfl) | (rw [show y = 3 by omega]; rfl)
              rw [e]; exact hu10
            · have e : L ++ wayL (y + 3) = (L ++ bitsL 3 (6 : Int).toNat) := by first | (rw [show y = -3 by omega]; rfl) | (rw [show y = -2 by omega]; rfl) | (rw [show y = -1 by omega]; rfl) | (rw [show y = 0 by omega]; rfl) | (rw [show y = 1 by omega]; rfl) | (rw [show y = 2 by omega]; rfl) | (rw [show y = 3 by omega]; rfl)
              rw [e]
        · refine z_iload_n C dX8_putStep_46 1 rfl ?_
          refine z_bipush C (z := (-2)) dX8_putStep_47 (by decide) ?_
          refine z_icmp_ne C (by omega) (by omega) (tgt := 71) dX8_putStep_49 (by decide) (fun hc_11 => ?_) (fun hc_11 => ?_)
          · refine z_aload_n C dX8_putStep_71 0 rfl ?_
            refine z_iload_n C dX8_putStep_72 1 rfl ?_
            refine z_iconst C (z := 3) dX8_putStep_73 ?_
            refine z_icmp_ne C (by omega) (by decide) (tgt := 81) dX8_putStep_74 (by decide) (fun hc_12 => ?_) (fun hc_12 => ?_)
            · refine z_iconst C (z := 2) dX8_putStep_81 ?_
              refine z_bipush C (z := 7) dX8_putStep_82 (by decide) ?_
              refine z_callV C (As := [vI 2, vI 7]) (st := []) (c_X8_putBits l D cy tw b kd co th rw cl po dm sx aa dk fi bb cz hm se da sa bt oz 2 7 L (by omega) (by omega) (by omega) (by omega)) gX8_putStep_X8_putBits kn_X8_putBits rfl ⟨rfl, rfl, Nat.le_of_ble_eq_true rfl, Nat.le_of_ble_eq_true rfl⟩ 0 rfl (ci := 10) rfl rfl (Nat.le_of_ble_eq_true rfl) ⟨Nat.le_of_ble_eq_true rfl, Nat.le_of_ble_eq_true rfl⟩ dX8_putStep_84 (fun u13 hu13 => ?_)
              show V 0 0 (MW cy b kd co th rw cl (((L ++ bitsL 2 (7 : Int).toNat).length : Nat) : Int) po dm sx aa dk fi bb cz hm se da sa bt u13) [(0, .ref (b 0)), (1, vI y)] [] 87
              refine z_vret C dX8_putStep_87 u13 ?_ ?_ ?_ (by decide) (by decide)
              · exact rfl
              · have e : L ++ wayL (y + 3) = (L ++ bitsL 2 (7 : Int).toNat) := by first | (rw [show y = -3 by omega]; rfl) | (rw [show y = -2 by omega]; rfl) | (rw [show y = -1 by omega]; rfl) | (rw [show y = 0 by omega]; rfl) | (rw [show y = 1 by omega]; rfl) | (rw [show y = 2 by omega]; rfl) | (rw [show y = 3 by omega]; rfl)
                rw [e]; exact hu13
              · have e : L ++ wayL (y + 3) = (L ++ bitsL 2 (7 : Int).toNat) := by first | (rw [show y = -3 by omega]; rfl) | (rw [show y = -2 by omega]; rfl) | (rw [show y = -1 by omega]; rfl) | (rw [show y = 0 by omega]; rfl) | (rw [show y = 1 by omega]; rfl) | (rw [show y = 2 by omega]; rfl) | (rw [show y = 3 by omega]; rfl)
                rw [e]
            · refine z_iconst C (z := 3) dX8_putStep_77 ?_
              refine z_goto C (tgt := 82) dX8_putStep_78 (by decide) ?_
              refine z_bipush C (z := 7) dX8_putStep_82 (by decide) ?_
              refine z_callV C (As := [vI 3, vI 7]) (st := []) (c_X8_putBits l D cy tw b kd co th rw cl po dm sx aa dk fi bb cz hm se da sa bt oz 3 7 L (by omega) (by omega) (by omega) (by omega)) gX8_putStep_X8_putBits kn_X8_putBits rfl ⟨rfl, rfl, Nat.le_of_ble_eq_true rfl, Nat.le_of_ble_eq_true rfl⟩ 0 rfl (ci := 10) rfl rfl (Nat.le_of_ble_eq_true rfl) ⟨Nat.le_of_ble_eq_true rfl, Nat.le_of_ble_eq_true rfl⟩ dX8_putStep_84 (fun u14 hu14 => ?_)
              show V 0 0 (MW cy b kd co th rw cl (((L ++ bitsL 3 (7 : Int).toNat).length : Nat) : Int) po dm sx aa dk fi bb cz hm se da sa bt u14) [(0, .ref (b 0)), (1, vI y)] [] 87
              refine z_vret C dX8_putStep_87 u14 ?_ ?_ ?_ (by decide) (by decide)
              · exact rfl
              · have e : L ++ wayL (y + 3) = (L ++ bitsL 3 (7 : Int).toNat) := by first | (rw [show y = -3 by omega]; rfl) | (rw [show y = -2 by omega]; rfl) | (rw [show y = -1 by omega]; rfl) | (rw [show y = 0 by omega]; rfl) | (rw [show y = 1 by omega]; rfl) | (rw [show y = 2 by omega]; rfl) | (rw [show y = 3 by omega]; rfl)
                rw [e]; exact hu14
              · have e : L ++ wayL (y + 3) = (L ++ bitsL 3 (7 : Int).toNat) := by first | (rw [show y = -3 by omega]; rfl) | (rw [show y = -2 by omega]; rfl) | (rw [show y = -1 by omega]; rfl) | (rw [show y = 0 by omega]; rfl) | (rw [show y = 1 by omega]; rfl) | (rw [show y = 2 by omega]; rfl) | (rw [show y = 3 by omega]; rfl)
                rw [e]
          · refine z_aload_n C dX8_putStep_52 0 rfl ?_
            refine z_iload_n C dX8_putStep_53 1 rfl ?_
            refine z_iconst C (z := 2) dX8_putStep_54 ?_
            refine z_icmp_ne C (by omega) (by decide) (tgt := 62) dX8_putStep_55 (by decide) (fun hc_15 => ?_) (fun hc_15 => ?_)
            · refine z_iconst C (z := 2) dX8_putStep_62 ?_
              refine z_bipush C (z := 6) dX8_putStep_63 (by decide) ?_
              refine z_callV C (As := [vI 2, vI 6]) (st := []) (c_X8_putBits l D cy tw b kd co th rw cl po dm sx aa dk fi bb cz hm se da sa bt oz 2 6 L (by omega) (by omega) (by omega) (by omega)) gX8_putStep_X8_putBits kn_X8_putBits rfl ⟨rfl, rfl, Nat.le_of_ble_eq_true rfl, Nat.le_of_ble_eq_true rfl⟩ 0 rfl (ci := 10) rfl rfl (Nat.le_of_ble_eq_true rfl) ⟨Nat.le_of_ble_eq_true rfl, Nat.le_of_ble_eq_true rfl⟩ dX8_putStep_65 (fun u16 hu16 => ?_)
              show V 0 0 (MW cy b kd co th rw cl (((L ++ bitsL 2 (6 : Int).toNat).length : Nat) : Int) po dm sx aa dk fi bb cz hm se da sa bt u16) [(0, .ref (b 0)), (1, vI y)] [] 68
              refine z_goto C (tgt := 87) dX8_putStep_68 (by decide) ?_
              refine z_vret C dX8_putStep_87 u16 ?_ ?_ ?_ (by decide) (by decide)
              · exact rfl
              · have e : L ++ wayL (y + 3) = (L ++ bitsL 2 (6 : Int).toNat) := by first | (rw [show y = -3 by omega]; rfl) | (rw [show y = -2 by omega]; rfl) | (rw [show y = -1 by omega]; rfl) | (rw [show y = 0 by omega]; rfl) | (rw [show y = 1 by omega]; rfl) | (rw [show y = 2 by omega]; rfl) | (rw [show y = 3 by omega]; rfl)
                rw [e]; exact hu16
              · have e : L ++ wayL (y + 3) = (L ++ bitsL 2 (6 : Int).toNat) := by first | (rw [show y = -3 by omega]; rfl) | (rw [show y = -2 by omega]; rfl) | (rw [show y = -1 by omega]; rfl) | (rw [show y = 0 by omega]; rfl) | (rw [show y = 1 by omega]; rfl) | (rw [show y = 2 by omega]; rfl) | (rw [show y = 3 by omega]; rfl)
                rw [e]
            · refine z_iconst C (z := 3) dX8_putStep_58 ?_
              refine z_goto C (tgt := 63) dX8_putStep_59 (by decide) ?_
              refine z_bipush C (z := 6) dX8_putStep_63 (by decide) ?_
              refine z_callV C (As := [vI 3, vI 6]) (st := []) (c_X8_putBits l D cy tw b kd co th rw cl po dm sx aa dk fi bb cz hm se da sa bt oz 3 6 L (by omega) (by omega) (by omega) (by omega)) gX8_putStep_X8_putBits kn_X8_putBits rfl ⟨rfl, rfl, Nat.le_of_ble_eq_true rfl, Nat.le_of_ble_eq_true rfl⟩ 0 rfl (ci := 10) rfl rfl (Nat.le_of_ble_eq_true rfl) ⟨Nat.le_of_ble_eq_true rfl, Nat.le_of_ble_eq_true rfl⟩ dX8_putStep_65 (fun u17 hu17 => ?_)
              show V 0 0 (MW cy b kd co th rw cl (((L ++ bitsL 3 (6 : Int).toNat).length : Nat) : Int) po dm sx aa dk fi bb cz hm se da sa bt u17) [(0, .ref (b 0)), (1, vI y)] [] 68
              refine z_goto C (tgt := 87) dX8_putStep_68 (by decide) ?_
              refine z_vret C dX8_putStep_87 u17 ?_ ?_ ?_ (by decide) (by decide)
              · exact rfl
              · have e : L ++ wayL (y + 3) = (L ++ bitsL 3 (6 : Int).toNat) := by first | (rw [show y = -3 by omega]; rfl) | (rw [show y = -2 by omega]; rfl) | (rw [show y = -1 by omega]; rfl) | (rw [show y = 0 by omega]; rfl) | (rw [show y = 1 by omega]; rfl) | (rw [show y = 2 by omega]; rfl) | (rw [show y = 3 by omega]; rfl)
                rw [e]; exact hu17
              · have e : L ++ wayL (y + 3) = (L ++ bitsL 3 (6 : Int).toNat) := by first | (rw [show y = -3 by omega]; rfl) | (rw [show y = -2 by omega]; rfl) | (rw [show y = -1 by omega]; rfl) | (rw [show y = 0 by omega]; rfl) | (rw [show y = 1 by omega]; rfl) | (rw [show y = 2 by omega]; rfl) | (rw [show y = 3 by omega]; rfl)
                rw [e]
      · refine z_aload_n C dX8_putStep_23 0 rfl ?_
        refine z_iload_n C dX8_putStep_24 1 rfl ?_
        refine z_iconst C (z := 1) dX8_putStep_25 ?_
        refine z_icmp_ne C (by omega) (by decide) (tgt := 33) dX8_putStep_26 (by decide) (fun hc_18 => ?_) (fun hc_18 => ?_)
        · refine z_iconst C (z := 2) dX8_putStep_33 ?_
          refine z_iconst C (z := 3) dX8_putStep_34 ?_
          refine z_callV C (As := [vI 2, vI 3]) (st := []) (c_X8_putBits l D cy tw b kd co th rw cl po dm sx aa dk fi bb cz hm se da sa bt oz 2 3 L (by omega) (by omega) (by omega) (by omega)) gX8_putStep_X8_putBits kn_X8_putBits rfl ⟨rfl, rfl, Nat.le_of_ble_eq_true rfl, Nat.le_of_ble_eq_true rfl⟩ 0 rfl (ci := 10) rfl rfl (Nat.le_of_ble_eq_true rfl) ⟨Nat.le_of_ble_eq_true rfl, Nat.le_of_ble_eq_true rfl⟩ dX8_putStep_35 (fun u19 hu19 => ?_)
          show V 0 0 (MW cy b kd co th rw cl (((L ++ bitsL 2 (3 : Int).toNat).length : Nat) : Int) po dm sx aa dk fi bb cz hm se da sa bt u19) [(0, .ref (b 0)), (1, vI y)] [] 38
          refine z_goto C (tgt := 87) dX8_putStep_38 (by decide) ?_
          refine z_vret C dX8_putStep_87 u19 ?_ ?_ ?_ (by decide) (by decide)
          · exact rfl
          · have e : L ++ wayL (y + 3) = (L ++ bitsL 2 (3 : Int).toNat) := by first | (rw [show y = -3 by omega]; rfl) | (rw [show y = -2 by omega]; rfl) | (rw [show y = -1 by omega]; rfl) | (rw [show y = 0 by omega]; rfl) | (rw [show y = 1 by omega]; rfl) | (rw [show y = 2 by omega]; rfl) | (rw [show y = 3 by omega]; rfl)
            rw [e]; exact hu19
          · have e : L ++ wayL (y + 3) = (L ++ bitsL 2 (3 : Int).toNat) := by first | (rw [show y = -3 by omega]; rfl) | (rw [show y = -2 by omega]; rfl) | (rw [show y = -1 by omega]; rfl) | (rw [show y = 0 by omega]; rfl) | (rw [show y = 1 by omega]; rfl) | (rw [show y = 2 by omega]; rfl) | (rw [show y = 3 by omega]; rfl)
            rw [e]
        · refine z_iconst C (z := 3) dX8_putStep_29 ?_
          refine z_goto C (tgt := 34) dX8_putStep_30 (by decide) ?_
          refine z_iconst C (z := 3) dX8_putStep_34 ?_
          refine z_callV C (As := [vI 3, vI 3]) (st := []) (c_X8_putBits l D cy tw b kd co th rw cl po dm sx aa dk fi bb cz hm se da sa bt oz 3 3 L (by omega) (by omega) (by omega) (by omega)) gX8_putStep_X8_putBits kn_X8_putBits rfl ⟨rfl, rfl, Nat.le_of_ble_eq_true rfl, Nat.le_of_ble_eq_true rfl⟩ 0 rfl (ci := 10) rfl rfl (Nat.le_of_ble_eq_true rfl) ⟨Nat.le_of_ble_eq_true rfl, Nat.le_of_ble_eq_true rfl⟩ dX8_putStep_35 (fun u20 hu20 => ?_)
          show V 0 0 (MW cy b kd co th rw cl (((L ++ bitsL 3 (3 : Int).toNat).length : Nat) : Int) po dm sx aa dk fi bb cz hm se da sa bt u20) [(0, .ref (b 0)), (1, vI y)] [] 38
          refine z_goto C (tgt := 87) dX8_putStep_38 (by decide) ?_
          refine z_vret C dX8_putStep_87 u20 ?_ ?_ ?_ (by decide) (by decide)
          · exact rfl
          · have e : L ++ wayL (y + 3) = (L ++ bitsL 3 (3 : Int).toNat) := by first | (rw [show y = -3 by omega]; rfl) | (rw [show y = -2 by omega]; rfl) | (rw [show y = -1 by omega]; rfl) | (rw [show y = 0 by omega]; rfl) | (rw [show y = 1 by omega]; rfl) | (rw [show y = 2 by omega]; rfl) | (rw [show y = 3 by omega]; rfl)
            rw [e]; exact hu20
          · have e : L ++ wayL (y + 3) = (L ++ bitsL 3 (3 : Int).toNat) := by first | (rw [show y = -3 by omega]; rfl) | (rw [show y = -2 by omega]; rfl) | (rw [show y = -1 by omega]; rfl) | (rw [show y = 0 by omega]; rfl) | (rw [show y = 1 by omega]; rfl) | (rw [show y = 2 by omega]; rfl) | (rw [show y = 3 by omega]; rfl)
            rw [e]
  · refine z_aload_n C dX8_putStep_4 0 rfl ?_
    refine z_iconst C (z := 1) dX8_putStep_5 ?_
    refine z_iconst C (z := 1) dX8_putStep_6 ?_
    refine z_callV C (As := [vI 1, vI 1]) (st := []) (c_X8_putBits l D cy tw b kd co th rw cl po dm sx aa dk fi bb cz hm se da sa bt oz 1 1 L (by omega) (by omega) (by omega) (by omega)) gX8_putStep_X8_putBits kn_X8_putBits rfl ⟨rfl, rfl, Nat.le_of_ble_eq_true rfl, Nat.le_of_ble_eq_true rfl⟩ 0 rfl (ci := 10) rfl rfl (Nat.le_of_ble_eq_true rfl) ⟨Nat.le_of_ble_eq_true rfl, Nat.le_of_ble_eq_true rfl⟩ dX8_putStep_7 (fun u21 hu21 => ?_)
    show V 0 0 (MW cy b kd co th rw cl (((L ++ bitsL 1 (1 : Int).toNat).length : Nat) : Int) po dm sx aa dk fi bb cz hm se da sa bt u21) [(0, .ref (b 0)), (1, vI y)] [] 10
    refine z_goto C (tgt := 87) dX8_putStep_10 (by decide) ?_
    refine z_vret C dX8_putStep_87 u21 ?_ ?_ ?_ (by decide) (by decide)
    · exact rfl
    · have e : L ++ wayL (y + 3) = (L ++ bitsL 1 (1 : Int).toNat) := by first | (rw [show y = -3 by omega]; rfl) | (rw [show y = -2 by omega]; rfl) | (rw [show y = -1 by omega]; rfl) | (rw [show y = 0 by omega]; rfl) | (rw [show y = 1 by omega]; rfl) | (rw [show y = 2 by omega]; rfl) | (rw [show y = 3 by omega]; rfl)
      rw [e]; exact hu21
    · have e : L ++ wayL (y + 3) = (L ++ bitsL 1 (1 : Int).toNat) := by first | (rw [show y = -3 by omega]; rfl) | (rw [show y = -2 by omega]; rfl) | (rw [show y = -1 by omega]; rfl) | (rw [show y = 0 by omega]; rfl) | (rw [show y = 1 by omega]; rfl) | (rw [show y = 2 by omega]; rfl) | (rw [show y = 3 by omega]; rfl)
      rw [e]
theorem wayL_le : ∀ w : Int, 0 ≤ w ∧ w ≤ 8 → (wayL w).length ≤ 7 := by
  intro w h
  rcases (by omega : w = 0 ∨ w = 1 ∨ w = 2 ∨ w = 3 ∨ w = 4 ∨ w = 5 ∨ w = 6 ∨ w = 7 ∨ w = 8) with z | z | z | z | z | z | z | z | z <;> rw [z] <;> decide
theorem kn_X8_writeDrawn : zKn yX8_writeDrawn wsX8_writeDrawn cX8_writeDrawn 4 (none) 1 := ⟨⟨_, rfl⟩, by decide +kernel, by decide +kernel, by decide +kernel⟩
set_option maxHeartbeats 2000000 in
set_option maxRecDepth 100000 in
theorem c_X8_writeDrawn (l : Launch) (D : va_G) (cy : Nat → ClassId) (tw : Nat → Nat) (b : Nat → Nat) (kd : Int) (co : Int) (th : Int) (rw : Int) (cl : Int) (po : Int) (dm : Int) (sx : Int) (aa : Int) (dk : Bool) (fi : Bool) (bb : Int) (cz : Int) (hm : Bool) (se : Nat → Bool) (da : Nat → Bool) (sa : Nat → Int) (bt : Nat → Int) (oz : Nat → Bool) (r : Int) (L : List Bool) (hL : OZ oz L) (hco : 1 ≤ co ∧ co ≤ 700) (hr : 0 ≤ r ∧ r < 24) (hroom : ((L.length : Nat) : Int) + 6000 ≤ 139999) : zMet l yX8_writeDrawn wsX8_writeDrawn { frames := 4, cells := 0, slots := 0, locals := 89 } D (zT cy) tw (MW cy b kd co th rw cl ((L.length : Nat) : Int) po dm sx aa dk fi bb cz hm se da sa bt oz) [.ref (b 0), vI r] 0 0 (S := (Nat → Bool) × Int × Bool × Bool × Int × Int) (fun _ => none) (fun u => MW cy b kd co th rw cl (((L ++ drB (pd da r) (pd da (r - 1)) co (co + 1).toNat 0 false true).length : Nat) : Int) po dm sx u.2.1 u.2.2.1 u.2.2.2.1 u.2.2.2.2.1 u.2.2.2.2.2 hm se da sa bt u.1) (fun u => OZ u.1 (L ++ drB (pd da r) (pd da (r - 1)) co (co + 1).toNat 0 false true)) := by
  refine z_met (cc := cX8_writeDrawn) (nL := 4) (ret := none) (by decide +kernel) rfl (Nat.le_of_ble_eq_true rfl) (lv := [(0, .ref (b 0)), (1, vI r)]) rfl ?_
  intro V p_ e_ s_ m_ args_ below_ meth_ c_ A_ C hmn
  have hinX8 : ∀ w ∈ u_ws RX8 TX8 22, w ∈ wsX8_writeDrawn := by decide +kernel
  have k0 : Cond.fieldLink RX8 121 "FaxFilterModel" "a" "I" ∈ wsX8_writeDrawn := List.mem_of_getElem? (i := 1) rfl
  have k1 : Cond.fieldLink RX8 37 "FaxFilterModel" "columns" "I" ∈ wsX8_writeDrawn := List.mem_of_getElem? (i := 2) rfl
  have k2 : Cond.fieldLink RX8 127 "FaxFilterModel" "isDark" "Z" ∈ wsX8_writeDrawn := List.mem_of_getElem? (i := 3) rfl
  have k3 : Cond.fieldLink RX8 130 "FaxFilterModel" "c" "I" ∈ wsX8_writeDrawn := List.mem_of_getElem? (i := 4) rfl
  have k4 : Cond.fieldLink RX8 124 "FaxFilterModel" "b" "I" ∈ wsX8_writeDrawn := List.mem_of_getElem? (i := 5) rfl
  have k5 : Cond.fieldLink RX8 117 "FaxFilterModel" "isFirst" "Z" ∈ wsX8_writeDrawn := List.mem_of_getElem? (i := 6) rfl
  have hbd := drB_bd0 (f := pd da r) (g := pd da (r - 1)) hco.1 hco.2 (co + 1).toNat
  refine z_aload_n C dX8_writeDrawn_0 0 rfl ?_
  refine z_callV C (As := []) (st := []) (c_X8_begin l D cy tw b kd co th rw cl ((L.length : Nat) : Int) po dm sx aa dk fi bb cz hm se da sa bt oz   ) gX8_writeDrawn_X8_begin kn_X8_begin rfl ⟨rfl, rfl, Nat.le_of_ble_eq_true rfl, Nat.le_of_ble_eq_true rfl⟩ 0 rfl (ci := 10) rfl rfl (Nat.le_of_ble_eq_true rfl) ⟨Nat.le_of_ble_eq_true rfl, Nat.le_of_ble_eq_true rfl⟩ dX8_writeDrawn_1 (fun u1 hu1 => ?_)
  clear hu1; clear u1
  show V 0 0 (MW cy b kd co th rw cl ((L.length : Nat) : Int) po dm sx 0 false true bb cz hm se da sa bt oz) [(0, .ref (b 0)), (1, vI r)] [] 4
  have J4 : ∀ (f : Nat) (x : Int) (d : Bool) (fi : Bool) (w1 : Int) (w2 : Int) (k : Int) (o : Nat → Bool) (M : List Bool), (0 ≤ k ∧ k ≤ x + 1) → (0 ≤ x ∧ x ≤ co) → (fi = decide (k = 0)) → (k = 0 ∨ (x < co → pd da r x = d)) → (OZ o M) → (L ++ drB (pd da r) (pd da (r - 1)) co (co + 1).toNat 0 false true = M ++ drB (pd da r) (pd da (r - 1)) co (co + 1 - k).toNat x d fi) → (co + 1 - k).toNat < f → V 0 0 (MW cy b kd co th rw cl ((M.length : Nat) : Int) po dm sx x d fi w1 w2 hm se da sa bt o) [(0, .ref (b 0)), (1, vI r)] [] 4 := by
    intro f
    induction f with
    | zero => intro x d fi w1 w2 k o M i0 i1 hfi hg hM i2 hf; exact absurd hf (Nat.not_lt_zero _)
    | succ f ih =>
      intro x d fi w1 w2 k o M i0 i1 hfi hg hM i2 hf
      refine z_aload_n C dX8_writeDrawn_4 0 rfl ?_
      have q2 := congrArg List.length i2
      simp only [List.length_append] at q2
      refine z_get C hinX8 (ci := 10) rfl 0 rfl 16 (by decide) k0 rfl (v := vI x) rfl dX8_writeDrawn_5 ?_
      refine z_aload_n C dX8_writeDrawn_8 0 rfl ?_
      refine z_get C hinX8 (ci := 10) rfl 0 rfl 2 (by decide) k1 rfl (v := vI co) rfl dX8_writeDrawn_9 ?_
      refine z_icmp_ge C (by omega) (by omega) (tgt := 184) dX8_writeDrawn_12 (by decide) (fun hc_2 => ?_) (fun hc_2 => ?_)
      · refine z_vret C dX8_writeDrawn_184 (o, x, d, fi, w1, w2) ?_ ?_ ?_ (by decide) (by decide)
        · exact rfl
        · have e : L ++ drB (pd da r) (pd da (r - 1)) co (co + 1).toNat 0 false true = M := by rw [i2, drB_ge _ (by omega), List.append_nil]
          rw [e]; exact hM
        · have e : L ++ drB (pd da r) (pd da (r - 1)) co (co + 1).toNat 0 false true = M := by rw [i2, drB_ge _ (by omega), List.append_nil]
          rw [e]
      · refine z_aload_n C dX8_writeDrawn_15 0 rfl ?_
        refine z_iload_n C dX8_writeDrawn_16 1 rfl ?_
        refine z_callV C (As := [vI r]) (st := []) (c_X8_look l D cy tw b kd co th rw cl ((M.length : Nat) : Int) po dm sx x d fi w1 w2 hm se da sa bt o r  (by omega) (by omega) (by omega)) gX8_writeDrawn_X8_look kn_X8_look rfl ⟨rfl, rfl, Nat.le_of_ble_eq_true rfl, Nat.le_of_ble_eq_true rfl⟩ 0 rfl (ci := 10) rfl rfl (Nat.le_of_ble_eq_true rfl) ⟨Nat.le_of_ble_eq_true rfl, Nat.le_of_ble_eq_true rfl⟩ dX8_writeDrawn_17 (fun u3 hu3 => ?_)
        clear hu3; clear u3
        show V 0 0 (MW cy b kd co th rw cl ((M.length : Nat) : Int) po dm sx x d fi (chC (pd da (r - 1)) co (if fi then x else x + 1) (!d)) (nxt (pd da (r - 1)) co (chC (pd da (r - 1)) co (if fi then x else x + 1) (!d)) d) hm se da sa bt o) [(0, .ref (b 0)), (1, vI r)] [] 20
        have hy : x ≤ (if fi then x else x + 1) ∧ (if fi then x else x + 1) ≤ co ∧ (k ≠ 0 → x + 1 ≤ (if fi then x else x + 1)) := by
          rw [hfi]
          by_cases z : k = 0
          · rw [decide_eq_true z, if_pos rfl]; omega
          · rw [decide_eq_false z, if_neg (by decide)]; omega
        have hvb := chC_rg (pd da (r - 1)) (N := co) (x := (if fi then x else x + 1)) (!d) (by omega) (by omega)
        have hvc := nxt_rg (pd da (r - 1)) co (chC (pd da (r - 1)) co (if fi then x else x + 1) (!d)) d
        have hve := nxt_rg (pd da r) co x (!d)
        have hvg : k ≠ 0 → x + 1 ≤ nxt (pd da r) co x (!d) := fun z9 => nxt_gt (f := pd da r) (N := co) (d := !d) (x := x) (by omega) (by rw [Bool.not_not]; exact (hg.resolve_left z9) (by omega))
        obtain ⟨vc, evc⟩ : ∃ z, z = (nxt (pd da (r - 1)) co (chC (pd da (r - 1)) co (if fi then x else x + 1) (!d)) d) := ⟨_, rfl⟩
        rw [← evc]
        obtain ⟨vb, evb⟩ : ∃ z, z = (chC (pd da (r - 1)) co (if fi then x else x + 1) (!d)) := ⟨_, rfl⟩
        rw [← evb]
        refine z_aload_n C dX8_writeDrawn_20 0 rfl ?_
        refine z_iload_n C dX8_writeDrawn_21 1 rfl ?_
        refine z_aload_n C dX8_writeDrawn_22 0 rfl ?_
        refine z_get C hinX8 (ci := 10) rfl 0 rfl 16 (by decide) k0 rfl (v := vI x) rfl dX8_writeDrawn_23 ?_
        refine z_aload_n C dX8_writeDrawn_26 0 rfl ?_
        refine z_get C hinX8 (ci := 10) rfl 0 rfl 17 (by decide) k2 rfl (v := vI (b2i d)) rfl dX8_writeDrawn_27 ?_
        refine z_callV C (As := [vI r, vI x, vI (b2i d)]) (st := []) (c_X8_otherFrom l D cy tw b kd co th rw cl ((M.length : Nat) : Int) po dm sx x d fi vb vc hm se da sa bt o r x d  (by omega) (by omega) (by omega)) gX8_writeDrawn_X8_otherFrom kn_X8_otherFrom rfl ⟨rfl, rfl, Nat.le_of_ble_eq_true rfl, Nat.le_of_ble_eq_true rfl⟩ 0 rfl (ci := 10) rfl rfl (Nat.le_of_ble_eq_true rfl) ⟨Nat.le_of_ble_eq_true rfl, Nat.le_of_ble_eq_true rfl⟩ dX8_writeDrawn_30 (fun u4 hu4 => ?_)
        clear hu4; clear u4
        show V 0 0 (MW cy b kd co th rw cl ((M.length : Nat) : Int) po dm sx x d fi vb vc hm se da sa bt o) [(0, .ref (b 0)), (1, vI r)] [vI (nxt (pd da r) co x (!d))] 33
        refine z_nmI (fun ve eve => ?_)
        refine z_istore_n C (lv' := [(2, vI ve), (0, .ref (b 0)), (1, vI r)]) dX8_writeDrawn_33 rfl (by decide) rfl ?_
        rw [← evc, ← evb] at hvc
        rw [← evb] at hvb
        rw [← eve] at hve hvg
        refine z_aload_n C dX8_writeDrawn_34 1 rfl ?_
        refine z_get C hinX8 (ci := 10) rfl 0 rfl 20 (by decide) k3 rfl (v := vI vc) rfl dX8_writeDrawn_35 ?_
        refine z_iload_n C dX8_writeDrawn_38 0 rfl ?_
        refine z_icmp_ge C (by omega) (by omega) (tgt := 59) dX8_writeDrawn_39 (by decide) (fun hc_5 => ?_) (fun hc_5 => ?_)
        · refine z_iload_n C dX8_writeDrawn_59 0 rfl ?_
          refine z_aload_n C dX8_writeDrawn_60 1 rfl ?_
          refine z_get C hinX8 (ci := 10) rfl 0 rfl 19 (by decide) k4 rfl (v := vI vb) rfl dX8_writeDrawn_61 ?_
          refine z_isub C dX8_writeDrawn_64 ?_
          refine z_iconst C (z := 3) dX8_writeDrawn_65 ?_
          refine z_icmp_gt C (by omega) (by decide) (tgt := 113) dX8_writeDrawn_66 (by decide) (fun hc_6 => ?_) (fun hc_6 => ?_)
          · have i3 : L ++ drB (pd da r) (pd da (r - 1)) co (co + 1).toNat 0 false true = M ++ (wayL 8 ++ (runB d (ve - x) ++ (runB (!d) (nxt (pd da r) co ve d - ve) ++ drB (pd da r) (pd da (r - 1)) co (co + 1 - (k + 1)).toNat (nxt (pd da r) co ve d) d false))) := by
              rw [i2, show (co + 1 - k).toNat = (co + 1 - (k + 1)).toNat + 1 by omega, drB, if_pos (by omega), ← evc, ← evb, ← eve, if_neg (by omega), if_neg (by omega)]
            have hz := nxt_rg (pd da r) co ve d
            refine z_aload_n C dX8_writeDrawn_113 1 rfl ?_
            refine z_iload_n C dX8_writeDrawn_114 2 rfl ?_
            refine z_iload_n C dX8_writeDrawn_115 0 rfl ?_
            refine z_aload_n C dX8_writeDrawn_116 1 rfl ?_
            refine z_get C hinX8 (ci := 10) rfl 0 rfl 17 (by decide) k2 rfl (v := vI (b2i d)) rfl dX8_writeDrawn_117 ?_
            refine z_not C dX8_writeDrawn_120 dX8_writeDrawn_123 dX8_writeDrawn_124 dX8_writeDrawn_127 ?_
            refine z_callV C (As := [vI r, vI ve, vI (b2i (!d))]) (st := []) (c_X8_otherFrom l D cy tw b kd co th rw cl ((M.length : Nat) : Int) po dm sx x d fi vb vc hm se da sa bt o r ve (!d)  (by omega) (by omega) (by omega)) gX8_writeDrawn_X8_otherFrom kn_X8_otherFrom rfl ⟨rfl, rfl, Nat.le_of_ble_eq_true rfl, Nat.le_of_ble_eq_true rfl⟩ 0 rfl (ci := 10) rfl rfl (Nat.le_of_ble_eq_true rfl) ⟨Nat.le_of_ble_eq_true rfl, Nat.le_of_ble_eq_true rfl⟩ dX8_writeDrawn_128 (fun u7 hu7 => ?_)
            clear hu7; clear u7
            show V 0 0 (MW cy b kd co th rw cl ((M.length : Nat) : Int) po dm sx x d fi vb vc hm se da sa bt o) [(2, vI ve), (0, .ref (b 0)), (1, vI r)] [vI (nxt (pd da r) co ve (!(!d)))] 131
            refine z_nmI (fun vd evd => ?_)
            refine z_istore_n C (lv' := [(3, vI vd), (2, vI ve), (0, .ref (b 0)), (1, vI r)]) dX8_writeDrawn_131 rfl (by decide) rfl ?_
            rw [Bool.not_not] at evd
            rw [← evd] at hz i3
            refine z_aload_n C dX8_writeDrawn_132 2 rfl ?_
            refine z_iconst C (z := 1) dX8_writeDrawn_133 ?_
            refine z_iconst C (z := 3) dX8_writeDrawn_134 ?_
            refine z_callV C (As := [vI 1, vI 3]) (st := []) (c_X8_putBits l D cy tw b kd co th rw cl po dm sx x d fi vb vc hm se da sa bt o 1 3 M (hM) (by omega) (by omega) (by omega)) gX8_writeDrawn_X8_putBits kn_X8_putBits rfl ⟨rfl, rfl, Nat.le_of_ble_eq_true rfl, Nat.le_of_ble_eq_true rfl⟩ 0 rfl (ci := 10) rfl rfl (Nat.le_of_ble_eq_true rfl) ⟨Nat.le_of_ble_eq_true rfl, Nat.le_of_ble_eq_true rfl⟩ dX8_writeDrawn_135 (fun u8 hu8 => ?_)
            show V 0 0 (MW cy b kd co th rw cl (((M ++ bitsL 1 (3 : Int).toNat).length : Nat) : Int) po dm sx x d fi vb vc hm se da sa bt u8) [(3, vI vd), (2, vI ve), (0, .ref (b 0)), (1, vI r)] [] 138
            refine z_aload_n C dX8_writeDrawn_138 2 rfl ?_
            refine z_aload_n C dX8_writeDrawn_139 2 rfl ?_
            refine z_get C hinX8 (ci := 10) rfl 0 rfl 17 (by decide) k2 rfl (v := vI (b2i d)) rfl dX8_writeDrawn_140 ?_
            refine z_iload_n C dX8_writeDrawn_143 1 rfl ?_
            refine z_aload_n C dX8_writeDrawn_144 2 rfl ?_
            refine z_get C hinX8 (ci := 10) rfl 0 rfl 16 (by decide) k0 rfl (v := vI x) rfl dX8_writeDrawn_145 ?_
            refine z_isub C dX8_writeDrawn_148 ?_
            refine z_callV C (As := [vI (b2i d), vI (ve - x)]) (st := []) (c_X8_putRun l D cy tw b kd co th rw cl po dm sx x d fi vb vc hm se da sa bt u8 d (ve - x) (M ++ bitsL 1 (3 : Int).toNat) (hu8) (by omega) (by (try simp only [List.length_append, bitsL_len]); omega)) gX8_writeDrawn_X8_putRun kn_X8_putRun rfl ⟨rfl, rfl, Nat.le_of_ble_eq_true rfl, Nat.le_of_ble_eq_true rfl⟩ 0 rfl (ci := 10) rfl rfl (Nat.le_of_ble_eq_true rfl) ⟨Nat.le_of_ble_eq_true rfl, Nat.le_of_ble_eq_true rfl⟩ dX8_writeDrawn_149 (fun u9 hu9 => ?_)
            show V 0 0 (MW cy b kd co th rw cl ((((M ++ bitsL 1 (3 : Int).toNat) ++ runB d (ve - x)).length : Nat) : Int) po dm sx x d fi vb vc hm se da sa bt u9) [(3, vI vd), (2, vI ve), (0, .ref (b 0)), (1, vI r)] [] 152
            refine z_aload_n C dX8_writeDrawn_152 2 rfl ?_
            refine z_aload_n C dX8_writeDrawn_153 2 rfl ?_
            refine z_get C hinX8 (ci := 10) rfl 0 rfl 17 (by decide) k2 rfl (v := vI (b2i d)) rfl dX8_writeDrawn_154 ?_
            refine z_not C dX8_writeDrawn_157 dX8_writeDrawn_160 dX8_writeDrawn_161 dX8_writeDrawn_164 ?_
            refine z_iload_n C dX8_writeDrawn_165 0 rfl ?_
            refine z_iload_n C dX8_writeDrawn_166 1 rfl ?_
            refine z_isub C dX8_writeDrawn_167 ?_
            refine z_callV C (As := [vI (b2i (!d)), vI (vd - ve)]) (st := []) (c_X8_putRun l D cy tw b kd co th rw cl po dm sx x d fi vb vc hm se da sa bt u9 (!d) (vd - ve) ((M ++ bitsL 1 (3 : Int).toNat) ++ runB d (ve - x)) (hu9) (by omega) (by (try simp only [List.length_append, bitsL_len]); have := runB_le d (ve - x); omega)) gX8_writeDrawn_X8_putRun kn_X8_putRun rfl ⟨rfl, rfl, Nat.le_of_ble_eq_true rfl, Nat.le_of_ble_eq_true rfl⟩ 0 rfl (ci := 10) rfl rfl (Nat.le_of_ble_eq_true rfl) ⟨Nat.le_of_ble_eq_true rfl, Nat.le_of_ble_eq_true rfl⟩ dX8_writeDrawn_168 (fun u10 hu10 => ?_)
            show V 0 0 (MW cy b kd co th rw cl (((((M ++ bitsL 1 (3 : Int).toNat) ++ runB d (ve - x)) ++ runB (!d) (vd - ve)).length : Nat) : Int) po dm sx x d fi vb vc hm se da sa bt u10) [(3, vI vd), (2, vI ve), (0, .ref (b 0)), (1, vI r)] [] 171
            refine z_aload_n C dX8_writeDrawn_171 2 rfl ?_
            refine z_iload_n C dX8_writeDrawn_172 0 rfl ?_
            refine z_put C hinX8 tyX8 tyX8_ok nmX8 (ci := 10) rfl 0 rfl 16 (by decide) k0 rfl rfl rfl rfl (Nat.le_of_ble_eq_true rfl) dX8_writeDrawn_173 (ws' := MW cy b kd co th rw cl (((((M ++ bitsL 1 (3 : Int).toNat) ++ runB d (ve - x)) ++ runB (!d) (vd - ve)).length : Nat) : Int) po dm sx vd d fi vb vc hm se da sa bt u10) rfl ?_
            refine z_aload_n C dX8_writeDrawn_176 2 rfl ?_
            refine z_iconst C (z := 0) dX8_writeDrawn_177 ?_
            refine z_put C hinX8 tyX8 tyX8_ok nmX8 (ci := 10) rfl 0 rfl 18 (by decide) k5 rfl rfl (z_narZ false).1 (z_narZ false).2 (Nat.le_of_ble_eq_true rfl) dX8_writeDrawn_178 (ws' := MW cy b kd co th rw cl (((((M ++ bitsL 1 (3 : Int).toNat) ++ runB d (ve - x)) ++ runB (!d) (vd - ve)).length : Nat) : Int) po dm sx vd d false vb vc hm se da sa bt u10) rfl ?_
            refine z_goto C (tgt := 4) dX8_writeDrawn_181 (by decide) ?_
            refine z_lsub C [2, 3] rfl ?_
            exact ih vd d false vb vc (k + 1) u10 (((M ++ bitsL 1 (3 : Int).toNat) ++ runB d (ve - x)) ++ runB (!d) (vd - ve)) (by omega) (by omega) (by rw [decide_eq_false (by omega)]) (Or.inr (fun z => by rw [evd] at z ⊢; exact nxt_eq z)) (hu10) (by rw [i3]; simp only [List.append_assoc]; first | done | rfl) (by omega)
          · refine z_aload_n C dX8_writeDrawn_69 1 rfl ?_
            refine z_get C hinX8 (ci := 10) rfl 0 rfl 19 (by decide) k4 rfl (v := vI vb) rfl dX8_writeDrawn_70 ?_
            refine z_iload_n C dX8_writeDrawn_73 0 rfl ?_
            refine z_isub C dX8_writeDrawn_74 ?_
            refine z_iconst C (z := 3) dX8_writeDrawn_75 ?_
            refine z_icmp_gt C (by omega) (by decide) (tgt := 113) dX8_writeDrawn_76 (by decide) (fun hc_11 => ?_) (fun hc_11 => ?_)
            · have i3 : L ++ drB (pd da r) (pd da (r - 1)) co (co + 1).toNat 0 false true = M ++ (wayL 8 ++ (runB d (ve - x) ++ (runB (!d) (nxt (pd da r) co ve d - ve) ++ drB (pd da r) (pd da (r - 1)) co (co + 1 - (k + 1)).toNat (nxt (pd da r) co ve d) d false))) := by
                rw [i2, show (co + 1 - k).toNat = (co + 1 - (k + 1)).toNat + 1 by omega, drB, if_pos (by omega), ← evc, ← evb, ← eve, if_neg (by omega), if_neg (by omega)]
              have hz := nxt_rg (pd da r) co ve d
              refine z_aload_n C dX8_writeDrawn_113 1 rfl ?_
              refine z_iload_n C dX8_writeDrawn_114 2 rfl ?_
              refine z_iload_n C dX8_writeDrawn_115 0 rfl ?_
              refine z_aload_n C dX8_writeDrawn_116 1 rfl ?_
              refine z_get C hinX8 (ci := 10) rfl 0 rfl 17 (by decide) k2 rfl (v := vI (b2i d)) rfl dX8_writeDrawn_117 ?_
              refine z_not C dX8_writeDrawn_120 dX8_writeDrawn_123 dX8_writeDrawn_124 dX8_writeDrawn_127 ?_
              refine z_callV C (As := [vI r, vI ve, vI (b2i (!d))]) (st := []) (c_X8_otherFrom l D cy tw b kd co th rw cl ((M.length : Nat) : Int) po dm sx x d fi vb vc hm se da sa bt o r ve (!d)  (by omega) (by omega) (by omega)) gX8_writeDrawn_X8_otherFrom kn_X8_otherFrom rfl ⟨rfl, rfl, Nat.le_of_ble_eq_true rfl, Nat.le_of_ble_eq_true rfl⟩ 0 rfl (ci := 10) rfl rfl (Nat.le_of_ble_eq_true rfl) ⟨Nat.le_of_ble_eq_true rfl, Nat.le_of_ble_eq_true rfl⟩ dX8_writeDrawn_128 (fun u12 hu12 => ?_)
              clear hu12; clear u12
              show V 0 0 (MW cy b kd co th rw cl ((M.length : Nat) : Int) po dm sx x d fi vb vc hm se da sa bt o) [(2, vI ve), (0, .ref (b 0)), (1, vI r)] [vI (nxt (pd da r) co ve (!(!d)))] 131
              refine z_nmI (fun vd evd => ?_)
              refine z_istore_n C (lv' := [(3, vI vd), (2, vI ve), (0, .ref (b 0)), (1, vI r)]) dX8_writeDrawn_131 rfl (by decide) rfl ?_
              rw [Bool.not_not] at evd
              rw [← evd] at hz i3
              refine z_aload_n C dX8_writeDrawn_132 2 rfl ?_
              refine z_iconst C (z := 1) dX8_writeDrawn_133 ?_
              refine z_iconst C (z := 3) dX8_writeDrawn_134 ?_
              refine z_callV C (As := [vI 1, vI 3]) (st := []) (c_X8_putBits l D cy tw b kd co th rw cl po dm sx x d fi vb vc hm se da sa bt o 1 3 M (hM) (by omega) (by omega) (by omega)) gX8_writeDrawn_X8_putBits kn_X8_putBits rfl ⟨rfl, rfl, Nat.le_of_ble_eq_true rfl, Nat.le_of_ble_eq_true rfl⟩ 0 rfl (ci := 10) rfl rfl (Nat.le_of_ble_eq_true rfl) ⟨Nat.le_of_ble_eq_true rfl, Nat.le_of_ble_eq_true rfl⟩ dX8_writeDrawn_135 (fun u13 hu13 => ?_)
              show V 0 0 (MW cy b kd co th rw cl (((M ++ bitsL 1 (3 : Int).toNat).length : Nat) : Int) po dm sx x d fi vb vc hm se da sa bt u13) [(3, vI vd), (2, vI ve), (0, .ref (b 0)), (1, vI r)] [] 138
              refine z_aload_n C dX8_writeDrawn_138 2 rfl ?_
              refine z_aload_n C dX8_writeDrawn_139 2 rfl ?_
              refine z_get C hinX8 (ci := 10) rfl 0 rfl 17 (by decide) k2 rfl (v := vI (b2i d)) rfl dX8_writeDrawn_140 ?_
              refine z_iload_n C dX8_writeDrawn_143 1 rfl ?_
              refine z_aload_n C dX8_writeDrawn_144 2 rfl ?_
              refine z_get C hinX8 (ci := 10) rfl 0 rfl 16 (by decide) k0 rfl (v := vI x) rfl dX8_writeDrawn_145 ?_
              refine z_isub C dX8_writeDrawn_148 ?_
              refine z_callV C (As := [vI (b2i d), vI (ve - x)]) (st := []) (c_X8_putRun l D cy tw b kd co th rw cl po dm sx x d fi vb vc hm se da sa bt u13 d (ve - x) (M ++ bitsL 1 (3 : Int).toNat) (hu13) (by omega) (by (try simp only [List.length_append, bitsL_len]); omega)) gX8_writeDrawn_X8_putRun kn_X8_putRun rfl ⟨rfl, rfl, Nat.le_of_ble_eq_true rfl, Nat.le_of_ble_eq_true rfl⟩ 0 rfl (ci := 10) rfl rfl (Nat.le_of_ble_eq_true rfl) ⟨Nat.le_of_ble_eq_true rfl, Nat.le_of_ble_eq_true rfl⟩ dX8_writeDrawn_149 (fun u14 hu14 => ?_)
              show V 0 0 (MW cy b kd co th rw cl ((((M ++ bitsL 1 (3 : Int).toNat) ++ runB d (ve - x)).length : Nat) : Int) po dm sx x d fi vb vc hm se da sa bt u14) [(3, vI vd), (2, vI ve), (0, .ref (b 0)), (1, vI r)] [] 152
              refine z_aload_n C dX8_writeDrawn_152 2 rfl ?_
              refine z_aload_n C dX8_writeDrawn_153 2 rfl ?_
              refine z_get C hinX8 (ci := 10) rfl 0 rfl 17 (by decide) k2 rfl (v := vI (b2i d)) rfl dX8_writeDrawn_154 ?_
              refine z_not C dX8_writeDrawn_157 dX8_writeDrawn_160 dX8_writeDrawn_161 dX8_writeDrawn_164 ?_
              refine z_iload_n C dX8_writeDrawn_165 0 rfl ?_
              refine z_iload_n C dX8_writeDrawn_166 1 rfl ?_
              refine z_isub C dX8_writeDrawn_167 ?_
              refine z_callV C (As := [vI (b2i (!d)), vI (vd - ve)]) (st := []) (c_X8_putRun l D cy tw b kd co th rw cl po dm sx x d fi vb vc hm se da sa bt u14 (!d) (vd - ve) ((M ++ bitsL 1 (3 : Int).toNat) ++ runB d (ve - x)) (hu14) (by omega) (by (try simp only [List.length_append, bitsL_len]); have := runB_le d (ve - x); omega)) gX8_writeDrawn_X8_putRun kn_X8_putRun rfl ⟨rfl, rfl, Nat.le_of_ble_eq_true rfl, Nat.le_of_ble_eq_true rfl⟩ 0 rfl (ci := 10) rfl rfl (Nat.le_of_ble_eq_true rfl) ⟨Nat.le_of_ble_eq_true rfl, Nat.le_of_ble_eq_true rfl⟩ dX8_writeDrawn_168 (fun u15 hu15 => ?_)
              show V 0 0 (MW cy b kd co th rw cl (((((M ++ bitsL 1 (3 : Int).toNat) ++ runB d (ve - x)) ++ runB (!d) (vd - ve)).length : Nat) : Int) po dm sx x d fi vb vc hm se da sa bt u15) [(3, vI vd), (2, vI ve), (0, .ref (b 0)), (1, vI r)] [] 171
              refine z_aload_n C dX8_writeDrawn_171 2 rfl ?_
              refine z_iload_n C dX8_writeDrawn_172 0 rfl ?_
              refine z_put C hinX8 tyX8 tyX8_ok nmX8 (ci := 10) rfl 0 rfl 16 (by decide) k0 rfl rfl rfl rfl (Nat.le_of_ble_eq_true rfl) dX8_writeDrawn_173 (ws' := MW cy b kd co th rw cl (((((M ++ bitsL 1 (3 : Int).toNat) ++ runB d (ve - x)) ++ runB (!d) (vd - ve)).length : Nat) : Int) po dm sx vd d fi vb vc hm se da sa bt u15) rfl ?_
              refine z_aload_n C dX8_writeDrawn_176 2 rfl ?_
              refine z_iconst C (z := 0) dX8_writeDrawn_177 ?_
              refine z_put C hinX8 tyX8 tyX8_ok nmX8 (ci := 10) rfl 0 rfl 18 (by decide) k5 rfl rfl (z_narZ false).1 (z_narZ false).2 (Nat.le_of_ble_eq_true rfl) dX8_writeDrawn_178 (ws' := MW cy b kd co th rw cl (((((M ++ bitsL 1 (3 : Int).toNat) ++ runB d (ve - x)) ++ runB (!d) (vd - ve)).length : Nat) : Int) po dm sx vd d false vb vc hm se da sa bt u15) rfl ?_
              refine z_goto C (tgt := 4) dX8_writeDrawn_181 (by decide) ?_
              refine z_lsub C [2, 3] rfl ?_
              exact ih vd d false vb vc (k + 1) u15 (((M ++ bitsL 1 (3 : Int).toNat) ++ runB d (ve - x)) ++ runB (!d) (vd - ve)) (by omega) (by omega) (by rw [decide_eq_false (by omega)]) (Or.inr (fun z => by rw [evd] at z ⊢; exact nxt_eq z)) (hu15) (by rw [i3]; simp only [List.append_assoc]; first | done | rfl) (by omega)
            · have i3 : L ++ drB (pd da r) (pd da (r - 1)) co (co + 1).toNat 0 false true = M ++ (wayL (ve - vb + 3) ++ drB (pd da r) (pd da (r - 1)) co (co + 1 - (k + 1)).toNat ve (!d) false) := by
                rw [i2, show (co + 1 - k).toNat = (co + 1 - (k + 1)).toNat + 1 by omega, drB, if_pos (by omega), ← evc, ← evb, ← eve, if_neg (by omega), if_pos (by omega)]
              refine z_aload_n C dX8_writeDrawn_79 1 rfl ?_
              refine z_iload_n C dX8_writeDrawn_80 0 rfl ?_
              refine z_aload_n C dX8_writeDrawn_81 1 rfl ?_
              refine z_get C hinX8 (ci := 10) rfl 0 rfl 19 (by decide) k4 rfl (v := vI vb) rfl dX8_writeDrawn_82 ?_
              refine z_isub C dX8_writeDrawn_85 ?_
              refine z_callV C (As := [vI (ve - vb)]) (st := []) (c_X8_putStep l D cy tw b kd co th rw cl po dm sx x d fi vb vc hm se da sa bt o (ve - vb) M (hM) (by omega) (by omega)) gX8_writeDrawn_X8_putStep kn_X8_putStep rfl ⟨rfl, rfl, Nat.le_of_ble_eq_true rfl, Nat.le_of_ble_eq_true rfl⟩ 0 rfl (ci := 10) rfl rfl (Nat.le_of_ble_eq_true rfl) ⟨Nat.le_of_ble_eq_true rfl, Nat.le_of_ble_eq_true rfl⟩ dX8_writeDrawn_86 (fun u16 hu16 => ?_)
              show V 0 0 (MW cy b kd co th rw cl (((M ++ wayL ((ve - vb) + 3)).length : Nat) : Int) po dm sx x d fi vb vc hm se da sa bt u16) [(2, vI ve), (0, .ref (b 0)), (1, vI r)] [] 89
              refine z_aload_n C dX8_writeDrawn_89 1 rfl ?_
              refine z_iload_n C dX8_writeDrawn_90 0 rfl ?_
              refine z_put C hinX8 tyX8 tyX8_ok nmX8 (ci := 10) rfl 0 rfl 16 (by decide) k0 rfl rfl rfl rfl (Nat.le_of_ble_eq_true rfl) dX8_writeDrawn_91 (ws' := MW cy b kd co th rw cl (((M ++ wayL ((ve - vb) + 3)).length : Nat) : Int) po dm sx ve d fi vb vc hm se da sa bt u16) rfl ?_
              refine z_aload_n C dX8_writeDrawn_94 1 rfl ?_
              refine z_aload_n C dX8_writeDrawn_95 1 rfl ?_
              refine z_get C hinX8 (ci := 10) rfl 0 rfl 17 (by decide) k2 rfl (v := vI (b2i d)) rfl dX8_writeDrawn_96 ?_
              refine z_not C dX8_writeDrawn_99 dX8_writeDrawn_102 dX8_writeDrawn_103 dX8_writeDrawn_106 ?_
              refine z_put C hinX8 tyX8 tyX8_ok nmX8 (ci := 10) rfl 0 rfl 17 (by decide) k2 rfl rfl (z_narZ (!d)).1 (z_narZ (!d)).2 (Nat.le_of_ble_eq_true rfl) dX8_writeDrawn_107 (ws' := MW cy b kd co th rw cl (((M ++ wayL ((ve - vb) + 3)).length : Nat) : Int) po dm sx ve (!d) fi vb vc hm se da sa bt u16) rfl ?_
              refine z_goto C (tgt := 176) dX8_writeDrawn_110 (by decide) ?_
              refine z_aload_n C dX8_writeDrawn_176 1 rfl ?_
              refine z_iconst C (z := 0) dX8_writeDrawn_177 ?_
              refine z_put C hinX8 tyX8 tyX8_ok nmX8 (ci := 10) rfl 0 rfl 18 (by decide) k5 rfl rfl (z_narZ false).1 (z_narZ false).2 (Nat.le_of_ble_eq_true rfl) dX8_writeDrawn_178 (ws' := MW cy b kd co th rw cl (((M ++ wayL ((ve - vb) + 3)).length : Nat) : Int) po dm sx ve (!d) false vb vc hm se da sa bt u16) rfl ?_
              refine z_goto C (tgt := 4) dX8_writeDrawn_181 (by decide) ?_
              refine z_lsub C [1, 2] rfl ?_
              exact ih ve (!d) false vb vc (k + 1) u16 (M ++ wayL ((ve - vb) + 3)) (by omega) (by omega) (by rw [decide_eq_false (by omega)]) (Or.inr (fun z => by rw [eve] at z ⊢; exact nxt_eq z)) (hu16) (by rw [i3]; simp only [List.append_assoc]; first | done | rfl) (by omega)
        · have i3 : L ++ drB (pd da r) (pd da (r - 1)) co (co + 1).toNat 0 false true = M ++ (wayL 7 ++ drB (pd da r) (pd da (r - 1)) co (co + 1 - (k + 1)).toNat vc d false) := by
            rw [i2, show (co + 1 - k).toNat = (co + 1 - (k + 1)).toNat + 1 by omega, drB, if_pos (by omega), ← evc, ← evb, ← eve, if_pos (by omega)]
          have hg9 : pd da r vc = d := by have h9 := nxt_no (f := pd da r) (N := co) (d := !d) (x := x) (j := vc) (by omega) (by omega); rw [Bool.not_not] at h9; exact h9
          refine z_aload_n C dX8_writeDrawn_42 1 rfl ?_
          refine z_iconst C (z := 1) dX8_writeDrawn_43 ?_
          refine z_iconst C (z := 4) dX8_writeDrawn_44 ?_
          refine z_callV C (As := [vI 1, vI 4]) (st := []) (c_X8_putBits l D cy tw b kd co th rw cl po dm sx x d fi vb vc hm se da sa bt o 1 4 M (hM) (by omega) (by omega) (by omega)) gX8_writeDrawn_X8_putBits kn_X8_putBits rfl ⟨rfl, rfl, Nat.le_of_ble_eq_true rfl, Nat.le_of_ble_eq_true rfl⟩ 0 rfl (ci := 10) rfl rfl (Nat.le_of_ble_eq_true rfl) ⟨Nat.le_of_ble_eq_true rfl, Nat.le_of_ble_eq_true rfl⟩ dX8_writeDrawn_45 (fun u17 hu17 => ?_)
          show V 0 0 (MW cy b kd co th rw cl (((M ++ bitsL 1 (4 : Int).toNat).length : Nat) : Int) po dm sx x d fi vb vc hm se da sa bt u17) [(2, vI ve), (0, .ref (b 0)), (1, vI r)] [] 48
          refine z_aload_n C dX8_writeDrawn_48 1 rfl ?_
          refine z_aload_n C dX8_writeDrawn_49 1 rfl ?_
          refine z_get C hinX8 (ci := 10) rfl 0 rfl 20 (by decide) k3 rfl (v := vI vc) rfl dX8_writeDrawn_50 ?_
          refine z_put C hinX8 tyX8 tyX8_ok nmX8 (ci := 10) rfl 0 rfl 16 (by decide) k0 rfl rfl rfl rfl (Nat.le_of_ble_eq_true rfl) dX8_writeDrawn_53 (ws' := MW cy b kd co th rw cl (((M ++ bitsL 1 (4 : Int).toNat).length : Nat) : Int) po dm sx vc d fi vb vc hm se da sa bt u17) rfl ?_
          refine z_goto C (tgt := 176) dX8_writeDrawn_56 (by decide) ?_
          refine z_aload_n C dX8_writeDrawn_176 1 rfl ?_
          refine z_iconst C (z := 0) dX8_writeDrawn_177 ?_
          refine z_put C hinX8 tyX8 tyX8_ok nmX8 (ci := 10) rfl 0 rfl 18 (by decide) k5 rfl rfl (z_narZ false).1 (z_narZ false).2 (Nat.le_of_ble_eq_true rfl) dX8_writeDrawn_178 (ws' := MW cy b kd co th rw cl (((M ++ bitsL 1 (4 : Int).toNat).length : Nat) : Int) po dm sx vc d false vb vc hm se da sa bt u17) rfl ?_
          refine z_goto C (tgt := 4) dX8_writeDrawn_181 (by decide) ?_
          refine z_lsub C [1, 2] rfl ?_
          exact ih vc d false vb vc (k + 1) u17 (M ++ bitsL 1 (4 : Int).toNat) (by omega) (by omega) (by rw [decide_eq_false (by omega)]) (Or.inr (fun _ => hg9)) (hu17) (by rw [i3]; simp only [List.append_assoc]; first | done | rfl) (by omega)
  exact J4 _ 0 false true bb cz 0 oz L (by omega) (by omega) (by rw [decide_eq_true rfl]) (Or.inl rfl) (hL) (by simp) (Nat.lt_succ_self _)
theorem bits1 (b : Bool) : bitsL (b2i b) 1 = [b] := by cases b <;> rfl
theorem mkB_eq (kd : Int) (p : Bool) : mkB kd p = if kd = 1 then bitsL 1 12 ++ [p] else bitsL 1 12 := by
  unfold mkB; split
  · rw [bits1]
  · rw [List.append_nil]
theorem kn_X8_finish : zKn yX8_finish wsX8_finish cX8_finish 2 (none) 0 := ⟨⟨_, rfl⟩, by decide +kernel, by decide +kernel, by decide +kernel⟩
set_option maxHeartbeats 400000 in
set_option maxRecDepth 100000 in
theorem c_X8_finish (l : Launch) (D : va_G) (cy : Nat → ClassId) (tw : Nat → Nat) (b : Nat → Nat) (kd : Int) (co : Int) (th : Int) (rw : Int) (cl : Int) (po : Int) (dm : Int) (sx : Int) (aa : Int) (dk : Bool) (fi : Bool) (bb : Int) (cz : Int) (hm : Bool) (se : Nat → Bool) (da : Nat → Bool) (sa : Nat → Int) (bt : Nat → Int) (oz : Nat → Bool)  (L : List Bool) (hL : OZ oz L) (hk : 0 ≤ kd ∧ kd ≤ 2) (hroom : ((L.length : Nat) : Int) + 6000 ≤ 139999) : zMet l yX8_finish wsX8_finish { frames := 3, cells := 0, slots := 0, locals := 64 } D (zT cy) tw (MW cy b kd co th rw cl ((L.length : Nat) : Int) po dm sx aa dk fi bb cz hm se da sa bt oz) [.ref (b 0)] 0 0 (S := Nat → Bool) (fun _ => none) (fun u => MW cy b kd co th rw cl (((enB kd (se 0) (se 1) L).length : Nat) : Int) po dm sx aa dk fi bb cz hm se da sa bt u) (fun u => OZ u (enB kd (se 0) (se 1) L)) := by
  refine z_met (cc := cX8_finish) (nL := 2) (ret := none) (by decide +kernel) rfl (Nat.le_of_ble_eq_true rfl) (lv := [(0, .ref (b 0))]) rfl ?_
  intro V p_ e_ s_ m_ args_ below_ meth_ c_ A_ C hmn
  have hinX8 : ∀ w ∈ u_ws RX8 TX8 22, w ∈ wsX8_finish := by decide +kernel
  have k0 : Cond.fieldLink RX8 33 "FaxFilterModel" "kind" "I" ∈ wsX8_finish := List.mem_of_getElem? (i := 1) rfl
  have k1 : Cond.fieldLink RX8 16 "FaxFilterModel" "settings" "[Z" ∈ wsX8_finish := List.mem_of_getElem? (i := 2) rfl
  refine z_iconst C (z := 0) dX8_finish_0 ?_
  refine z_istore_n C (lv' := [(1, vI 0), (0, .ref (b 0))]) dX8_finish_1 rfl (by decide) rfl ?_
  have J2 : ∀ (f : Nat) (k : Int) (o : Nat → Bool) (M : List Bool), (0 ≤ k ∧ k ≤ 6) → (k = 0 ∨ hasMk kd (se 0) = true) → (OZ o M) → (M = L ++ repM kd k.toNat) → (6 - k).toNat < f → V 0 0 (MW cy b kd co th rw cl ((M.length : Nat) : Int) po dm sx aa dk fi bb cz hm se da sa bt o) [(0, .ref (b 0)), (1, vI k)] [] 2 := by
    intro f
    induction f with
    | zero => intro k o M i0 hk0 hM eM hf; exact absurd hf (Nat.not_lt_zero _)
    | succ f ih =>
      intro k o M i0 hk0 hM eM hf
      refine z_iload_n C dX8_finish_2 1 rfl ?_
      have q1 := congrArg List.length eM
      rw [List.length_append, repM_len] at q1
      have q1b : (if kd = 1 then 13 else 12 : Nat) ≤ 13 := by split <;> omega
      have q1c : k.toNat * (if kd = 1 then 13 else 12) ≤ 6 * 13 := Nat.mul_le_mul (by omega) q1b
      refine z_bipush C (z := 6) dX8_finish_3 (by decide) ?_
      refine z_icmp_ge C (by omega) (by decide) (tgt := 38) dX8_finish_5 (by decide) (fun hc_1 => ?_) (fun hc_1 => ?_)
      · refine z_aload_n C dX8_finish_38 0 rfl ?_
        refine z_get C hinX8 (ci := 10) rfl 0 rfl 1 (by decide) k0 rfl (v := vI kd) rfl dX8_finish_39 ?_
        refine z_iconst C (z := 2) dX8_finish_42 ?_
        refine z_icmp_ne C (by omega) (by decide) (tgt := 68) dX8_finish_43 (by decide) (fun hc_2 => ?_) (fun hc_2 => ?_)
        · refine z_aload_n C dX8_finish_68 0 rfl ?_
          refine z_iconst C (z := 0) dX8_finish_69 ?_
          refine z_callV C (As := [vI 0]) (st := []) (c_X8_fill l D cy tw b kd co th rw cl po dm sx aa dk fi bb cz hm se da sa bt o 0 M (hM) (by omega) (by have h8 := alB_len M 0; (try simp only [List.length_append, bitsL_len]); omega)) gX8_finish_X8_fill kn_X8_fill rfl ⟨rfl, rfl, Nat.le_of_ble_eq_true rfl, Nat.le_of_ble_eq_true rfl⟩ 0 rfl (ci := 10) rfl rfl (Nat.le_of_ble_eq_true rfl) ⟨Nat.le_of_ble_eq_true rfl, Nat.le_of_ble_eq_true rfl⟩ dX8_finish_70 (fun u3 hu3 => ?_)
          show V 0 0 (MW cy b kd co th rw cl (((M ++ alB M 0).length : Nat) : Int) po dm sx aa dk fi bb cz hm se da sa bt u3) [(0, .ref (b 0)), (1, vI k)] [] 73
          refine z_vret C dX8_finish_73 u3 ?_ ?_ ?_ (by decide) (by decide)
          · exact rfl
          · have e : enB kd (se 0) (se 1) L = (M ++ alB M 0) := by 
              have z2 : en2 kd (se 0) (se 1) L = M := by
                rw [en2, en1, decide_eq_false (by omega), hk0.resolve_left (by omega), Bool.false_and, if_neg (by decide), if_pos rfl, eM, show k = 6 by omega]; simp
              rw [enB, z2]
            rw [e]; exact hu3
          · have e : enB kd (se 0) (se 1) L = (M ++ alB M 0) := by 
              have z2 : en2 kd (se 0) (se 1) L = M := by
                rw [en2, en1, decide_eq_false (by omega), hk0.resolve_left (by omega), Bool.false_and, if_neg (by decide), if_pos rfl, eM, show k = 6 by omega]; simp
              rw [enB, z2]
            rw [e]
        · have cm2 : hasMk kd (se 0) = false := by rw [hasMk, decide_eq_false (by omega), decide_eq_false (by omega)]; rfl
          have hk9 := hk0.resolve_right (by rw [cm2]; decide)
          refine z_aload_n C dX8_finish_46 0 rfl ?_
          refine z_get C hinX8 (ci := 10) rfl 0 rfl 5 (by decide) k1 rfl (v := .ref (b 3)) rfl dX8_finish_47 ?_
          refine z_iconst C (z := 1) dX8_finish_50 ?_
          refine z_zald C 3 3 (g := se) rfl rfl (by omega) (by omega) (by decide) dX8_finish_51 ?_
          refine z_ifz C (tgt := 60) dX8_finish_52 (by decide) (fun ca => ?_) (fun ca => ?_)
          · refine z_aload_n C dX8_finish_60 0 rfl ?_
            refine z_callV C (As := []) (st := []) (c_X8_putMark l D cy tw b kd co th rw cl po dm sx aa dk fi bb cz hm se da sa bt o  M (hM) (by have h8 := alB_len M 0; (try simp only [List.length_append]); omega)) gX8_finish_X8_putMark kn_X8_putMark rfl ⟨rfl, rfl, Nat.le_of_ble_eq_true rfl, Nat.le_of_ble_eq_true rfl⟩ 0 rfl (ci := 10) rfl rfl (Nat.le_of_ble_eq_true rfl) ⟨Nat.le_of_ble_eq_true rfl, Nat.le_of_ble_eq_true rfl⟩ dX8_finish_61 (fun u4 hu4 => ?_)
            show V 0 0 (MW cy b kd co th rw cl (((M ++ bitsL 1 12).length : Nat) : Int) po dm sx aa dk fi bb cz hm se da sa bt u4) [(0, .ref (b 0)), (1, vI k)] [] 64
            refine z_aload_n C dX8_finish_64 0 rfl ?_
            refine z_callV C (As := []) (st := []) (c_X8_putMark l D cy tw b kd co th rw cl po dm sx aa dk fi bb cz hm se da sa bt u4  (M ++ bitsL 1 12) (hu4) (by have h8 := alB_len M 0; simp only [List.length_append, bitsL_len]; omega)) gX8_finish_X8_putMark kn_X8_putMark rfl ⟨rfl, rfl, Nat.le_of_ble_eq_true rfl, Nat.le_of_ble_eq_true rfl⟩ 0 rfl (ci := 10) rfl rfl (Nat.le_of_ble_eq_true rfl) ⟨Nat.le_of_ble_eq_true rfl, Nat.le_of_ble_eq_true rfl⟩ dX8_finish_65 (fun u5 hu5 => ?_)
            show V 0 0 (MW cy b kd co th rw cl ((((M ++ bitsL 1 12) ++ bitsL 1 12).length : Nat) : Int) po dm sx aa dk fi bb cz hm se da sa bt u5) [(0, .ref (b 0)), (1, vI k)] [] 68
            refine z_aload_n C dX8_finish_68 0 rfl ?_
            refine z_iconst C (z := 0) dX8_finish_69 ?_
            refine z_callV C (As := [vI 0]) (st := []) (c_X8_fill l D cy tw b kd co th rw cl po dm sx aa dk fi bb cz hm se da sa bt u5 0 ((M ++ bitsL 1 12) ++ bitsL 1 12) (hu5) (by omega) (by have h8 := alB_len M 0; (try simp only [List.length_append, bitsL_len]); omega)) gX8_finish_X8_fill kn_X8_fill rfl ⟨rfl, rfl, Nat.le_of_ble_eq_true rfl, Nat.le_of_ble_eq_true rfl⟩ 0 rfl (ci := 10) rfl rfl (Nat.le_of_ble_eq_true rfl) ⟨Nat.le_of_ble_eq_true rfl, Nat.le_of_ble_eq_true rfl⟩ dX8_finish_70 (fun u6 hu6 => ?_)
            show V 0 0 (MW cy b kd co th rw cl (((((M ++ bitsL 1 12) ++ bitsL 1 12) ++ alB ((M ++ bitsL 1 12) ++ bitsL 1 12) 0).length : Nat) : Int) po dm sx aa dk fi bb cz hm se da sa bt u6) [(0, .ref (b 0)), (1, vI k)] [] 73
            refine z_vret C dX8_finish_73 u6 ?_ ?_ ?_ (by decide) (by decide)
            · exact rfl
            · have e : enB kd (se 0) (se 1) L = (((M ++ bitsL 1 12) ++ bitsL 1 12) ++ alB ((M ++ bitsL 1 12) ++ bitsL 1 12) 0) := by 
                have z2 : en2 kd (se 0) (se 1) L = ((M ++ bitsL 1 12) ++ bitsL 1 12) := by
                  have z0 : M = L := (by rw [eM, hk9]; exact List.append_nil L)
                  have z1 : repM kd 2 = bitsL 1 12 ++ bitsL 1 12 := (by rw [repM, repM, repM, mkB_eq, if_neg (by omega), List.append_nil])
                  rw [en2, en1, cm2, decide_eq_true (by omega), show se 1 = _ from ca, if_neg (by decide), if_neg (by decide), if_pos (by omega), z1, z0]; simp
                rw [enB, z2]
              rw [e]; exact hu6
            · have e : enB kd (se 0) (se 1) L = (((M ++ bitsL 1 12) ++ bitsL 1 12) ++ alB ((M ++ bitsL 1 12) ++ bitsL 1 12) 0) := by 
                have z2 : en2 kd (se 0) (se 1) L = ((M ++ bitsL 1 12) ++ bitsL 1 12) := by
                  have z0 : M = L := (by rw [eM, hk9]; exact List.append_nil L)
                  have z1 : repM kd 2 = bitsL 1 12 ++ bitsL 1 12 := (by rw [repM, repM, repM, mkB_eq, if_neg (by omega), List.append_nil])
                  rw [en2, en1, cm2, decide_eq_true (by omega), show se 1 = _ from ca, if_neg (by decide), if_neg (by decide), if_pos (by omega), z1, z0]; simp
                rw [enB, z2]
              rw [e]
          · refine z_aload_n C dX8_finish_55 0 rfl ?_
            refine z_iconst C (z := 0) dX8_finish_56 ?_
            refine z_callV C (As := [vI 0]) (st := []) (c_X8_fill l D cy tw b kd co th rw cl po dm sx aa dk fi bb cz hm se da sa bt o 0 M (hM) (by omega) (by omega)) gX8_finish_X8_fill kn_X8_fill rfl ⟨rfl, rfl, Nat.le_of_ble_eq_true rfl, Nat.le_of_ble_eq_true rfl⟩ 0 rfl (ci := 10) rfl rfl (Nat.le_of_ble_eq_true rfl) ⟨Nat.le_of_ble_eq_true rfl, Nat.le_of_ble_eq_true rfl⟩ dX8_finish_57 (fun u7 hu7 => ?_)
            show V 0 0 (MW cy b kd co th rw cl (((M ++ alB M 0).length : Nat) : Int) po dm sx aa dk fi bb cz hm se da sa bt u7) [(0, .ref (b 0)), (1, vI k)] [] 60
            refine z_aload_n C dX8_finish_60 0 rfl ?_
            refine z_callV C (As := []) (st := []) (c_X8_putMark l D cy tw b kd co th rw cl po dm sx aa dk fi bb cz hm se da sa bt u7  (M ++ alB M 0) (hu7) (by have h8 := alB_len M 0; (try simp only [List.length_append]); omega)) gX8_finish_X8_putMark kn_X8_putMark rfl ⟨rfl, rfl, Nat.le_of_ble_eq_true rfl, Nat.le_of_ble_eq_true rfl⟩ 0 rfl (ci := 10) rfl rfl (Nat.le_of_ble_eq_true rfl) ⟨Nat.le_of_ble_eq_true rfl, Nat.le_of_ble_eq_true rfl⟩ dX8_finish_61 (fun u8 hu8 => ?_)
            show V 0 0 (MW cy b kd co th rw cl ((((M ++ alB M 0) ++ bitsL 1 12).length : Nat) : Int) po dm sx aa dk fi bb cz hm se da sa bt u8) [(0, .ref (b 0)), (1, vI k)] [] 64
            refine z_aload_n C dX8_finish_64 0 rfl ?_
            refine z_callV C (As := []) (st := []) (c_X8_putMark l D cy tw b kd co th rw cl po dm sx aa dk fi bb cz hm se da sa bt u8  ((M ++ alB M 0) ++ bitsL 1 12) (hu8) (by have h8 := alB_len M 0; simp only [List.length_append, bitsL_len]; omega)) gX8_finish_X8_putMark kn_X8_putMark rfl ⟨rfl, rfl, Nat.le_of_ble_eq_true rfl, Nat.le_of_ble_eq_true rfl⟩ 0 rfl (ci := 10) rfl rfl (Nat.le_of_ble_eq_true rfl) ⟨Nat.le_of_ble_eq_true rfl, Nat.le_of_ble_eq_true rfl⟩ dX8_finish_65 (fun u9 hu9 => ?_)
            show V 0 0 (MW cy b kd co th rw cl (((((M ++ alB M 0) ++ bitsL 1 12) ++ bitsL 1 12).length : Nat) : Int) po dm sx aa dk fi bb cz hm se da sa bt u9) [(0, .ref (b 0)), (1, vI k)] [] 68
            refine z_aload_n C dX8_finish_68 0 rfl ?_
            refine z_iconst C (z := 0) dX8_finish_69 ?_
            refine z_callV C (As := [vI 0]) (st := []) (c_X8_fill l D cy tw b kd co th rw cl po dm sx aa dk fi bb cz hm se da sa bt u9 0 (((M ++ alB M 0) ++ bitsL 1 12) ++ bitsL 1 12) (hu9) (by omega) (by have h8 := alB_len M 0; (try simp only [List.length_append, bitsL_len]); omega)) gX8_finish_X8_fill kn_X8_fill rfl ⟨rfl, rfl, Nat.le_of_ble_eq_true rfl, Nat.le_of_ble_eq_true rfl⟩ 0 rfl (ci := 10) rfl rfl (Nat.le_of_ble_eq_true rfl) ⟨Nat.le_of_ble_eq_true rfl, Nat.le_of_ble_eq_true rfl⟩ dX8_finish_70 (fun u10 hu10 => ?_)
            show V 0 0 (MW cy b kd co th rw cl ((((((M ++ alB M 0) ++ bitsL 1 12) ++ bitsL 1 12) ++ alB (((M ++ alB M 0) ++ bitsL 1 12) ++ bitsL 1 12) 0).length : Nat) : Int) po dm sx aa dk fi bb cz hm se da sa bt u10) [(0, .ref (b 0)), (1, vI k)] [] 73
            refine z_vret C dX8_finish_73 u10 ?_ ?_ ?_ (by decide) (by decide)
            · exact rfl
            · have e : enB kd (se 0) (se 1) L = ((((M ++ alB M 0) ++ bitsL 1 12) ++ bitsL 1 12) ++ alB (((M ++ alB M 0) ++ bitsL 1 12) ++ bitsL 1 12) 0) := by 
                have z2 : en2 kd (se 0) (se 1) L = (((M ++ alB M 0) ++ bitsL 1 12) ++ bitsL 1 12) := by
                  have z0 : M = L := (by rw [eM, hk9]; exact List.append_nil L)
                  have z1 : repM kd 2 = bitsL 1 12 ++ bitsL 1 12 := (by rw [repM, repM, repM, mkB_eq, if_neg (by omega), List.append_nil])
                  rw [en2, en1, cm2, decide_eq_true (by omega), show se 1 = _ from ca, Bool.and_self, if_pos rfl, if_neg (by decide), if_pos (by omega), z1, z0]; simp
                rw [enB, z2]
              rw [e]; exact hu10
            · have e : enB kd (se 0) (se 1) L = ((((M ++ alB M 0) ++ bitsL 1 12) ++ bitsL 1 12) ++ alB (((M ++ alB M 0) ++ bitsL 1 12) ++ bitsL 1 12) 0) := by 
                have z2 : en2 kd (se 0) (se 1) L = (((M ++ alB M 0) ++ bitsL 1 12) ++ bitsL 1 12) := by
                  have z0 : M = L := (by rw [eM, hk9]; exact List.append_nil L)
                  have z1 : repM kd 2 = bitsL 1 12 ++ bitsL 1 12 := (by rw [repM, repM, repM, mkB_eq, if_neg (by omega), List.append_nil])
                  rw [en2, en1, cm2, decide_eq_true (by omega), show se 1 = _ from ca, Bool.and_self, if_pos rfl, if_neg (by decide), if_pos (by omega), z1, z0]; simp
                rw [enB, z2]
              rw [e]
      · refine z_aload_n C dX8_finish_8 0 rfl ?_
        refine z_callV C (As := []) (st := []) (c_X8_hasMarks l D cy tw b kd co th rw cl ((M.length : Nat) : Int) po dm sx aa dk fi bb cz hm se da sa bt o   (by omega)) gX8_finish_X8_hasMarks kn_X8_hasMarks rfl ⟨rfl, rfl, Nat.le_of_ble_eq_true rfl, Nat.le_of_ble_eq_true rfl⟩ 0 rfl (ci := 10) rfl rfl (Nat.le_of_ble_eq_true rfl) ⟨Nat.le_of_ble_eq_true rfl, Nat.le_of_ble_eq_true rfl⟩ dX8_finish_9 (fun u11 hu11 => ?_)
        clear hu11; clear u11
        show V 0 0 (MW cy b kd co th rw cl ((M.length : Nat) : Int) po dm sx aa dk fi bb cz hm se da sa bt o) [(0, .ref (b 0)), (1, vI k)] [vI (b2i (hasMk kd (se 0)))] 12
        refine z_ifz C (tgt := 38) dX8_finish_12 (by decide) (fun cm => ?_) (fun cm => ?_)
        · refine z_aload_n C dX8_finish_38 0 rfl ?_
          refine z_get C hinX8 (ci := 10) rfl 0 rfl 1 (by decide) k0 rfl (v := vI kd) rfl dX8_finish_39 ?_
          refine z_iconst C (z := 2) dX8_finish_42 ?_
          refine z_icmp_ne C (by omega) (by decide) (tgt := 68) dX8_finish_43 (by decide) (fun hc_12 => ?_) (fun hc_12 => ?_)
          · refine z_aload_n C dX8_finish_68 0 rfl ?_
            refine z_iconst C (z := 0) dX8_finish_69 ?_
            refine z_callV C (As := [vI 0]) (st := []) (c_X8_fill l D cy tw b kd co th rw cl po dm sx aa dk fi bb cz hm se da sa bt o 0 M (hM) (by omega) (by have h8 := alB_len M 0; (try simp only [List.length_append, bitsL_len]); omega)) gX8_finish_X8_fill kn_X8_fill rfl ⟨rfl, rfl, Nat.le_of_ble_eq_true rfl, Nat.le_of_ble_eq_true rfl⟩ 0 rfl (ci := 10) rfl rfl (Nat.le_of_ble_eq_true rfl) ⟨Nat.le_of_ble_eq_true rfl, Nat.le_of_ble_eq_true rfl⟩ dX8_finish_70 (fun u13 hu13 => ?_)
            show V 0 0 (MW cy b kd co th rw cl (((M ++ alB M 0).length : Nat) : Int) po dm sx aa dk fi bb cz hm se da sa bt u13) [(0, .ref (b 0)), (1, vI k)] [] 73
            refine z_vret C dX8_finish_73 u13 ?_ ?_ ?_ (by decide) (by decide)
            · exact rfl
            · have e : enB kd (se 0) (se 1) L = (M ++ alB M 0) := by 
                have z2 : en2 kd (se 0) (se 1) L = M := by
                  rw [en2, en1, cm, decide_eq_false (by omega), Bool.false_and, if_neg (by decide), if_neg (by decide), if_neg (by omega), eM, hk0.resolve_right (by rw [cm]; decide)]; simp [repM]
                rw [enB, z2]
              rw [e]; exact hu13
            · have e : enB kd (se 0) (se 1) L = (M ++ alB M 0) := by 
                have z2 : en2 kd (se 0) (se 1) L = M := by
                  rw [en2, en1, cm, decide_eq_false (by omega), Bool.false_and, if_neg (by decide), if_neg (by decide), if_neg (by omega), eM, hk0.resolve_right (by rw [cm]; decide)]; simp [repM]
                rw [enB, z2]
              rw [e]
          · have cm2 : hasMk kd (se 0) = false := by rw [hasMk, decide_eq_false (by omega), decide_eq_false (by omega)]; rfl
            have hk9 := hk0.resolve_right (by rw [cm2]; decide)
            refine z_aload_n C dX8_finish_46 0 rfl ?_
            refine z_get C hinX8 (ci := 10) rfl 0 rfl 5 (by decide) k1 rfl (v := .ref (b 3)) rfl dX8_finish_47 ?_
            refine z_iconst C (z := 1) dX8_finish_50 ?_
            refine z_zald C 3 3 (g := se) rfl rfl (by omega) (by omega) (by decide) dX8_finish_51 ?_
            refine z_ifz C (tgt := 60) dX8_finish_52 (by decide) (fun ca => ?_) (fun ca => ?_)
            · refine z_aload_n C dX8_finish_60 0 rfl ?_
              refine z_callV C (As := []) (st := []) (c_X8_putMark l D cy tw b kd co th rw cl po dm sx aa dk fi bb cz hm se da sa bt o  M (hM) (by have h8 := alB_len M 0; (try simp only [List.length_append]); omega)) gX8_finish_X8_putMark kn_X8_putMark rfl ⟨rfl, rfl, Nat.le_of_ble_eq_true rfl, Nat.le_of_ble_eq_true rfl⟩ 0 rfl (ci := 10) rfl rfl (Nat.le_of_ble_eq_true rfl) ⟨Nat.le_of_ble_eq_true rfl, Nat.le_of_ble_eq_true rfl⟩ dX8_finish_61 (fun u14 hu14 => ?_)
              show V 0 0 (MW cy b kd co th rw cl (((M ++ bitsL 1 12).length : Nat) : Int) po dm sx aa dk fi bb cz hm se da sa bt u14) [(0, .ref (b 0)), (1, vI k)] [] 64
              refine z_aload_n C dX8_finish_64 0 rfl ?_
              refine z_callV C (As := []) (st := []) (c_X8_putMark l D cy tw b kd co th rw cl po dm sx aa dk fi bb cz hm se da sa bt u14  (M ++ bitsL 1 12) (hu14) (by have h8 := alB_len M 0; simp only [List.length_append, bitsL_len]; omega)) gX8_finish_X8_putMark kn_X8_putMark rfl ⟨rfl, rfl, Nat.le_of_ble_eq_true rfl, Nat.le_of_ble_eq_true rfl⟩ 0 rfl (ci := 10) rfl rfl (Nat.le_of_ble_eq_true rfl) ⟨Nat.le_of_ble_eq_true rfl, Nat.le_of_ble_eq_true rfl⟩ dX8_finish_65 (fun u15 hu15 => ?_)
              show V 0 0 (MW cy b kd co th rw cl ((((M ++ bitsL 1 12) ++ bitsL 1 12).length : Nat) : Int) po dm sx aa dk fi bb cz hm se da sa bt u15) [(0, .ref (b 0)), (1, vI k)] [] 68
              refine z_aload_n C dX8_finish_68 0 rfl ?_
              refine z_iconst C (z := 0) dX8_finish_69 ?_
              refine z_callV C (As := [vI 0]) (st := []) (c_X8_fill l D cy tw b kd co th rw cl po dm sx aa dk fi bb cz hm se da sa bt u15 0 ((M ++ bitsL 1 12) ++ bitsL 1 12) (hu15) (by omega) (by have h8 := alB_len M 0; (try simp only [List.length_append, bitsL_len]); omega)) gX8_finish_X8_fill kn_X8_fill rfl ⟨rfl, rfl, Nat.le_of_ble_eq_true rfl, Nat.le_of_ble_eq_true rfl⟩ 0 rfl (ci := 10) rfl rfl (Nat.le_of_ble_eq_true rfl) ⟨Nat.le_of_ble_eq_true rfl, Nat.le_of_ble_eq_true rfl⟩ dX8_finish_70 (fun u16 hu16 => ?_)
              show V 0 0 (MW cy b kd co th rw cl (((((M ++ bitsL 1 12) ++ bitsL 1 12) ++ alB ((M ++ bitsL 1 12) ++ bitsL 1 12) 0).length : Nat) : Int) po dm sx aa dk fi bb cz hm se da sa bt u16) [(0, .ref (b 0)), (1, vI k)] [] 73
              refine z_vret C dX8_finish_73 u16 ?_ ?_ ?_ (by decide) (by decide)
              · exact rfl
              · have e : enB kd (se 0) (se 1) L = (((M ++ bitsL 1 12) ++ bitsL 1 12) ++ alB ((M ++ bitsL 1 12) ++ bitsL 1 12) 0) := by 
                  have z2 : en2 kd (se 0) (se 1) L = ((M ++ bitsL 1 12) ++ bitsL 1 12) := by
                    have z0 : M = L := (by rw [eM, hk9]; exact List.append_nil L)
                    have z1 : repM kd 2 = bitsL 1 12 ++ bitsL 1 12 := (by rw [repM, repM, repM, mkB_eq, if_neg (by omega), List.append_nil])
                    rw [en2, en1, cm2, decide_eq_true (by omega), show se 1 = _ from ca, if_neg (by decide), if_neg (by decide), if_pos (by omega), z1, z0]; simp
                  rw [enB, z2]
                rw [e]; exact hu16
              · have e : enB kd (se 0) (se 1) L = (((M ++ bitsL 1 12) ++ bitsL 1 12) ++ alB ((M ++ bitsL 1 12) ++ bitsL 1 12) 0) := by 
                  have z2 : en2 kd (se 0) (se 1) L = ((M ++ bitsL 1 12) ++ bitsL 1 12) := by
                    have z0 : M = L := (by rw [eM, hk9]; exact List.append_nil L)
                    have z1 : repM kd 2 = bitsL 1 12 ++ bitsL 1 12 := (by rw [repM, repM, repM, mkB_eq, if_neg (by omega), List.append_nil])
                    rw [en2, en1, cm2, decide_eq_true (by omega), show se 1 = _ from ca, if_neg (by decide), if_neg (by decide), if_pos (by omega), z1, z0]; simp
                  rw [enB, z2]
                rw [e]
            · refine z_aload_n C dX8_finish_55 0 rfl ?_
              refine z_iconst C (z := 0) dX8_finish_56 ?_
              refine z_callV C (As := [vI 0]) (st := []) (c_X8_fill l D cy tw b kd co th rw cl po dm sx aa dk fi bb cz hm se da sa bt o 0 M (hM) (by omega) (by omega)) gX8_finish_X8_fill kn_X8_fill rfl ⟨rfl, rfl, Nat.le_of_ble_eq_true rfl, Nat.le_of_ble_eq_true rfl⟩ 0 rfl (ci := 10) rfl rfl (Nat.le_of_ble_eq_true rfl) ⟨Nat.le_of_ble_eq_true rfl, Nat.le_of_ble_eq_true rfl⟩ dX8_finish_57 (fun u17 hu17 => ?_)
              show V 0 0 (MW cy b kd co th rw cl (((M ++ alB M 0).length : Nat) : Int) po dm sx aa dk fi bb cz hm se da sa bt u17) [(0, .ref (b 0)), (1, vI k)] [] 60
              refine z_aload_n C dX8_finish_60 0 rfl ?_
              refine z_callV C (As := []) (st := []) (c_X8_putMark l D cy tw b kd co th rw cl po dm sx aa dk fi bb cz hm se da sa bt u17  (M ++ alB M 0) (hu17) (by have h8 := alB_len M 0; (try simp only [List.length_append]); omega)) gX8_finish_X8_putMark kn_X8_putMark rfl ⟨rfl, rfl, Nat.le_of_ble_eq_true rfl, Nat.le_of_ble_eq_true rfl⟩ 0 rfl (ci := 10) rfl rfl (Nat.le_of_ble_eq_true rfl) ⟨Nat.le_of_ble_eq_true rfl, Nat.le_of_ble_eq_true rfl⟩ dX8_finish_61 (fun u18 hu18 => ?_)
              show V 0 0 (MW cy b kd co th rw cl ((((M ++ alB M 0) ++ bitsL 1 12).length : Nat) : Int) po dm sx aa dk fi bb cz hm se da sa bt u18) [(0, .ref (b 0)), (1, vI k)] [] 64
              refine z_aload_n C dX8_finish_64 0 rfl ?_
              refine z_callV C (As := []) (st := []) (c_X8_putMark l D cy tw b kd co th rw cl po dm sx aa dk fi bb cz hm se da sa bt u18  ((M ++ alB M 0) ++ bitsL 1 12) (hu18) (by have h8 := alB_len M 0; simp only [List.length_append, bitsL_len]; omega)) gX8_finish_X8_putMark kn_X8_putMark rfl ⟨rfl, rfl, Nat.le_of_ble_eq_true rfl, Nat.le_of_ble_eq_true rfl⟩ 0 rfl (ci := 10) rfl rfl (Nat.le_of_ble_eq_true rfl) ⟨Nat.le_of_ble_eq_true rfl, Nat.le_of_ble_eq_true rfl⟩ dX8_finish_65 (fun u19 hu19 => ?_)
              show V 0 0 (MW cy b kd co th rw cl (((((M ++ alB M 0) ++ bitsL 1 12) ++ bitsL 1 12).length : Nat) : Int) po dm sx aa dk fi bb cz hm se da sa bt u19) [(0, .ref (b 0)), (1, vI k)] [] 68
              refine z_aload_n C dX8_finish_68 0 rfl ?_
              refine z_iconst C (z := 0) dX8_finish_69 ?_
              refine z_callV C (As := [vI 0]) (st := []) (c_X8_fill l D cy tw b kd co th rw cl po dm sx aa dk fi bb cz hm se da sa bt u19 0 (((M ++ alB M 0) ++ bitsL 1 12) ++ bitsL 1 12) (hu19) (by omega) (by have h8 := alB_len M 0; (try simp only [List.length_append, bitsL_len]); omega)) gX8_finish_X8_fill kn_X8_fill rfl ⟨rfl, rfl, Nat.le_of_ble_eq_true rfl, Nat.le_of_ble_eq_true rfl⟩ 0 rfl (ci := 10) rfl rfl (Nat.le_of_ble_eq_true rfl) ⟨Nat.le_of_ble_eq_true rfl, Nat.le_of_ble_eq_true rfl⟩ dX8_finish_70 (fun u20 hu20 => ?_)
              show V 0 0 (MW cy b kd co th rw cl ((((((M ++ alB M 0) ++ bitsL 1 12) ++ bitsL 1 12) ++ alB (((M ++ alB M 0) ++ bitsL 1 12) ++ bitsL 1 12) 0).length : Nat) : Int) po dm sx aa dk fi bb cz hm se da sa bt u20) [(0, .ref (b 0)), (1, vI k)] [] 73
              refine z_vret C dX8_finish_73 u20 ?_ ?_ ?_ (by decide) (by decide)
              · exact rfl
              · have e : enB kd (se 0) (se 1) L = ((((M ++ alB M 0) ++ bitsL 1 12) ++ bitsL 1 12) ++ alB (((M ++ alB M 0) ++ bitsL 1 12) ++ bitsL 1 12) 0) := by 
                  have z2 : en2 kd (se 0) (se 1) L = (((M ++ alB M 0) ++ bitsL 1 12) ++ bitsL 1 12) := by
                    have z0 : M = L := (by rw [eM, hk9]; exact List.append_nil L)
                    have z1 : repM kd 2 = bitsL 1 12 ++ bitsL 1 12 := (by rw [repM, repM, repM, mkB_eq, if_neg (by omega), List.append_nil])
                    rw [en2, en1, cm2, decide_eq_true (by omega), show se 1 = _ from ca, Bool.and_self, if_pos rfl, if_neg (by decide), if_pos (by omega), z1, z0]; simp
                  rw [enB, z2]
                rw [e]; exact hu20
              · have e : enB kd (se 0) (se 1) L = ((((M ++ alB M 0) ++ bitsL 1 12) ++ bitsL 1 12) ++ alB (((M ++ alB M 0) ++ bitsL 1 12) ++ bitsL 1 12) 0) := by 
                  have z2 : en2 kd (se 0) (se 1) L = (((M ++ alB M 0) ++ bitsL 1 12) ++ bitsL 1 12) := by
                    have z0 : M = L := (by rw [eM, hk9]; exact List.append_nil L)
                    have z1 : repM kd 2 = bitsL 1 12 ++ bitsL 1 12 := (by rw [repM, repM, repM, mkB_eq, if_neg (by omega), List.append_nil])
                    rw [en2, en1, cm2, decide_eq_true (by omega), show se 1 = _ from ca, Bool.and_self, if_pos rfl, if_neg (by decide), if_pos (by omega), z1, z0]; simp
                  rw [enB, z2]
                rw [e]
        · refine z_aload_n C dX8_finish_15 0 rfl ?_
          refine z_callV C (As := []) (st := []) (c_X8_putMark l D cy tw b kd co th rw cl po dm sx aa dk fi bb cz hm se da sa bt o  M (hM) (by omega)) gX8_finish_X8_putMark kn_X8_putMark rfl ⟨rfl, rfl, Nat.le_of_ble_eq_true rfl, Nat.le_of_ble_eq_true rfl⟩ 0 rfl (ci := 10) rfl rfl (Nat.le_of_ble_eq_true rfl) ⟨Nat.le_of_ble_eq_true rfl, Nat.le_of_ble_eq_true rfl⟩ dX8_finish_16 (fun u21 hu21 => ?_)
          show V 0 0 (MW cy b kd co th rw cl (((M ++ bitsL 1 12).length : Nat) : Int) po dm sx aa dk fi bb cz hm se da sa bt u21) [(0, .ref (b 0)), (1, vI k)] [] 19
          refine z_aload_n C dX8_finish_19 0 rfl ?_
          refine z_get C hinX8 (ci := 10) rfl 0 rfl 1 (by decide) k0 rfl (v := vI kd) rfl dX8_finish_20 ?_
          refine z_iconst C (z := 1) dX8_finish_23 ?_
          refine z_icmp_ne C (by omega) (by decide) (tgt := 32) dX8_finish_24 (by decide) (fun hc_22 => ?_) (fun hc_22 => ?_)
          · refine z_iinc C (lv' := [(1, vI (k + 1)), (0, .ref (b 0))]) dX8_finish_32 1 rfl (by decide) rfl ?_
            refine z_goto C (tgt := 2) dX8_finish_35 (by decide) ?_
            refine z_lsub C [1, 0] rfl ?_
            exact ih (k + 1) u21 (M ++ bitsL 1 12) (by omega) (Or.inr cm) (hu21) (by rw [show (k + 1).toNat = k.toNat + 1 by omega, repM_s, ← List.append_assoc, ← eM, mkB_eq, if_neg (by omega)]) (by omega)
          · refine z_aload_n C dX8_finish_27 0 rfl ?_
            refine z_iconst C (z := 1) dX8_finish_28 ?_
            refine z_callV C (As := [vI 1]) (st := []) (c_X8_putBit l D cy tw b kd co th rw cl po dm sx aa dk fi bb cz hm se da sa bt u21 true (M ++ bitsL 1 12) (hu21) (by simp only [List.length_append, bitsL_len]; omega)) gX8_finish_X8_putBit kn_X8_putBit rfl ⟨rfl, rfl, Nat.le_of_ble_eq_true rfl, Nat.le_of_ble_eq_true rfl⟩ 0 rfl (ci := 10) rfl rfl (Nat.le_of_ble_eq_true rfl) ⟨Nat.le_of_ble_eq_true rfl, Nat.le_of_ble_eq_true rfl⟩ dX8_finish_29 (fun u23 hu23 => ?_)
            show V 0 0 (MW cy b kd co th rw cl ((((M ++ bitsL 1 12) ++ [true]).length : Nat) : Int) po dm sx aa dk fi bb cz hm se da sa bt u23) [(0, .ref (b 0)), (1, vI k)] [] 32
            refine z_iinc C (lv' := [(1, vI (k + 1)), (0, .ref (b 0))]) dX8_finish_32 1 rfl (by decide) rfl ?_
            refine z_goto C (tgt := 2) dX8_finish_35 (by decide) ?_
            refine z_lsub C [1, 0] rfl ?_
            exact ih (k + 1) u23 ((M ++ bitsL 1 12) ++ [true]) (by omega) (Or.inr cm) (hu23) (by rw [show (k + 1).toNat = k.toNat + 1 by omega, repM_s, ← List.append_assoc, ← eM, mkB_eq, if_pos (by omega)]; simp) (by omega)
  refine z_lsub C [1, 0] rfl ?_
  exact J2 _ 0 oz L (by omega) (Or.inl rfl) (hL) (by simp [repM]) (Nat.lt_succ_self _)
