theorem kn_X8_write : zKn yX8_write wsX8_write cX8_write 2 (some .int) 0 := ⟨⟨_, rfl⟩, by decide +kernel, by decide +kernel, by decide +kernel⟩
set_option maxHeartbeats 2000000 in
set_option maxRecDepth 100000 in
theorem c_X8_write (l : Launch) (D : va_G) (cy : Nat → ClassId) (tw : Nat → Nat) (b : Nat → Nat) (kd : Int) (co : Int) (th : Int) (rw : Int) (cl : Int) (wr : Int) (po : Int) (dm : Int) (sx : Int) (aa : Int) (dk : Bool) (fi : Bool) (bb : Int) (cz : Int) (hm : Bool) (se : Nat → Bool) (da : Nat → Bool) (sa : Nat → Int) (bt : Nat → Int) (oz : Nat → Bool)   (hco : 1 ≤ co ∧ co ≤ 700) (hk : 0 ≤ kd ∧ kd ≤ 2) (hrw : 0 ≤ rw ∧ rw ≤ 24) : zMet l yX8_write wsX8_write { frames := 5, cells := 0, slots := 0, locals := 113 } D (zT cy) tw (MW cy b kd co th rw cl wr po dm sx aa dk fi bb cz hm se da sa bt oz) [.ref (b 0)] 0 0 (S := (Nat → Bool) × Int × Bool × Bool × Int × Int) (fun _ => some (vI ((((encA kd (se 0) (se 1) co (pd da) rw).length : Nat) : Int) / 8))) (fun u => MW cy b kd co 0 rw cl (((encA kd (se 0) (se 1) co (pd da) rw).length : Nat) : Int) po dm sx u.2.1 u.2.2.1 u.2.2.2.1 u.2.2.2.2.1 u.2.2.2.2.2 hm se da sa bt u.1) (fun u => OZ u.1 (encA kd (se 0) (se 1) co (pd da) rw)) := by
  refine z_met (cc := cX8_write) (nL := 2) (ret := some .int) (by decide +kernel) rfl (Nat.le_of_ble_eq_true rfl) (lv := [(0, .ref (b 0))]) rfl ?_
  intro V p_ e_ s_ m_ args_ below_ meth_ c_ A_ C hmn
  have hinX8 : ∀ w ∈ u_ws RX8 TX8 22, w ∈ wsX8_write := by decide +kernel
  have k0 : Cond.fieldLink RX8 44 "FaxFilterModel" "thrown" "I" ∈ wsX8_write := List.mem_of_getElem? (i := 1) rfl
  have k1 : Cond.fieldLink RX8 66 "FaxFilterModel" "written" "I" ∈ wsX8_write := List.mem_of_getElem? (i := 2) rfl
  have k2 : Cond.fieldLink RX8 60 "FaxFilterModel" "rows" "I" ∈ wsX8_write := List.mem_of_getElem? (i := 3) rfl
  have k3 : Cond.fieldLink RX8 16 "FaxFilterModel" "settings" "[Z" ∈ wsX8_write := List.mem_of_getElem? (i := 4) rfl
  have k4 : Cond.fieldLink RX8 33 "FaxFilterModel" "kind" "I" ∈ wsX8_write := List.mem_of_getElem? (i := 5) rfl
  refine z_aload_n C dX8_write_0 0 rfl ?_
  refine z_iconst C (z := 0) dX8_write_1 ?_
  refine z_put C hinX8 tyX8 tyX8_ok nmX8 (ci := 10) rfl 0 rfl 0 (by decide) k0 rfl rfl rfl rfl (Nat.le_of_ble_eq_true rfl) dX8_write_2 (ws' := MW cy b kd co 0 rw cl wr po dm sx aa dk fi bb cz hm se da sa bt oz) rfl ?_
  refine z_aload_n C dX8_write_5 0 rfl ?_
  refine z_iconst C (z := 0) dX8_write_6 ?_
  refine z_put C hinX8 tyX8 tyX8_ok nmX8 (ci := 10) rfl 0 rfl 11 (by decide) k1 rfl rfl rfl rfl (Nat.le_of_ble_eq_true rfl) dX8_write_7 (ws' := MW cy b kd co 0 rw cl 0 po dm sx aa dk fi bb cz hm se da sa bt oz) rfl ?_
  refine z_iconst C (z := 0) dX8_write_10 ?_
  refine z_istore_n C (lv' := [(1, vI 0), (0, .ref (b 0))]) dX8_write_11 rfl (by decide) rfl ?_
  have J12 : ∀ (f : Nat) (r : Int) (x : Int) (d : Bool) (fi2 : Bool) (w1 : Int) (w2 : Int) (o : Nat → Bool) (M : List Bool), (0 ≤ r ∧ r ≤ rw) → (OZ o M) → (M = encR kd (se 0) (se 1) co (pd da) r.toNat) → (rw - r).toNat < f → V 0 0 (MW cy b kd co 0 rw cl ((M.length : Nat) : Int) po dm sx x d fi2 w1 w2 hm se da sa bt o) [(0, .ref (b 0)), (1, vI r)] [] 12 := by
    intro f
    induction f with
    | zero => intro r x d fi2 w1 w2 o M i0 hM eM hf; exact absurd hf (Nat.not_lt_zero _)
    | succ f ih =>
      intro r x d fi2 w1 w2 o M i0 hM eM hf
      refine z_iload_n C dX8_write_12 1 rfl ?_
      refine z_aload_n C dX8_write_13 0 rfl ?_
      refine z_get C hinX8 (ci := 10) rfl 0 rfl 6 (by decide) k2 rfl (v := vI rw) rfl dX8_write_14 ?_
      refine z_icmp_ge C (by omega) (by omega) (tgt := 107) dX8_write_17 (by decide) (fun hc_1 => ?_) (fun hc_1 => ?_)
      · have eM2 : encR kd (se 0) (se 1) co (pd da) rw.toNat = M := by rw [eM, show r = rw by omega]
        have hb := (encR_bd kd (se 0) (se 1) (pd da) hco.1 hco.2 (n := r.toNat) (by omega)).1
        rw [← eM] at hb
        refine z_aload_n C dX8_write_107 0 rfl ?_
        refine z_callV C (As := []) (st := []) (c_X8_finish l D cy tw b kd co 0 rw cl po dm sx x d fi2 w1 w2 hm se da sa bt o  M (hM) (by omega) (by (try simp only [List.length_append, bitsL_len]); omega)) gX8_write_X8_finish kn_X8_finish rfl ⟨rfl, rfl, Nat.le_of_ble_eq_true rfl, Nat.le_of_ble_eq_true rfl⟩ 0 rfl (ci := 10) rfl rfl (Nat.le_of_ble_eq_true rfl) ⟨Nat.le_of_ble_eq_true rfl, Nat.le_of_ble_eq_true rfl⟩ dX8_write_108 (fun u2 hu2 => ?_)
        show V 0 0 (MW cy b kd co 0 rw cl (((enB kd (se 0) (se 1) M).length : Nat) : Int) po dm sx x d fi2 w1 w2 hm se da sa bt u2) [(0, .ref (b 0)), (1, vI r)] [] 111
        have hE := encA_bd kd (se 0) (se 1) (pd da) hco hrw
        rw [encA, eM2] at hE
        refine z_aload_n C dX8_write_111 0 rfl ?_
        refine z_get C hinX8 (ci := 10) rfl 0 rfl 11 (by decide) k1 rfl (v := vI (((enB kd (se 0) (se 1) M).length : Nat) : Int)) rfl dX8_write_112 ?_
        refine z_bipush C (z := 8) dX8_write_115 (by decide) ?_
        refine z_idiv C dX8_write_117 (by omega) (by decide) ?_
        refine z_iret (x := ((((enB kd (se 0) (se 1) M).length : Nat) : Int) / 8)) C dX8_write_118 (u2, x, d, fi2, w1, w2) ?_ ?_ ?_ (by decide) (by decide)
        · rw [encA, eM2]
        · rw [encA, eM2]; exact hu2
        · rw [encA, eM2]
      · have J80 : ∀ (o1 : Nat → Bool) (M1 : List Bool), (OZ o1 M1) → (M1 = M ++ stB kd (se 0) (se 1) M (isPl kd r)) → V 0 0 (MW cy b kd co 0 rw cl ((M1.length : Nat) : Int) po dm sx x d fi2 w1 w2 hm se da sa bt o1) [(0, .ref (b 0)), (1, vI r)] [] 80 := by
          intro o1 M1 hM1 e1
          refine z_aload_n C dX8_write_80 0 rfl ?_
          have hb := (encR_bd kd (se 0) (se 1) (pd da) hco.1 hco.2 (n := r.toNat) (by omega)).1
          rw [← eM] at hb
          have hs := stB_len kd (se 0) (se 1) M (isPl kd r)
          have ha12 := alB_len M 12
          have q1 := congrArg List.length e1
          rw [List.length_append] at q1
          refine z_iload_n C dX8_write_81 1 rfl ?_
          refine z_callV C (As := [vI r]) (st := []) (c_X8_isPlain l D cy tw b kd co 0 rw cl ((M1.length : Nat) : Int) po dm sx x d fi2 w1 w2 hm se da sa bt o1 r  (by omega) (by omega)) gX8_write_X8_isPlain kn_X8_isPlain rfl ⟨rfl, rfl, Nat.le_of_ble_eq_true rfl, Nat.le_of_ble_eq_true rfl⟩ 0 rfl (ci := 10) rfl rfl (Nat.le_of_ble_eq_true rfl) ⟨Nat.le_of_ble_eq_true rfl, Nat.le_of_ble_eq_true rfl⟩ dX8_write_82 (fun u3 hu3 => ?_)
          clear hu3; clear u3
          show V 0 0 (MW cy b kd co 0 rw cl ((M1.length : Nat) : Int) po dm sx x d fi2 w1 w2 hm se da sa bt o1) [(0, .ref (b 0)), (1, vI r)] [vI (b2i (isPl kd r))] 85
          refine z_ifz C (tgt := 96) dX8_write_85 (by decide) (fun cw => ?_) (fun cw => ?_)
          · refine z_aload_n C dX8_write_96 0 rfl ?_
            refine z_iload_n C dX8_write_97 1 rfl ?_
            refine z_callV C (As := [vI r]) (st := []) (c_X8_writeDrawn l D cy tw b kd co 0 rw cl po dm sx x d fi2 w1 w2 hm se da sa bt o1 r M1 (hM1) (by omega) (by omega) (by (try simp only [List.length_append, bitsL_len]); omega)) gX8_write_X8_writeDrawn kn_X8_writeDrawn rfl ⟨rfl, rfl, Nat.le_of_ble_eq_true rfl, Nat.le_of_ble_eq_true rfl⟩ 0 rfl (ci := 10) rfl rfl (Nat.le_of_ble_eq_true rfl) ⟨Nat.le_of_ble_eq_true rfl, Nat.le_of_ble_eq_true rfl⟩ dX8_write_98 (fun u4 hu4 => ?_)
            show V 0 0 (MW cy b kd co 0 rw cl (((M1 ++ drB (pd da r) (pd da (r - 1)) co (co + 1).toNat 0 false true).length : Nat) : Int) po dm sx u4.2.1 u4.2.2.1 u4.2.2.2.1 u4.2.2.2.2.1 u4.2.2.2.2.2 hm se da sa bt u4.1) [(0, .ref (b 0)), (1, vI r)] [] 101
            refine z_iinc C (lv' := [(1, vI (r + 1)), (0, .ref (b 0))]) dX8_write_101 1 rfl (by decide) rfl ?_
            refine z_goto C (tgt := 12) dX8_write_104 (by decide) ?_
            refine z_lsub C [1, 0] rfl ?_
            exact ih (r + 1) u4.2.1 u4.2.2.1 u4.2.2.2.1 u4.2.2.2.2.1 u4.2.2.2.2.2 u4.1 (M1 ++ drB (pd da r) (pd da (r - 1)) co (co + 1).toNat 0 false true) (by omega) (hu4) (by rw [show (r + 1).toNat = r.toNat + 1 by omega, encR, ← eM, bodyB, show ((r.toNat : Nat) : Int) = r by omega, ← e1, cw]; rfl) (by omega)
          · refine z_aload_n C dX8_write_88 0 rfl ?_
            refine z_iload_n C dX8_write_89 1 rfl ?_
            refine z_callV C (As := [vI r]) (st := []) (c_X8_writePlain l D cy tw b kd co 0 rw cl po dm sx x d fi2 w1 w2 hm se da sa bt o1 r M1 (hM1) (by omega) (by omega) (by (try simp only [List.length_append, bitsL_len]); omega)) gX8_write_X8_writePlain kn_X8_writePlain rfl ⟨rfl, rfl, Nat.le_of_ble_eq_true rfl, Nat.le_of_ble_eq_true rfl⟩ 0 rfl (ci := 10) rfl rfl (Nat.le_of_ble_eq_true rfl) ⟨Nat.le_of_ble_eq_true rfl, Nat.le_of_ble_eq_true rfl⟩ dX8_write_90 (fun u5 hu5 => ?_)
            show V 0 0 (MW cy b kd co 0 rw cl (((M1 ++ plB (pd da r) co (co + 1).toNat 0 false).length : Nat) : Int) po dm sx x d fi2 w1 w2 hm se da sa bt u5) [(0, .ref (b 0)), (1, vI r)] [] 93
            refine z_goto C (tgt := 101) dX8_write_93 (by decide) ?_
            refine z_iinc C (lv' := [(1, vI (r + 1)), (0, .ref (b 0))]) dX8_write_101 1 rfl (by decide) rfl ?_
            refine z_goto C (tgt := 12) dX8_write_104 (by decide) ?_
            refine z_lsub C [1, 0] rfl ?_
            exact ih (r + 1) x d fi2 w1 w2 u5 (M1 ++ plB (pd da r) co (co + 1).toNat 0 false) (by omega) (hu5) (by rw [show (r + 1).toNat = r.toNat + 1 by omega, encR, ← eM, bodyB, show ((r.toNat : Nat) : Int) = r by omega, ← e1, cw]; rfl) (by omega)
        have hb := (encR_bd kd (se 0) (se 1) (pd da) hco.1 hco.2 (n := r.toNat) (by omega)).1
        rw [← eM] at hb
        have hs := stB_len kd (se 0) (se 1) M (isPl kd r)
        have ha12 := alB_len M 12
        refine z_aload_n C dX8_write_20 0 rfl ?_
        refine z_callV C (As := []) (st := []) (c_X8_hasMarks l D cy tw b kd co 0 rw cl ((M.length : Nat) : Int) po dm sx x d fi2 w1 w2 hm se da sa bt o   (by omega)) gX8_write_X8_hasMarks kn_X8_hasMarks rfl ⟨rfl, rfl, Nat.le_of_ble_eq_true rfl, Nat.le_of_ble_eq_true rfl⟩ 0 rfl (ci := 10) rfl rfl (Nat.le_of_ble_eq_true rfl) ⟨Nat.le_of_ble_eq_true rfl, Nat.le_of_ble_eq_true rfl⟩ dX8_write_21 (fun u6 hu6 => ?_)
        clear hu6; clear u6
        show V 0 0 (MW cy b kd co 0 rw cl ((M.length : Nat) : Int) po dm sx x d fi2 w1 w2 hm se da sa bt o) [(0, .ref (b 0)), (1, vI r)] [vI (b2i (hasMk kd (se 0)))] 24
        refine z_ifz C (tgt := 66) dX8_write_24 (by decide) (fun cm => ?_) (fun cm => ?_)
        · refine z_aload_n C dX8_write_66 0 rfl ?_
          refine z_get C hinX8 (ci := 10) rfl 0 rfl 5 (by decide) k3 rfl (v := .ref (b 3)) rfl dX8_write_67 ?_
          refine z_iconst C (z := 1) dX8_write_70 ?_
          refine z_zald C 3 3 (g := se) rfl rfl (by omega) (by omega) (by decide) dX8_write_71 ?_
          refine z_ifz C (tgt := 80) dX8_write_72 (by decide) (fun ca => ?_) (fun ca => ?_)
          · exact J80 o M (hM) (by rw [stB, cm, if_neg (by decide), show se 1 = _ from ca, if_neg (by decide)]; simp)
          · refine z_aload_n C dX8_write_75 0 rfl ?_
            refine z_iconst C (z := 0) dX8_write_76 ?_
            refine z_callV C (As := [vI 0]) (st := []) (c_X8_fill l D cy tw b kd co 0 rw cl po dm sx x d fi2 w1 w2 hm se da sa bt o 0 M (hM) (by omega) (by (try simp only [List.length_append, bitsL_len]); omega)) gX8_write_X8_fill kn_X8_fill rfl ⟨rfl, rfl, Nat.le_of_ble_eq_true rfl, Nat.le_of_ble_eq_true rfl⟩ 0 rfl (ci := 10) rfl rfl (Nat.le_of_ble_eq_true rfl) ⟨Nat.le_of_ble_eq_true rfl, Nat.le_of_ble_eq_true rfl⟩ dX8_write_77 (fun u7 hu7 => ?_)
            show V 0 0 (MW cy b kd co 0 rw cl (((M ++ alB M 0).length : Nat) : Int) po dm sx x d fi2 w1 w2 hm se da sa bt u7) [(0, .ref (b 0)), (1, vI r)] [] 80
            exact J80 u7 (M ++ alB M 0) (hu7) (by rw [stB, cm, if_neg (by decide), show se 1 = _ from ca, if_pos rfl])
        · refine z_aload_n C dX8_write_27 0 rfl ?_
          refine z_get C hinX8 (ci := 10) rfl 0 rfl 5 (by decide) k3 rfl (v := .ref (b 3)) rfl dX8_write_28 ?_
          refine z_iconst C (z := 1) dX8_write_31 ?_
          refine z_zald C 3 3 (g := se) rfl rfl (by omega) (by omega) (by decide) dX8_write_32 ?_
          refine z_ifz C (tgt := 42) dX8_write_33 (by decide) (fun ca => ?_) (fun ca => ?_)
          · refine z_aload_n C dX8_write_42 0 rfl ?_
            refine z_callV C (As := []) (st := []) (c_X8_putMark l D cy tw b kd co 0 rw cl po dm sx x d fi2 w1 w2 hm se da sa bt o  M (hM) (by (try simp only [List.length_append, bitsL_len]); omega)) gX8_write_X8_putMark kn_X8_putMark rfl ⟨rfl, rfl, Nat.le_of_ble_eq_true rfl, Nat.le_of_ble_eq_true rfl⟩ 0 rfl (ci := 10) rfl rfl (Nat.le_of_ble_eq_true rfl) ⟨Nat.le_of_ble_eq_true rfl, Nat.le_of_ble_eq_true rfl⟩ dX8_write_43 (fun u8 hu8 => ?_)
            show V 0 0 (MW cy b kd co 0 rw cl (((M ++ bitsL 1 12).length : Nat) : Int) po dm sx x d fi2 w1 w2 hm se da sa bt u8) [(0, .ref (b 0)), (1, vI r)] [] 46
            refine z_aload_n C dX8_write_46 0 rfl ?_
            refine z_get C hinX8 (ci := 10) rfl 0 rfl 1 (by decide) k4 rfl (v := vI kd) rfl dX8_write_47 ?_
            refine z_iconst C (z := 1) dX8_write_50 ?_
            refine z_icmp_ne C (by omega) (by decide) (tgt := 80) dX8_write_51 (by decide) (fun hc_9 => ?_) (fun hc_9 => ?_)
            · exact J80 u8 (M ++ bitsL 1 12) (hu8) (by rw [stB, cm, if_pos rfl, show se 1 = _ from ca, if_neg (by decide), mkB_eq, if_neg (by omega)]; simp)
            · refine z_aload_n C dX8_write_54 0 rfl ?_
              refine z_aload_n C dX8_write_55 0 rfl ?_
              refine z_iload_n C dX8_write_56 1 rfl ?_
              refine z_callV C (As := [vI r]) (st := [.ref (b 0)]) (c_X8_isPlain l D cy tw b kd co 0 rw cl (((M ++ bitsL 1 12).length : Nat) : Int) po dm sx x d fi2 w1 w2 hm se da sa bt u8 r  (by omega) (by omega)) gX8_write_X8_isPlain kn_X8_isPlain rfl ⟨rfl, rfl, Nat.le_of_ble_eq_true rfl, Nat.le_of_ble_eq_true rfl⟩ 0 rfl (ci := 10) rfl rfl (Nat.le_of_ble_eq_true rfl) ⟨Nat.le_of_ble_eq_true rfl, Nat.le_of_ble_eq_true rfl⟩ dX8_write_57 (fun u10 hu10 => ?_)
              clear hu10; clear u10
              show V 0 0 (MW cy b kd co 0 rw cl (((M ++ bitsL 1 12).length : Nat) : Int) po dm sx x d fi2 w1 w2 hm se da sa bt u8) [(0, .ref (b 0)), (1, vI r)] [vI (b2i (isPl kd r)), .ref (b 0)] 60
              refine z_callV C (As := [vI (b2i (isPl kd r))]) (st := []) (c_X8_putBit l D cy tw b kd co 0 rw cl po dm sx x d fi2 w1 w2 hm se da sa bt u8 (isPl kd r) (M ++ bitsL 1 12) (hu8) (by (try simp only [List.length_append, bitsL_len]); omega)) gX8_write_X8_putBit kn_X8_putBit rfl ⟨rfl, rfl, Nat.le_of_ble_eq_true rfl, Nat.le_of_ble_eq_true rfl⟩ 0 rfl (ci := 10) rfl rfl (Nat.le_of_ble_eq_true rfl) ⟨Nat.le_of_ble_eq_true rfl, Nat.le_of_ble_eq_true rfl⟩ dX8_write_60 (fun u11 hu11 => ?_)
              show V 0 0 (MW cy b kd co 0 rw cl ((((M ++ bitsL 1 12) ++ [(isPl kd r)]).length : Nat) : Int) po dm sx x d fi2 w1 w2 hm se da sa bt u11) [(0, .ref (b 0)), (1, vI r)] [] 63
              refine z_goto C (tgt := 80) dX8_write_63 (by decide) ?_
              exact J80 u11 ((M ++ bitsL 1 12) ++ [(isPl kd r)]) (hu11) (by rw [stB, cm, if_pos rfl, show se 1 = _ from ca, if_neg (by decide), mkB_eq, if_pos (by omega)]; simp)
          · refine z_aload_n C dX8_write_36 0 rfl ?_
            refine z_bipush C (z := 12) dX8_write_37 (by decide) ?_
            refine z_callV C (As := [vI 12]) (st := []) (c_X8_fill l D cy tw b kd co 0 rw cl po dm sx x d fi2 w1 w2 hm se da sa bt o 12 M (hM) (by omega) (by (try simp only [List.length_append, bitsL_len]); omega)) gX8_write_X8_fill kn_X8_fill rfl ⟨rfl, rfl, Nat.le_of_ble_eq_true rfl, Nat.le_of_ble_eq_true rfl⟩ 0 rfl (ci := 10) rfl rfl (Nat.le_of_ble_eq_true rfl) ⟨Nat.le_of_ble_eq_true rfl, Nat.le_of_ble_eq_true rfl⟩ dX8_write_39 (fun u12 hu12 => ?_)
            show V 0 0 (MW cy b kd co 0 rw cl (((M ++ alB M 12).length : Nat) : Int) po dm sx x d fi2 w1 w2 hm se da sa bt u12) [(0, .ref (b 0)), (1, vI r)] [] 42
            refine z_aload_n C dX8_write_42 0 rfl ?_
            refine z_callV C (As := []) (st := []) (c_X8_putMark l D cy tw b kd co 0 rw cl po dm sx x d fi2 w1 w2 hm se da sa bt u12  (M ++ alB M 12) (hu12) (by (try simp only [List.length_append, bitsL_len]); omega)) gX8_write_X8_putMark kn_X8_putMark rfl ⟨rfl, rfl, Nat.le_of_ble_eq_true rfl, Nat.le_of_ble_eq_true rfl⟩ 0 rfl (ci := 10) rfl rfl (Nat.le_of_ble_eq_true rfl) ⟨Nat.le_of_ble_eq_true rfl, Nat.le_of_ble_eq_true rfl⟩ dX8_write_43 (fun u13 hu13 => ?_)
            show V 0 0 (MW cy b kd co 0 rw cl ((((M ++ alB M 12) ++ bitsL 1 12).length : Nat) : Int) po dm sx x d fi2 w1 w2 hm se da sa bt u13) [(0, .ref (b 0)), (1, vI r)] [] 46
            refine z_aload_n C dX8_write_46 0 rfl ?_
            refine z_get C hinX8 (ci := 10) rfl 0 rfl 1 (by decide) k4 rfl (v := vI kd) rfl dX8_write_47 ?_
            refine z_iconst C (z := 1) dX8_write_50 ?_
            refine z_icmp_ne C (by omega) (by decide) (tgt := 80) dX8_write_51 (by decide) (fun hc_14 => ?_) (fun hc_14 => ?_)
            · exact J80 u13 ((M ++ alB M 12) ++ bitsL 1 12) (hu13) (by rw [stB, cm, if_pos rfl, show se 1 = _ from ca, if_pos rfl, mkB_eq, if_neg (by omega)]; simp)
            · refine z_aload_n C dX8_write_54 0 rfl ?_
              refine z_aload_n C dX8_write_55 0 rfl ?_
              refine z_iload_n C dX8_write_56 1 rfl ?_
              refine z_callV C (As := [vI r]) (st := [.ref (b 0)]) (c_X8_isPlain l D cy tw b kd co 0 rw cl ((((M ++ alB M 12) ++ bitsL 1 12).length : Nat) : Int) po dm sx x d fi2 w1 w2 hm se da sa bt u13 r  (by omega) (by omega)) gX8_write_X8_isPlain kn_X8_isPlain rfl ⟨rfl, rfl, Nat.le_of_ble_eq_true rfl, Nat.le_of_ble_eq_true rfl⟩ 0 rfl (ci := 10) rfl rfl (Nat.le_of_ble_eq_true rfl) ⟨Nat.le_of_ble_eq_true rfl, Nat.le_of_ble_eq_true rfl⟩ dX8_write_57 (fun u15 hu15 => ?_)
              clear hu15; clear u15
              show V 0 0 (MW cy b kd co 0 rw cl ((((M ++ alB M 12) ++ bitsL 1 12).length : Nat) : Int) po dm sx x d fi2 w1 w2 hm se da sa bt u13) [(0, .ref (b 0)), (1, vI r)] [vI (b2i (isPl kd r)), .ref (b 0)] 60
              refine z_callV C (As := [vI (b2i (isPl kd r))]) (st := []) (c_X8_putBit l D cy tw b kd co 0 rw cl po dm sx x d fi2 w1 w2 hm se da sa bt u13 (isPl kd r) ((M ++ alB M 12) ++ bitsL 1 12) (hu13) (by (try simp only [List.length_append, bitsL_len]); omega)) gX8_write_X8_putBit kn_X8_putBit rfl ⟨rfl, rfl, Nat.le_of_ble_eq_true rfl, Nat.le_of_ble_eq_true rfl⟩ 0 rfl (ci := 10) rfl rfl (Nat.le_of_ble_eq_true rfl) ⟨Nat.le_of_ble_eq_true rfl, Nat.le_of_ble_eq_true rfl⟩ dX8_write_60 (fun u16 hu16 => ?_)
              show V 0 0 (MW cy b kd co 0 rw cl (((((M ++ alB M 12) ++ bitsL 1 12) ++ [(isPl kd r)]).length : Nat) : Int) po dm sx x d fi2 w1 w2 hm se da sa bt u16) [(0, .ref (b 0)), (1, vI r)] [] 63
              refine z_goto C (tgt := 80) dX8_write_63 (by decide) ?_
              exact J80 u16 (((M ++ alB M 12) ++ bitsL 1 12) ++ [(isPl kd r)]) (hu16) (by rw [stB, cm, if_pos rfl, show se 1 = _ from ca, if_pos rfl, mkB_eq, if_pos (by omega)]; simp)
  refine z_lsub C [1, 0] rfl ?_
  exact J12 _ 0 aa dk fi bb cz oz ([]) (by omega) (OZ_nil _) (rfl) (Nat.lt_succ_self _)
