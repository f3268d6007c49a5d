def TW (cy : Nat → ClassId) (a : Nat → Nat) (gb gc go gf : Nat → Int) : va_W := [(a 0, .inr (8, [.ref (a 1), .ref (a 2), .ref (a 3), .ref (a 4)])), (a 1, aI (cy 1) 74 gb), (a 2, aI (cy 1) 74 gc), (a 3, aI (cy 1) 74 go), (a 4, aI (cy 1) 74 gf)]
theorem kn_X6_init : zKn yX6_init wsX6_init cX6_init 7 (none) 1 := ⟨⟨_, rfl⟩, by decide +kernel, by decide +kernel, by decide +kernel⟩
set_option maxHeartbeats 2000000 in
set_option maxRecDepth 100000 in
theorem c_X6_initW (l : Launch) (D : va_G) (cy : Nat → ClassId) (tw : Nat → Nat) (h : Nat) : zMet l yX6_init wsX6_init { frames := 1, cells := 4, slots := 296, locals := 20 } D (zT cy) tw [(h, .inr (8, [.null, .null, .null, .null]))] [.ref h, .ref (tw 2)] 4 296 (S := Nat × Nat × Nat × Nat) (fun _ => none) (fun u => [(h, .inr (8, [.ref u.1, .ref u.2.1, .ref u.2.2.1, .ref u.2.2.2])), (u.1, aI (cy 1) 74 (tB false)), (u.2.1, aI (cy 1) 74 (tC false)), (u.2.2.1, aI (cy 1) 74 (tO false)), (u.2.2.2, aI (cy 1) 74 (tF false))]) (fun _ => True) := by
  refine z_met (cc := cX6_init) (nL := 7) (ret := none) (by decide +kernel) rfl (Nat.le_of_ble_eq_true rfl) (lv := [(0, .ref h), (1, .ref (tw 2))]) rfl ?_
  intro V p_ e_ s_ m_ args_ below_ meth_ c_ A_ C hmn0
  have hmn : meth_.name = "<init>" := hmn0
  have hinX6 : ∀ w ∈ u_ws RX6 TX6 4, w ∈ wsX6_init := by decide +kernel
  have k0 : Cond.fieldLink RX6 11 "FaxFilter$Table" "bits" "[I" ∈ wsX6_init := List.mem_of_getElem? (i := 5) rfl
  have k1 : Cond.fieldLink RX6 15 "FaxFilter$Table" "codes" "[I" ∈ wsX6_init := List.mem_of_getElem? (i := 6) rfl
  have k2 : Cond.fieldLink RX6 18 "FaxFilter$Table" "ordered" "[I" ∈ wsX6_init := List.mem_of_getElem? (i := 7) rfl
  have k3 : Cond.fieldLink RX6 21 "FaxFilter$Table" "floors" "[I" ∈ wsX6_init := List.mem_of_getElem? (i := 8) rfl
  have k4 : Cond.methodLink RX6 3 objectInit ∈ wsX6_init := List.mem_of_getElem? (i := 1) rfl
  have k5 : Cond.instanceMethod objectInit ∈ wsX6_init := List.mem_of_getElem? (i := 2) rfl
  have k6 : Cond.code objectInit ⟨#[0xb1]⟩ 1 none ∈ wsX6_init := List.mem_of_getElem? (i := 3) rfl
  have k7 : Cond.arrayClass .int ∈ wsX6_init := List.mem_of_getElem? (i := 4) rfl
  have J36 : ∀ a : Nat → Nat, a 0 = h → V 4 296 (TW cy a (fun _ => 0) (fun _ => 0) (fun _ => 0) (fun _ => 0)) [(0, .ref (a 0)), (1, .ref (tw 2))] [] 36 := by
    intro a ha
    refine z_sipush C (z := 4096) dX6_init_36 (by decide) ?_
    refine z_istore_n C (lv' := [(2, vI 4096), (0, .ref (a 0)), (1, .ref (tw 2))]) dX6_init_39 rfl (by decide) rfl ?_
    refine z_iconst C (z := 0) dX6_init_40 ?_
    refine z_istore_n C (lv' := [(3, vI 0), (2, vI 4096), (0, .ref (a 0)), (1, .ref (tw 2))]) dX6_init_41 rfl (by decide) rfl ?_
    refine z_iconst C (z := 1) dX6_init_42 ?_
    refine z_istore C (lv' := [(4, vI 1), (3, vI 0), (2, vI 4096), (0, .ref (a 0)), (1, .ref (tw 2))]) dX6_init_43 (by decide) rfl ?_
    have J45 : ∀ (f : Nat) (fl : Int) (rk : Int) (n4 : Int) (gb : Nat → Int) (gc : Nat → Int) (go : Nat → Int) (gf : Nat → Int), (1 ≤ n4 ∧ n4 ≤ 13) → (fl = (ttOut (tB false) (n4 - 1).toNat).1 ∧ rk = (ttOut (tB false) (n4 - 1).toNat).2.1 ∧ gb = LG (ttOut (tB false) (n4 - 1).toNat).2.2.1 ∧ gc = LG (ttOut (tB false) (n4 - 1).toNat).2.2.2.1 ∧ go = LG (ttOut (tB false) (n4 - 1).toNat).2.2.2.2.1 ∧ gf = LG (ttOut (tB false) (n4 - 1).toNat).2.2.2.2.2) → (13 - n4).toNat < f → V 4 296 (TW cy a gb gc go gf) [(0, .ref (a 0)), (1, .ref (tw 2)), (2, vI fl), (3, vI rk), (4, vI n4)] [] 45 := by
      intro f
      induction f with
      | zero => intro fl rk n4 gb gc go gf i0 e45 hf; exact absurd hf (Nat.not_lt_zero _)
      | succ f ih45 =>
        intro fl rk n4 gb gc go gf i0 e45 hf
        refine z_iload C dX6_init_45 4 rfl ?_
        refine z_bipush C (z := 12) dX6_init_47 (by decide) ?_
        refine z_icmp_gt C (by omega) (by decide) (tgt := 148) dX6_init_49 (by decide) (fun hc_101 => ?_) (fun hc_101 => ?_)
        · obtain ⟨e1, e2, e3, e4, e5, e6⟩ := e45
          refine z_aeq C 1 (tB false) rfl (fun i hi => by rw [e3, show (n4 - 1).toNat = 12 by omega, (tt_end false).1]; exact LG_map _ hi) (ws' := TW cy a (tB false) gc go gf) rfl ?_
          refine z_aeq C 2 (tC false) rfl (fun i hi => by rw [e4, show (n4 - 1).toNat = 12 by omega, (tt_end false).2.1]; exact LG_map _ hi) (ws' := TW cy a (tB false) (tC false) go gf) rfl ?_
          refine z_aeq C 3 (tO false) rfl (fun i hi => by rw [e5, show (n4 - 1).toNat = 12 by omega, (tt_end false).2.2.1]; exact LG_map _ hi) (ws' := TW cy a (tB false) (tC false) (tO false) gf) rfl ?_
          refine z_aeq C 4 (tF false) rfl (fun i hi => by rw [e6, show (n4 - 1).toNat = 12 by omega, (tt_end false).2.2.2]; exact LG_map _ hi) (ws' := TW cy a (tB false) (tC false) (tO false) (tF false)) rfl ?_
          refine z_vret C dX6_init_148 (a 1, a 2, a 3, a 4) ?_ ?_ ?_ (by decide) (by decide)
          · exact rfl
          · exact trivial
          · rw [← ha]; rfl
        · refine z_bipush C (z := 12) dX6_init_52 (by decide) ?_
          refine z_iload C dX6_init_54 4 rfl ?_
          refine z_isub C dX6_init_56 ?_
          refine z_istore C (lv' := [(5, vI (12 - n4)), (0, .ref (a 0)), (1, .ref (tw 2)), (2, vI fl), (3, vI rk), (4, vI n4)]) dX6_init_57 (by decide) rfl ?_
          refine z_iconst C (z := 0) dX6_init_59 ?_
          refine z_istore C (lv' := [(6, vI 0), (5, vI (12 - n4)), (0, .ref (a 0)), (1, .ref (tw 2)), (2, vI fl), (3, vI rk), (4, vI n4)]) dX6_init_60 (by decide) rfl ?_
          have J62 : ∀ (f : Nat) (fl : Int) (rk : Int) (n6 : Int) (gb : Nat → Int) (gc : Nat → Int) (go : Nat → Int) (gf : Nat → Int), (0 ≤ n6 ∧ n6 ≤ 74) → (fl = (ttIn (tB false) n4 n6.toNat (ttOut (tB false) (n4 - 1).toNat)).1 ∧ rk = (ttIn (tB false) n4 n6.toNat (ttOut (tB false) (n4 - 1).toNat)).2.1 ∧ gb = LG (ttIn (tB false) n4 n6.toNat (ttOut (tB false) (n4 - 1).toNat)).2.2.1 ∧ gc = LG (ttIn (tB false) n4 n6.toNat (ttOut (tB false) (n4 - 1).toNat)).2.2.2.1 ∧ go = LG (ttIn (tB false) n4 n6.toNat (ttOut (tB false) (n4 - 1).toNat)).2.2.2.2.1 ∧ gf = LG (ttIn (tB false) n4 n6.toNat (ttOut (tB false) (n4 - 1).toNat)).2.2.2.2.2) → (74 - n6).toNat < f → V 4 296 (TW cy a gb gc go gf) [(0, .ref (a 0)), (1, .ref (tw 2)), (2, vI fl), (3, vI rk), (4, vI n4), (5, vI (12 - n4)), (6, vI n6)] [] 62 := by
            intro f
            induction f with
            | zero => intro fl rk n6 gb gc go gf j0 e62 hf; exact absurd hf (Nat.not_lt_zero _)
            | succ f ih62 =>
              intro fl rk n6 gb gc go gf j0 e62 hf
              refine z_iload C dX6_init_62 6 rfl ?_
              obtain ⟨e1, e2, e3, e4, e5, e6⟩ := e62
              obtain ⟨o1, o2, o3, o4, o5, o6⟩ := okT_in (tB false) (len := n4) (by omega) (okT_out (tB false) (n4 - 1).toNat (by omega)) n6.toNat
              rw [← e2] at o1
              rw [← e1, ← e2] at o2
              refine z_bipush C (z := 74) dX6_init_64 (by decide) ?_
              refine z_icmp_ge C (by omega) (by decide) (tgt := 142) dX6_init_66 (by decide) (fun hc_102 => ?_) (fun hc_102 => ?_)
              · refine z_iinc C (lv' := [(4, vI (n4 + 1)), (0, .ref (a 0)), (1, .ref (tw 2)), (2, vI fl), (3, vI rk), (5, vI (12 - n4)), (6, vI n6)]) dX6_init_142 4 rfl (by decide) rfl ?_
                refine z_goto C (tgt := 45) dX6_init_145 (by decide) ?_
                refine z_lsub C [1, 2, 3, 4, 0] rfl ?_
                exact ih45 fl rk (n4 + 1) gb gc go gf (by omega) (by rw [show (n4 + 1 - 1).toNat = (n4 - 1).toNat + 1 by omega, ttOut, show (((n4 - 1).toNat : Nat) : Int) + 1 = n4 by omega, ← show n6.toNat = 74 by omega]; exact ⟨e1, e2, e3, e4, e5, e6⟩) (by omega)
              · refine z_iload C dX6_init_69 6 rfl ?_
                refine z_aload_n C dX6_init_71 1 rfl ?_
                refine z_statlen2 C dX6_init_72 ?_
                refine z_icmp_ge C (by omega) (by decide) (tgt := 142) dX6_init_73 (by decide) (fun hc_103 => ?_) (fun hc_103 => ?_)
                · exfalso; omega
                · refine z_aload_n C dX6_init_76 1 rfl ?_
                  refine z_iload C dX6_init_77 6 rfl ?_
                  refine z_statld2 C (by omega) (by omega) dX6_init_79 ?_
                  have hlr : 2 ≤ lenW n6.toNat ∧ lenW n6.toNat ≤ 12 := by have := (tab_rg false n6.toNat (by omega)).2.2.1; exact this
                  refine z_iload C dX6_init_80 4 rfl ?_
                  refine z_icmp_ne C (by omega) (by omega) (tgt := 136) dX6_init_82 (by decide) (fun hc_104 => ?_) (fun hc_104 => ?_)
                  · have hst : ttIn (tB false) n4 (n6 + 1).toNat (ttOut (tB false) (n4 - 1).toNat) = (ttIn (tB false) n4 n6.toNat (ttOut (tB false) (n4 - 1).toNat)) := by
                      rw [show (n6 + 1).toNat = n6.toNat + 1 by omega, ttIn, ttSt, if_neg (show ¬ tB false n6.toNat = n4 from by show ¬ lenW n6.toNat = n4; omega)]
                    refine z_iinc C (lv' := [(6, vI (n6 + 1)), (0, .ref (a 0)), (1, .ref (tw 2)), (2, vI fl), (3, vI rk), (4, vI n4), (5, vI (12 - n4))]) dX6_init_136 6 rfl (by decide) rfl ?_
                    refine z_goto C (tgt := 62) dX6_init_139 (by decide) ?_
                    refine z_lsub C [1, 2, 3, 4, 5, 6, 0] rfl ?_
                    exact ih62 fl rk (n6 + 1) gb gc go gf (by omega) (by rw [hst]; exact ⟨e1, e2, e3, e4, e5, e6⟩) (by omega)
                  · refine z_iload_n C dX6_init_85 3 rfl ?_
                    refine z_bipush C (z := 74) dX6_init_86 (by decide) ?_
                    refine z_icmp_ge C (by omega) (by decide) (tgt := 136) dX6_init_88 (by decide) (fun hc_105 => ?_) (fun hc_105 => ?_)
                    · have hst : ttIn (tB false) n4 (n6 + 1).toNat (ttOut (tB false) (n4 - 1).toNat) = (ttIn (tB false) n4 n6.toNat (ttOut (tB false) (n4 - 1).toNat)) := by
                        rw [show (n6 + 1).toNat = n6.toNat + 1 by omega, ttIn, ttSt, if_pos (show tB false n6.toNat = n4 from by show lenW n6.toNat = n4; omega), if_neg (by rw [← e2]; omega)]
                      refine z_iinc C (lv' := [(6, vI (n6 + 1)), (0, .ref (a 0)), (1, .ref (tw 2)), (2, vI fl), (3, vI rk), (4, vI n4), (5, vI (12 - n4))]) dX6_init_136 6 rfl (by decide) rfl ?_
                      refine z_goto C (tgt := 62) dX6_init_139 (by decide) ?_
                      refine z_lsub C [1, 2, 3, 4, 5, 6, 0] rfl ?_
                      exact ih62 fl rk (n6 + 1) gb gc go gf (by omega) (by rw [hst]; exact ⟨e1, e2, e3, e4, e5, e6⟩) (by omega)
                    · refine z_iload_n C dX6_init_91 2 rfl ?_
                      refine z_iconst C (z := 1) dX6_init_92 ?_
                      refine z_iload C dX6_init_93 5 rfl ?_
                      refine z_ishl C ((12 - n4).toNat) dX6_init_95 (by omega) (by omega) ?_
                      refine z_isub C dX6_init_96 ?_
                      refine z_nmI (fun fl2 efl2 => ?_)
                      refine z_istore_n C (lv' := [(2, vI fl2), (0, .ref (a 0)), (1, .ref (tw 2)), (3, vI rk), (4, vI n4), (5, vI (12 - n4)), (6, vI n6)]) dX6_init_97 rfl (by decide) rfl ?_
                      have hp : (2 : Int) ^ (12 - n4).toNat ≤ 2 ^ 11 := pow2_le (by omega)
                      have hp0 : (0 : Int) < 2 ^ (12 - n4).toNat := Int.pow_pos (by decide)
                      have h11 : (2 : Int) ^ 11 = 2048 := by decide
                      have hst : ttIn (tB false) n4 (n6 + 1).toNat (ttOut (tB false) (n4 - 1).toNat) = (fl2, rk + 1, (ttIn (tB false) n4 n6.toNat (ttOut (tB false) (n4 - 1).toNat)).2.2.1.set n6.toNat n4, (ttIn (tB false) n4 n6.toNat (ttOut (tB false) (n4 - 1).toNat)).2.2.2.1.set n6.toNat (fl2 / 2 ^ (12 - n4).toNat), (ttIn (tB false) n4 n6.toNat (ttOut (tB false) (n4 - 1).toNat)).2.2.2.2.1.set rk.toNat n6, (ttIn (tB false) n4 n6.toNat (ttOut (tB false) (n4 - 1).toNat)).2.2.2.2.2.set rk.toNat fl2) := by
                        rw [show (n6 + 1).toNat = n6.toNat + 1 by omega, ttIn, ttSt, if_pos (show tB false n6.toNat = n4 from by show lenW n6.toNat = n4; omega), if_pos (by rw [← e2]; omega), ← e1, ← e2, show ((n6.toNat : Nat) : Int) = n6 by omega, show fl - 2 ^ (12 - n4).toNat = fl2 by omega]
                      refine z_aload_n C dX6_init_98 1 rfl ?_
                      refine z_get C hinX6 (ci := 8) rfl 0 rfl 0 (by decide) k0 rfl (v := .ref (a 1)) rfl dX6_init_99 ?_
                      refine z_iload C dX6_init_102 6 rfl ?_
                      refine z_iload C dX6_init_104 4 rfl ?_
                      refine z_iast C 1 1 (g := gb) rfl rfl (by omega) (by omega) (by decide) dX6_init_106 (ws' := TW cy a (va_up gb (n6 : Int).toNat n4) gc go gf) rfl ?_
                      refine z_aload_n C dX6_init_107 1 rfl ?_
                      refine z_get C hinX6 (ci := 8) rfl 0 rfl 1 (by decide) k1 rfl (v := .ref (a 2)) rfl dX6_init_108 ?_
                      refine z_iload C dX6_init_111 6 rfl ?_
                      refine z_iload_n C dX6_init_113 0 rfl ?_
                      refine z_iload C dX6_init_114 5 rfl ?_
                      refine z_ishr C ((12 - n4).toNat) dX6_init_116 (by omega) (by omega) (by omega) ?_
                      refine z_iast C 2 1 (g := gc) rfl rfl (by omega) (by omega) (by decide) dX6_init_117 (ws' := TW cy a (va_up gb (n6 : Int).toNat n4) (va_up gc (n6 : Int).toNat (fl2 / 2 ^ (12 - n4).toNat)) go gf) rfl ?_
                      refine z_aload_n C dX6_init_118 1 rfl ?_
                      refine z_get C hinX6 (ci := 8) rfl 0 rfl 2 (by decide) k2 rfl (v := .ref (a 3)) rfl dX6_init_119 ?_
                      refine z_iload_n C dX6_init_122 3 rfl ?_
                      refine z_iload C dX6_init_123 6 rfl ?_
                      refine z_iast C 3 1 (g := go) rfl rfl (by omega) (by omega) (by decide) dX6_init_125 (ws' := TW cy a (va_up gb (n6 : Int).toNat n4) (va_up gc (n6 : Int).toNat (fl2 / 2 ^ (12 - n4).toNat)) (va_up go (rk : Int).toNat n6) gf) rfl ?_
                      refine z_aload_n C dX6_init_126 1 rfl ?_
                      refine z_get C hinX6 (ci := 8) rfl 0 rfl 3 (by decide) k3 rfl (v := .ref (a 4)) rfl dX6_init_127 ?_
                      refine z_iload_n C dX6_init_130 3 rfl ?_
                      refine z_iload_n C dX6_init_131 0 rfl ?_
                      refine z_iast C 4 1 (g := gf) rfl rfl (by omega) (by omega) (by decide) dX6_init_132 (ws' := TW cy a (va_up gb (n6 : Int).toNat n4) (va_up gc (n6 : Int).toNat (fl2 / 2 ^ (12 - n4).toNat)) (va_up go (rk : Int).toNat n6) (va_up gf (rk : Int).toNat fl2)) rfl ?_
                      refine z_iinc C (lv' := [(3, vI (rk + 1)), (2, vI fl2), (0, .ref (a 0)), (1, .ref (tw 2)), (4, vI n4), (5, vI (12 - n4)), (6, vI n6)]) dX6_init_133 3 rfl (by decide) rfl ?_
                      refine z_iinc C (lv' := [(6, vI (n6 + 1)), (3, vI (rk + 1)), (2, vI fl2), (0, .ref (a 0)), (1, .ref (tw 2)), (4, vI n4), (5, vI (12 - n4))]) dX6_init_136 6 rfl (by decide) rfl ?_
                      refine z_goto C (tgt := 62) dX6_init_139 (by decide) ?_
                      refine z_lsub C [3, 4, 2, 1, 5, 6, 0] rfl ?_
                      exact ih62 fl2 (rk + 1) (n6 + 1) (va_up gb (n6 : Int).toNat n4) (va_up gc (n6 : Int).toNat (fl2 / 2 ^ (12 - n4).toNat)) (va_up go (rk : Int).toNat n6) (va_up gf (rk : Int).toNat fl2) (by omega) (⟨by rw [hst], by rw [hst], by rw [hst, e3]; exact LG_up (by rw [o3]; omega) _, by rw [hst, e4]; exact LG_up (by rw [o4]; omega) _, by rw [hst, e5]; exact LG_up (by rw [o5]; omega) _, by rw [hst, e6]; exact LG_up (by rw [o6]; omega) _⟩) (by omega)
          refine z_lsub C [2, 3, 4, 5, 6, 1, 0] rfl ?_
          exact J62 _ fl rk 0 gb gc go gf (by omega) (e45) (Nat.lt_succ_self _)
    refine z_lsub C [3, 4, 2, 1, 0] rfl ?_
    exact J45 _ 4096 0 1 (fun _ => 0) (fun _ => 0) (fun _ => 0) (fun _ => 0) (by omega) (⟨rfl, rfl, (LG_0 74).symm, (LG_0 74).symm, (LG_0 74).symm, (LG_0 74).symm⟩) (Nat.lt_succ_self _)
  refine z_aload_n C dX6_init_0 0 rfl ?_
  refine z_objInit C k4 k5 k6 (Nat.le_of_ble_eq_true rfl) (Nat.le_of_ble_eq_true rfl) dX6_init_1 ?_
  refine z_aload_n C dX6_init_4 0 rfl ?_
  refine z_bipush C (z := 74) dX6_init_5 (by decide) ?_
  refine z_newaI C 74 (rfl) (Nat.le_of_ble_eq_true rfl) k7 1 rfl (Nat.le_of_ble_eq_true rfl) (Nat.le_of_ble_eq_true rfl) dX6_init_7 (fun q1 => ?_)
  show V 1 74 [(h, .inr (8, [.null, .null, .null, .null])), (q1, aI (cy 1) 74 (fun _ => 0))] [(0, .ref h), (1, .ref (tw 2))] [.ref q1, .ref h] 9
  refine z_putF C hmn hinX6 tyX6 tyX6_ok nmX6 (ci := 8) rfl 0 rfl 0 (by decide) k0 rfl rfl rfl rfl rfl (Nat.le_of_ble_eq_true rfl) dX6_init_9 (ws' := [(h, .inr (8, [.ref q1, .null, .null, .null])), (q1, aI (cy 1) 74 (fun _ => 0))]) rfl ?_
  refine z_aload_n C dX6_init_12 0 rfl ?_
  refine z_bipush C (z := 74) dX6_init_13 (by decide) ?_
  refine z_newaI C 74 (rfl) (Nat.le_of_ble_eq_true rfl) k7 1 rfl (Nat.le_of_ble_eq_true rfl) (Nat.le_of_ble_eq_true rfl) dX6_init_15 (fun q2 => ?_)
  show V 2 148 [(h, .inr (8, [.ref q1, .null, .null, .null])), (q1, aI (cy 1) 74 (fun _ => 0)), (q2, aI (cy 1) 74 (fun _ => 0))] [(0, .ref h), (1, .ref (tw 2))] [.ref q2, .ref h] 17
  refine z_putF C hmn hinX6 tyX6 tyX6_ok nmX6 (ci := 8) rfl 0 rfl 1 (by decide) k1 rfl rfl rfl rfl rfl (Nat.le_of_ble_eq_true rfl) dX6_init_17 (ws' := [(h, .inr (8, [.ref q1, .ref q2, .null, .null])), (q1, aI (cy 1) 74 (fun _ => 0)), (q2, aI (cy 1) 74 (fun _ => 0))]) rfl ?_
  refine z_aload_n C dX6_init_20 0 rfl ?_
  refine z_bipush C (z := 74) dX6_init_21 (by decide) ?_
  refine z_newaI C 74 (rfl) (Nat.le_of_ble_eq_true rfl) k7 1 rfl (Nat.le_of_ble_eq_true rfl) (Nat.le_of_ble_eq_true rfl) dX6_init_23 (fun q3 => ?_)
  show V 3 222 [(h, .inr (8, [.ref q1, .ref q2, .null, .null])), (q1, aI (cy 1) 74 (fun _ => 0)), (q2, aI (cy 1) 74 (fun _ => 0)), (q3, aI (cy 1) 74 (fun _ => 0))] [(0, .ref h), (1, .ref (tw 2))] [.ref q3, .ref h] 25
  refine z_putF C hmn hinX6 tyX6 tyX6_ok nmX6 (ci := 8) rfl 0 rfl 2 (by decide) k2 rfl rfl rfl rfl rfl (Nat.le_of_ble_eq_true rfl) dX6_init_25 (ws' := [(h, .inr (8, [.ref q1, .ref q2, .ref q3, .null])), (q1, aI (cy 1) 74 (fun _ => 0)), (q2, aI (cy 1) 74 (fun _ => 0)), (q3, aI (cy 1) 74 (fun _ => 0))]) rfl ?_
  refine z_aload_n C dX6_init_28 0 rfl ?_
  refine z_bipush C (z := 74) dX6_init_29 (by decide) ?_
  refine z_newaI C 74 (rfl) (Nat.le_of_ble_eq_true rfl) k7 1 rfl (Nat.le_of_ble_eq_true rfl) (Nat.le_of_ble_eq_true rfl) dX6_init_31 (fun q4 => ?_)
  show V 4 296 [(h, .inr (8, [.ref q1, .ref q2, .ref q3, .null])), (q1, aI (cy 1) 74 (fun _ => 0)), (q2, aI (cy 1) 74 (fun _ => 0)), (q3, aI (cy 1) 74 (fun _ => 0)), (q4, aI (cy 1) 74 (fun _ => 0))] [(0, .ref h), (1, .ref (tw 2))] [.ref q4, .ref h] 33
  refine z_putF C hmn hinX6 tyX6 tyX6_ok nmX6 (ci := 8) rfl 0 rfl 3 (by decide) k3 rfl rfl rfl rfl rfl (Nat.le_of_ble_eq_true rfl) dX6_init_33 (ws' := [(h, .inr (8, [.ref q1, .ref q2, .ref q3, .ref q4])), (q1, aI (cy 1) 74 (fun _ => 0)), (q2, aI (cy 1) 74 (fun _ => 0)), (q3, aI (cy 1) 74 (fun _ => 0)), (q4, aI (cy 1) 74 (fun _ => 0))]) rfl ?_
  exact J36 (fun i => match i with | 0 => h | 1 => q1 | 2 => q2 | 3 => q3 | _ => q4) rfl
set_option maxHeartbeats 2000000 in
set_option maxRecDepth 100000 in
theorem c_X6_initD (l : Launch) (D : va_G) (cy : Nat → ClassId) (tw : Nat → Nat) (h : Nat) : zMet l yX6_init wsX6_init { frames := 1, cells := 4, slots := 296, locals := 20 } D (zT cy) tw [(h, .inr (8, [.null, .null, .null, .null]))] [.ref h, .ref (tw 3)] 4 296 (S := Nat × Nat × Nat × Nat) (fun _ => none) (fun u => [(h, .inr (8, [.ref u.1, .ref u.2.1, .ref u.2.2.1, .ref u.2.2.2])), (u.1, aI (cy 1) 74 (tB true)), (u.2.1, aI (cy 1) 74 (tC true)), (u.2.2.1, aI (cy 1) 74 (tO true)), (u.2.2.2, aI (cy 1) 74 (tF true))]) (fun _ => True) := by
  refine z_met (cc := cX6_init) (nL := 7) (ret := none) (by decide +kernel) rfl (Nat.le_of_ble_eq_true rfl) (lv := [(0, .ref h), (1, .ref (tw 3))]) rfl ?_
  intro V p_ e_ s_ m_ args_ below_ meth_ c_ A_ C hmn0
  have hmn : meth_.name = "<init>" := hmn0
  have hinX6 : ∀ w ∈ u_ws RX6 TX6 4, w ∈ wsX6_init := by decide +kernel
  have k0 : Cond.fieldLink RX6 11 "FaxFilter$Table" "bits" "[I" ∈ wsX6_init := List.mem_of_getElem? (i := 5) rfl
  have k1 : Cond.fieldLink RX6 15 "FaxFilter$Table" "codes" "[I" ∈ wsX6_init := List.mem_of_getElem? (i := 6) rfl
  have k2 : Cond.fieldLink RX6 18 "FaxFilter$Table" "ordered" "[I" ∈ wsX6_init := List.mem_of_getElem? (i := 7) rfl
  have k3 : Cond.fieldLink RX6 21 "FaxFilter$Table" "floors" "[I" ∈ wsX6_init := List.mem_of_getElem? (i := 8) rfl
  have k4 : Cond.methodLink RX6 3 objectInit ∈ wsX6_init := List.mem_of_getElem? (i := 1) rfl
  have k5 : Cond.instanceMethod objectInit ∈ wsX6_init := List.mem_of_getElem? (i := 2) rfl
  have k6 : Cond.code objectInit ⟨#[0xb1]⟩ 1 none ∈ wsX6_init := List.mem_of_getElem? (i := 3) rfl
  have k7 : Cond.arrayClass .int ∈ wsX6_init := List.mem_of_getElem? (i := 4) rfl
  have J36 : ∀ a : Nat → Nat, a 0 = h → V 4 296 (TW cy a (fun _ => 0) (fun _ => 0) (fun _ => 0) (fun _ => 0)) [(0, .ref (a 0)), (1, .ref (tw 3))] [] 36 := by
    intro a ha
    refine z_sipush C (z := 4096) dX6_init_36 (by decide) ?_
    refine z_istore_n C (lv' := [(2, vI 4096), (0, .ref (a 0)), (1, .ref (tw 3))]) dX6_init_39 rfl (by decide) rfl ?_
    refine z_iconst C (z := 0) dX6_init_40 ?_
    refine z_istore_n C (lv' := [(3, vI 0), (2, vI 4096), (0, .ref (a 0)), (1, .ref (tw 3))]) dX6_init_41 rfl (by decide) rfl ?_
    refine z_iconst C (z := 1) dX6_init_42 ?_
    refine z_istore C (lv' := [(4, vI 1), (3, vI 0), (2, vI 4096), (0, .ref (a 0)), (1, .ref (tw 3))]) dX6_init_43 (by decide) rfl ?_
    have J45 : ∀ (f : Nat) (fl : Int) (rk : Int) (n4 : Int) (gb : Nat → Int) (gc : Nat → Int) (go : Nat → Int) (gf : Nat → Int), (1 ≤ n4 ∧ n4 ≤ 13) → (fl = (ttOut (tB true) (n4 - 1).toNat).1 ∧ rk = (ttOut (tB true) (n4 - 1).toNat).2.1 ∧ gb = LG (ttOut (tB true) (n4 - 1).toNat).2.2.1 ∧ gc = LG (ttOut (tB true) (n4 - 1).toNat).2.2.2.1 ∧ go = LG (ttOut (tB true) (n4 - 1).toNat).2.2.2.2.1 ∧ gf = LG (ttOut (tB true) (n4 - 1).toNat).2.2.2.2.2) → (13 - n4).toNat < f → V 4 296 (TW cy a gb gc go gf) [(0, .ref (a 0)), (1, .ref (tw 3)), (2, vI fl), (3, vI rk), (4, vI n4)] [] 45 := by
      intro f
      induction f with
      | zero => intro fl rk n4 gb gc go gf i0 e45 hf; exact absurd hf (Nat.not_lt_zero _)
      | succ f ih45 =>
        intro fl rk n4 gb gc go gf i0 e45 hf
        refine z_iload C dX6_init_45 4 rfl ?_
        refine z_bipush C (z := 12) dX6_init_47 (by decide) ?_
        refine z_icmp_gt C (by omega) (by decide) (tgt := 148) dX6_init_49 (by decide) (fun hc_101 => ?_) (fun hc_101 => ?_)
        · obtain ⟨e1, e2, e3, e4, e5, e6⟩ := e45
          refine z_aeq C 1 (tB true) rfl (fun i hi => by rw [e3, show (n4 - 1).toNat = 12 by omega, (tt_end true).1]; exact LG_map _ hi) (ws' := TW cy a (tB true) gc go gf) rfl ?_
          refine z_aeq C 2 (tC true) rfl (fun i hi => by rw [e4, show (n4 - 1).toNat = 12 by omega, (tt_end true).2.1]; exact LG_map _ hi) (ws' := TW cy a (tB true) (tC true) go gf) rfl ?_
          refine z_aeq C 3 (tO true) rfl (fun i hi => by rw [e5, show (n4 - 1).toNat = 12 by omega, (tt_end true).2.2.1]; exact LG_map _ hi) (ws' := TW cy a (tB true) (tC true) (tO true) gf) rfl ?_
          refine z_aeq C 4 (tF true) rfl (fun i hi => by rw [e6, show (n4 - 1).toNat = 12 by omega, (tt_end true).2.2.2]; exact LG_map _ hi) (ws' := TW cy a (tB true) (tC true) (tO true) (tF true)) rfl ?_
          refine z_vret C dX6_init_148 (a 1, a 2, a 3, a 4) ?_ ?_ ?_ (by decide) (by decide)
          · exact rfl
          · exact trivial
          · rw [← ha]; rfl
        · refine z_bipush C (z := 12) dX6_init_52 (by decide) ?_
          refine z_iload C dX6_init_54 4 rfl ?_
          refine z_isub C dX6_init_56 ?_
          refine z_istore C (lv' := [(5, vI (12 - n4)), (0, .ref (a 0)), (1, .ref (tw 3)), (2, vI fl), (3, vI rk), (4, vI n4)]) dX6_init_57 (by decide) rfl ?_
          refine z_iconst C (z := 0) dX6_init_59 ?_
          refine z_istore C (lv' := [(6, vI 0), (5, vI (12 - n4)), (0, .ref (a 0)), (1, .ref (tw 3)), (2, vI fl), (3, vI rk), (4, vI n4)]) dX6_init_60 (by decide) rfl ?_
          have J62 : ∀ (f : Nat) (fl : Int) (rk : Int) (n6 : Int) (gb : Nat → Int) (gc : Nat → Int) (go : Nat → Int) (gf : Nat → Int), (0 ≤ n6 ∧ n6 ≤ 74) → (fl = (ttIn (tB true) n4 n6.toNat (ttOut (tB true) (n4 - 1).toNat)).1 ∧ rk = (ttIn (tB true) n4 n6.toNat (ttOut (tB true) (n4 - 1).toNat)).2.1 ∧ gb = LG (ttIn (tB true) n4 n6.toNat (ttOut (tB true) (n4 - 1).toNat)).2.2.1 ∧ gc = LG (ttIn (tB true) n4 n6.toNat (ttOut (tB true) (n4 - 1).toNat)).2.2.2.1 ∧ go = LG (ttIn (tB true) n4 n6.toNat (ttOut (tB true) (n4 - 1).toNat)).2.2.2.2.1 ∧ gf = LG (ttIn (tB true) n4 n6.toNat (ttOut (tB true) (n4 - 1).toNat)).2.2.2.2.2) → (74 - n6).toNat < f → V 4 296 (TW cy a gb gc go gf) [(0, .ref (a 0)), (1, .ref (tw 3)), (2, vI fl), (3, vI rk), (4, vI n4), (5, vI (12 - n4)), (6, vI n6)] [] 62 := by
            intro f
            induction f with
            | zero => intro fl rk n6 gb gc go gf j0 e62 hf; exact absurd hf (Nat.not_lt_zero _)
            | succ f ih62 =>
              intro fl rk n6 gb gc go gf j0 e62 hf
              refine z_iload C dX6_init_62 6 rfl ?_
              obtain ⟨e1, e2, e3, e4, e5, e6⟩ := e62
              obtain ⟨o1, o2, o3, o4, o5, o6⟩ := okT_in (tB true) (len := n4) (by omega) (okT_out (tB true) (n4 - 1).toNat (by omega)) n6.toNat
              rw [← e2] at o1
              rw [← e1, ← e2] at o2
              refine z_bipush C (z := 74) dX6_init_64 (by decide) ?_
              refine z_icmp_ge C (by omega) (by decide) (tgt := 142) dX6_init_66 (by decide) (fun hc_102 => ?_) (fun hc_102 => ?_)
              · refine z_iinc C (lv' := [(4, vI (n4 + 1)), (0, .ref (a 0)), (1, .ref (tw 3)), (2, vI fl), (3, vI rk), (5, vI (12 - n4)), (6, vI n6)]) dX6_init_142 4 rfl (by decide) rfl ?_
                refine z_goto C (tgt := 45) dX6_init_145 (by decide) ?_
                refine z_lsub C [1, 2, 3, 4, 0] rfl ?_
                exact ih45 fl rk (n4 + 1) gb gc go gf (by omega) (by rw [show (n4 + 1 - 1).toNat = (n4 - 1).toNat + 1 by omega, ttOut, show (((n4 - 1).toNat : Nat) : Int) + 1 = n4 by omega, ← show n6.toNat = 74 by omega]; exact ⟨e1, e2, e3, e4, e5, e6⟩) (by omega)
              · refine z_iload C dX6_init_69 6 rfl ?_
                refine z_aload_n C dX6_init_71 1 rfl ?_
                refine z_statlen3 C dX6_init_72 ?_
                refine z_icmp_ge C (by omega) (by decide) (tgt := 142) dX6_init_73 (by decide) (fun hc_103 => ?_) (fun hc_103 => ?_)
                · exfalso; omega
                · refine z_aload_n C dX6_init_76 1 rfl ?_
                  refine z_iload C dX6_init_77 6 rfl ?_
                  refine z_statld3 C (by omega) (by omega) dX6_init_79 ?_
                  have hlr : 2 ≤ lenD n6.toNat ∧ lenD n6.toNat ≤ 12 := by have := (tab_rg true n6.toNat (by omega)).2.2.1; exact this
                  refine z_iload C dX6_init_80 4 rfl ?_
                  refine z_icmp_ne C (by omega) (by omega) (tgt := 136) dX6_init_82 (by decide) (fun hc_104 => ?_) (fun hc_104 => ?_)
                  · have hst : ttIn (tB true) n4 (n6 + 1).toNat (ttOut (tB true) (n4 - 1).toNat) = (ttIn (tB true) n4 n6.toNat (ttOut (tB true) (n4 - 1).toNat)) := by
                      rw [show (n6 + 1).toNat = n6.toNat + 1 by omega, ttIn, ttSt, if_neg (show ¬ tB true n6.toNat = n4 from by show ¬ lenD n6.toNat = n4; omega)]
                    refine z_iinc C (lv' := [(6, vI (n6 + 1)), (0, .ref (a 0)), (1, .ref (tw 3)), (2, vI fl), (3, vI rk), (4, vI n4), (5, vI (12 - n4))]) dX6_init_136 6 rfl (by decide) rfl ?_
                    refine z_goto C (tgt := 62) dX6_init_139 (by decide) ?_
                    refine z_lsub C [1, 2, 3, 4, 5, 6, 0] rfl ?_
                    exact ih62 fl rk (n6 + 1) gb gc go gf (by omega) (by rw [hst]; exact ⟨e1, e2, e3, e4, e5, e6⟩) (by omega)
                  · refine z_iload_n C dX6_init_85 3 rfl ?_
                    refine z_bipush C (z := 74) dX6_init_86 (by decide) ?_
                    refine z_icmp_ge C (by omega) (by decide) (tgt := 136) dX6_init_88 (by decide) (fun hc_105 => ?_) (fun hc_105 => ?_)
                    · have hst : ttIn (tB true) n4 (n6 + 1).toNat (ttOut (tB true) (n4 - 1).toNat) = (ttIn (tB true) n4 n6.toNat (ttOut (tB true) (n4 - 1).toNat)) := by
                        rw [show (n6 + 1).toNat = n6.toNat + 1 by omega, ttIn, ttSt, if_pos (show tB true n6.toNat = n4 from by show lenD n6.toNat = n4; omega), if_neg (by rw [← e2]; omega)]
                      refine z_iinc C (lv' := [(6, vI (n6 + 1)), (0, .ref (a 0)), (1, .ref (tw 3)), (2, vI fl), (3, vI rk), (4, vI n4), (5, vI (12 - n4))]) dX6_init_136 6 rfl (by decide) rfl ?_
                      refine z_goto C (tgt := 62) dX6_init_139 (by decide) ?_
                      refine z_lsub C [1, 2, 3, 4, 5, 6, 0] rfl ?_
                      exact ih62 fl rk (n6 + 1) gb gc go gf (by omega) (by rw [hst]; exact ⟨e1, e2, e3, e4, e5, e6⟩) (by omega)
                    · refine z_iload_n C dX6_init_91 2 rfl ?_
                      refine z_iconst C (z := 1) dX6_init_92 ?_
                      refine z_iload C dX6_init_93 5 rfl ?_
                      refine z_ishl C ((12 - n4).toNat) dX6_init_95 (by omega) (by omega) ?_
                      refine z_isub C dX6_init_96 ?_
                      refine z_nmI (fun fl2 efl2 => ?_)
                      refine z_istore_n C (lv' := [(2, vI fl2), (0, .ref (a 0)), (1, .ref (tw 3)), (3, vI rk), (4, vI n4), (5, vI (12 - n4)), (6, vI n6)]) dX6_init_97 rfl (by decide) rfl ?_
                      have hp : (2 : Int) ^ (12 - n4).toNat ≤ 2 ^ 11 := pow2_le (by omega)
                      have hp0 : (0 : Int) < 2 ^ (12 - n4).toNat := Int.pow_pos (by decide)
                      have h11 : (2 : Int) ^ 11 = 2048 := by decide
                      have hst : ttIn (tB true) n4 (n6 + 1).toNat (ttOut (tB true) (n4 - 1).toNat) = (fl2, rk + 1, (ttIn (tB true) n4 n6.toNat (ttOut (tB true) (n4 - 1).toNat)).2.2.1.set n6.toNat n4, (ttIn (tB true) n4 n6.toNat (ttOut (tB true) (n4 - 1).toNat)).2.2.2.1.set n6.toNat (fl2 / 2 ^ (12 - n4).toNat), (ttIn (tB true) n4 n6.toNat (ttOut (tB true) (n4 - 1).toNat)).2.2.2.2.1.set rk.toNat n6, (ttIn (tB true) n4 n6.toNat (ttOut (tB true) (n4 - 1).toNat)).2.2.2.2.2.set rk.toNat fl2) := by
                        rw [show (n6 + 1).toNat = n6.toNat + 1 by omega, ttIn, ttSt, if_pos (show tB true n6.toNat = n4 from by show lenD n6.toNat = n4; omega), if_pos (by rw [← e2]; omega), ← e1, ← e2, show ((n6.toNat : Nat) : Int) = n6 by omega, show fl - 2 ^ (12 - n4).toNat = fl2 by omega]
                      refine z_aload_n C dX6_init_98 1 rfl ?_
                      refine z_get C hinX6 (ci := 8) rfl 0 rfl 0 (by decide) k0 rfl (v := .ref (a 1)) rfl dX6_init_99 ?_
                      refine z_iload C dX6_init_102 6 rfl ?_
                      refine z_iload C dX6_init_104 4 rfl ?_
                      refine z_iast C 1 1 (g := gb) rfl rfl (by omega) (by omega) (by decide) dX6_init_106 (ws' := TW cy a (va_up gb (n6 : Int).toNat n4) gc go gf) rfl ?_
                      refine z_aload_n C dX6_init_107 1 rfl ?_
                      refine z_get C hinX6 (ci := 8) rfl 0 rfl 1 (by decide) k1 rfl (v := .ref (a 2)) rfl dX6_init_108 ?_
                      refine z_iload C dX6_init_111 6 rfl ?_
                      refine z_iload_n C dX6_init_113 0 rfl ?_
                      refine z_iload C dX6_init_114 5 rfl ?_
                      refine z_ishr C ((12 - n4).toNat) dX6_init_116 (by omega) (by omega) (by omega) ?_
                      refine z_iast C 2 1 (g := gc) rfl rfl (by omega) (by omega) (by decide) dX6_init_117 (ws' := TW cy a (va_up gb (n6 : Int).toNat n4) (va_up gc (n6 : Int).toNat (fl2 / 2 ^ (12 - n4).toNat)) go gf) rfl ?_
                      refine z_aload_n C dX6_init_118 1 rfl ?_
                      refine z_get C hinX6 (ci := 8) rfl 0 rfl 2 (by decide) k2 rfl (v := .ref (a 3)) rfl dX6_init_119 ?_
                      refine z_iload_n C dX6_init_122 3 rfl ?_
                      refine z_iload C dX6_init_123 6 rfl ?_
                      refine z_iast C 3 1 (g := go) rfl rfl (by omega) (by omega) (by decide) dX6_init_125 (ws' := TW cy a (va_up gb (n6 : Int).toNat n4) (va_up gc (n6 : Int).toNat (fl2 / 2 ^ (12 - n4).toNat)) (va_up go (rk : Int).toNat n6) gf) rfl ?_
                      refine z_aload_n C dX6_init_126 1 rfl ?_
                      refine z_get C hinX6 (ci := 8) rfl 0 rfl 3 (by decide) k3 rfl (v := .ref (a 4)) rfl dX6_init_127 ?_
                      refine z_iload_n C dX6_init_130 3 rfl ?_
                      refine z_iload_n C dX6_init_131 0 rfl ?_
                      refine z_iast C 4 1 (g := gf) rfl rfl (by omega) (by omega) (by decide) dX6_init_132 (ws' := TW cy a (va_up gb (n6 : Int).toNat n4) (va_up gc (n6 : Int).toNat (fl2 / 2 ^ (12 - n4).toNat)) (va_up go (rk : Int).toNat n6) (va_up gf (rk : Int).toNat fl2)) rfl ?_
                      refine z_iinc C (lv' := [(3, vI (rk + 1)), (2, vI fl2), (0, .ref (a 0)), (1, .ref (tw 3)), (4, vI n4), (5, vI (12 - n4)), (6, vI n6)]) dX6_init_133 3 rfl (by decide) rfl ?_
                      refine z_iinc C (lv' := [(6, vI (n6 + 1)), (3, vI (rk + 1)), (2, vI fl2), (0, .ref (a 0)), (1, .ref (tw 3)), (4, vI n4), (5, vI (12 - n4))]) dX6_init_136 6 rfl (by decide) rfl ?_
                      refine z_goto C (tgt := 62) dX6_init_139 (by decide) ?_
                      refine z_lsub C [3, 4, 2, 1, 5, 6, 0] rfl ?_
                      exact ih62 fl2 (rk + 1) (n6 + 1) (va_up gb (n6 : Int).toNat n4) (va_up gc (n6 : Int).toNat (fl2 / 2 ^ (12 - n4).toNat)) (va_up go (rk : Int).toNat n6) (va_up gf (rk : Int).toNat fl2) (by omega) (⟨by rw [hst], by rw [hst], by rw [hst, e3]; exact LG_up (by rw [o3]; omega) _, by rw [hst, e4]; exact LG_up (by rw [o4]; omega) _, by rw [hst, e5]; exact LG_up (by rw [o5]; omega) _, by rw [hst, e6]; exact LG_up (by rw [o6]; omega) _⟩) (by omega)
          refine z_lsub C [2, 3, 4, 5, 6, 1, 0] rfl ?_
          exact J62 _ fl rk 0 gb gc go gf (by omega) (e45) (Nat.lt_succ_self _)
    refine z_lsub C [3, 4, 2, 1, 0] rfl ?_
    exact J45 _ 4096 0 1 (fun _ => 0) (fun _ => 0) (fun _ => 0) (fun _ => 0) (by omega) (⟨rfl, rfl, (LG_0 74).symm, (LG_0 74).symm, (LG_0 74).symm, (LG_0 74).symm⟩) (Nat.lt_succ_self _)
  refine z_aload_n C dX6_init_0 0 rfl ?_
  refine z_objInit C k4 k5 k6 (Nat.le_of_ble_eq_true rfl) (Nat.le_of_ble_eq_true rfl) dX6_init_1 ?_
  refine z_aload_n C dX6_init_4 0 rfl ?_
  refine z_bipush C (z := 74) dX6_init_5 (by decide) ?_
  refine z_newaI C 74 (rfl) (Nat.le_of_ble_eq_true rfl) k7 1 rfl (Nat.le_of_ble_eq_true rfl) (Nat.le_of_ble_eq_true rfl) dX6_init_7 (fun q1 => ?_)
  show V 1 74 [(h, .inr (8, [.null, .null, .null, .null])), (q1, aI (cy 1) 74 (fun _ => 0))] [(0, .ref h), (1, .ref (tw 3))] [.ref q1, .ref h] 9
  refine z_putF C hmn hinX6 tyX6 tyX6_ok nmX6 (ci := 8) rfl 0 rfl 0 (by decide) k0 rfl rfl rfl rfl rfl (Nat.le_of_ble_eq_true rfl) dX6_init_9 (ws' := [(h, .inr (8, [.ref q1, .null, .null, .null])), (q1, aI (cy 1) 74 (fun _ => 0))]) rfl ?_
  refine z_aload_n C dX6_init_12 0 rfl ?_
  refine z_bipush C (z := 74) dX6_init_13 (by decide) ?_
  refine z_newaI C 74 (rfl) (Nat.le_of_ble_eq_true rfl) k7 1 rfl (Nat.le_of_ble_eq_true rfl) (Nat.le_of_ble_eq_true rfl) dX6_init_15 (fun q2 => ?_)
  show V 2 148 [(h, .inr (8, [.ref q1, .null, .null, .null])), (q1, aI (cy 1) 74 (fun _ => 0)), (q2, aI (cy 1) 74 (fun _ => 0))] [(0, .ref h), (1, .ref (tw 3))] [.ref q2, .ref h] 17
  refine z_putF C hmn hinX6 tyX6 tyX6_ok nmX6 (ci := 8) rfl 0 rfl 1 (by decide) k1 rfl rfl rfl rfl rfl (Nat.le_of_ble_eq_true rfl) dX6_init_17 (ws' := [(h, .inr (8, [.ref q1, .ref q2, .null, .null])), (q1, aI (cy 1) 74 (fun _ => 0)), (q2, aI (cy 1) 74 (fun _ => 0))]) rfl ?_
  refine z_aload_n C dX6_init_20 0 rfl ?_
  refine z_bipush C (z := 74) dX6_init_21 (by decide) ?_
  refine z_newaI C 74 (rfl) (Nat.le_of_ble_eq_true rfl) k7 1 rfl (Nat.le_of_ble_eq_true rfl) (Nat.le_of_ble_eq_true rfl) dX6_init_23 (fun q3 => ?_)
  show V 3 222 [(h, .inr (8, [.ref q1, .ref q2, .null, .null])), (q1, aI (cy 1) 74 (fun _ => 0)), (q2, aI (cy 1) 74 (fun _ => 0)), (q3, aI (cy 1) 74 (fun _ => 0))] [(0, .ref h), (1, .ref (tw 3))] [.ref q3, .ref h] 25
  refine z_putF C hmn hinX6 tyX6 tyX6_ok nmX6 (ci := 8) rfl 0 rfl 2 (by decide) k2 rfl rfl rfl rfl rfl (Nat.le_of_ble_eq_true rfl) dX6_init_25 (ws' := [(h, .inr (8, [.ref q1, .ref q2, .ref q3, .null])), (q1, aI (cy 1) 74 (fun _ => 0)), (q2, aI (cy 1) 74 (fun _ => 0)), (q3, aI (cy 1) 74 (fun _ => 0))]) rfl ?_
  refine z_aload_n C dX6_init_28 0 rfl ?_
  refine z_bipush C (z := 74) dX6_init_29 (by decide) ?_
  refine z_newaI C 74 (rfl) (Nat.le_of_ble_eq_true rfl) k7 1 rfl (Nat.le_of_ble_eq_true rfl) (Nat.le_of_ble_eq_true rfl) dX6_init_31 (fun q4 => ?_)
  show V 4 296 [(h, .inr (8, [.ref q1, .ref q2, .ref q3, .null])), (q1, aI (cy 1) 74 (fun _ => 0)), (q2, aI (cy 1) 74 (fun _ => 0)), (q3, aI (cy 1) 74 (fun _ => 0)), (q4, aI (cy 1) 74 (fun _ => 0))] [(0, .ref h), (1, .ref (tw 3))] [.ref q4, .ref h] 33
  refine z_putF C hmn hinX6 tyX6 tyX6_ok nmX6 (ci := 8) rfl 0 rfl 3 (by decide) k3 rfl rfl rfl rfl rfl (Nat.le_of_ble_eq_true rfl) dX6_init_33 (ws' := [(h, .inr (8, [.ref q1, .ref q2, .ref q3, .ref q4])), (q1, aI (cy 1) 74 (fun _ => 0)), (q2, aI (cy 1) 74 (fun _ => 0)), (q3, aI (cy 1) 74 (fun _ => 0)), (q4, aI (cy 1) 74 (fun _ => 0))]) rfl ?_
  exact J36 (fun i => match i with | 0 => h | 1 => q1 | 2 => q2 | 3 => q3 | _ => q4) rfl
