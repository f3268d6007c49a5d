theorem kn_X4_sendDrawn : zKn yX4_sendDrawn wsX4_sendDrawn cX4_sendDrawn 9 (none) 1 := ⟨⟨_, rfl⟩, by decide +kernel, by decide +kernel, by decide +kernel⟩
set_option maxHeartbeats 2000000 in
set_option maxRecDepth 100000 in
theorem c_X4_sendDrawn (l : Launch) (D : va_G) (cy : Nat → ClassId) (tw : Nat → Nat) (a : Nat → Nat) (kd : Int) (co : Int) (mk : Bool) (al : Bool) (dz : Bool) (rd : Bool) (rw : Int) (wo : Nat → BitVec 64) (sa : Nat → Int) (sz : Int) (ps : Int) (bt : Nat → Int) (ou : Nat → BitVec 64) (dm : Int) (pl : Bool) (re : Int) (cu : Bool) (r : Int) (L : List Bool) (hL : OR ou L) (hco : 1 ≤ co ∧ co ≤ 700) (hr : 0 ≤ r ∧ r < 24) (hroom : (((L ++ drB (px wo co r) (px wo co (r - 1)) co (co + 1).toNat 0 false true).length : Nat) : Int) ≤ 8 * (on co : Int)) : zMet l yX4_sendDrawn wsX4_sendDrawn { frames := 4, cells := 0, slots := 0, locals := 99 } D (zT cy) tw (CW cy a kd co mk al dz rd rw wo sa sz ps bt ou ((L.length : Nat) : Int) dm pl re cu) [.ref (a 7), vI r] 0 0 (S := Nat → BitVec 64) (fun _ => none) (fun u => CW cy a kd co mk al dz rd rw wo sa sz ps bt u (((L ++ drB (px wo co r) (px wo co (r - 1)) co (co + 1).toNat 0 false true).length : Nat) : Int) dm pl re cu) (fun u => OR u (L ++ drB (px wo co r) (px wo co (r - 1)) co (co + 1).toNat 0 false true)) := by
  refine z_met (cc := cX4_sendDrawn) (nL := 9) (ret := none) (by decide +kernel) rfl (Nat.le_of_ble_eq_true rfl) (lv := [(0, .ref (a 7)), (1, vI r)]) rfl ?_
  intro V p_ e_ s_ m_ args_ below_ meth_ c_ A_ C hmn
  have hinX2 : ∀ w ∈ u_ws RX2 TX2 5, w ∈ wsX4_sendDrawn := by decide +kernel
  have hinX4 : ∀ w ∈ u_ws RX4 TX4 5, w ∈ wsX4_sendDrawn := by decide +kernel
  have k0 : Cond.fieldLink RX4 15 "FaxFilter$Sender" "picture" "LFaxFilter$Picture;" ∈ wsX4_sendDrawn := List.mem_of_getElem? (i := 1) rfl
  have k1 : Cond.fieldLink RX4 78 "FaxFilter$Picture" "columns" "I" ∈ wsX4_sendDrawn := List.mem_of_getElem? (i := 2) rfl
  have hon := on_eq hco.1
  refine z_iconst C (z := 0) dX4_sendDrawn_0 ?_
  refine z_istore_n C (lv' := [(2, vI 0), (0, .ref (a 7)), (1, vI r)]) dX4_sendDrawn_1 rfl (by decide) rfl ?_
  refine z_iconst C (z := 0) dX4_sendDrawn_2 ?_
  refine z_istore_n C (lv' := [(3, vI 0), (2, vI 0), (0, .ref (a 7)), (1, vI r)]) dX4_sendDrawn_3 rfl (by decide) rfl ?_
  refine z_iconst C (z := 0) dX4_sendDrawn_4 ?_
  refine z_istore C (lv' := [(4, vI 0), (3, vI 0), (2, vI 0), (0, .ref (a 7)), (1, vI r)]) dX4_sendDrawn_5 (by decide) rfl ?_
  have J7 : ∀ (f : Nat) (x : Int) (d : Bool) (k : Int) (fi : Bool) (o : Nat → BitVec 64) (M : List Bool), (0 ≤ k ∧ k ≤ co + 1) → (0 ≤ x ∧ x ≤ co) → (fi = decide (k = 0)) → (OR o M) → (L ++ drB (px wo co r) (px wo co (r - 1)) co (co + 1).toNat 0 false true = M ++ drB (px wo co r) (px wo co (r - 1)) co (co + 1 - k).toNat x d fi) → (co + 1 - k).toNat < f → V 0 0 (CW cy a kd co mk al dz rd rw wo sa sz ps bt o ((M.length : Nat) : Int) dm pl re cu) [(0, .ref (a 7)), (1, vI r), (2, vI x), (3, vI (b2i d)), (4, vI k)] [] 7 := by
    intro f
    induction f with
    | zero => intro x d k fi o M i0 i1 hfi hM i2 hf; exact absurd hf (Nat.not_lt_zero _)
    | succ f ih =>
      intro x d k fi o M i0 i1 hfi hM i2 hf
      refine z_iload_n C dX4_sendDrawn_7 2 rfl ?_
      refine z_aload_n C dX4_sendDrawn_8 0 rfl ?_
      refine z_get C hinX4 (ci := 6) rfl 7 rfl 1 (by decide) k0 rfl (v := .ref (a 2)) rfl dX4_sendDrawn_9 ?_
      refine z_get C hinX2 (ci := 4) rfl 2 rfl 0 (by decide) k1 rfl (v := vI co) rfl dX4_sendDrawn_12 ?_
      refine z_icmp_ge C (by omega) (by omega) (tgt := 217) dX4_sendDrawn_15 (by decide) (fun hc_1 => ?_) (fun hc_1 => ?_)
      · refine z_vret C dX4_sendDrawn_217 o ?_ ?_ ?_ (by decide) (by decide)
        · exact rfl
        · have e : L ++ drB (px wo co r) (px wo co (r - 1)) co (co + 1).toNat 0 false true = M := by rw [i2, drB_ge _ (by omega), List.append_nil]
          rw [e]; exact hM
        · have e : L ++ drB (px wo co r) (px wo co (r - 1)) co (co + 1).toNat 0 false true = M := by rw [i2, drB_ge _ (by omega), List.append_nil]
          rw [e]
      · refine z_iload C dX4_sendDrawn_18 4 rfl ?_
        refine z_aload_n C dX4_sendDrawn_20 0 rfl ?_
        refine z_get C hinX4 (ci := 6) rfl 7 rfl 1 (by decide) k0 rfl (v := .ref (a 2)) rfl dX4_sendDrawn_21 ?_
        refine z_get C hinX2 (ci := 4) rfl 2 rfl 0 (by decide) k1 rfl (v := vI co) rfl dX4_sendDrawn_24 ?_
        refine z_icmp_gt C (by omega) (by omega) (tgt := 217) dX4_sendDrawn_27 (by decide) (fun hc_2 => ?_) (fun hc_2 => ?_)
        · refine z_vret C dX4_sendDrawn_217 o ?_ ?_ ?_ (by decide) (by decide)
          · exact rfl
          · have e : L ++ drB (px wo co r) (px wo co (r - 1)) co (co + 1).toNat 0 false true = M := by rw [i2, show (co + 1 - k).toNat = 0 by omega, drB, List.append_nil]
            rw [e]; exact hM
          · have e : L ++ drB (px wo co r) (px wo co (r - 1)) co (co + 1).toNat 0 false true = M := by rw [i2, show (co + 1 - k).toNat = 0 by omega, drB, List.append_nil]
            rw [e]
        · refine z_aload_n C dX4_sendDrawn_30 0 rfl ?_
          have J49 : ∀ (y : Int), (y = if fi then x else x + 1) → V 0 0 (CW cy a kd co mk al dz rd rw wo sa sz ps bt o ((M.length : Nat) : Int) dm pl re cu) [(0, .ref (a 7)), (1, vI r), (2, vI x), (3, vI (b2i d)), (4, vI k)] [vI y, vI (r - 1), .ref (a 2)] 49 := by
            intro y iy
            have hy : x ≤ y ∧ y ≤ x + 1 := by rw [iy]; split <;> omega
            refine z_iload_n C dX4_sendDrawn_49 3 rfl ?_
            refine z_not C dX4_sendDrawn_50 dX4_sendDrawn_53 dX4_sendDrawn_54 dX4_sendDrawn_57 ?_
            refine z_callV C (As := [vI (r - 1), vI y, vI (b2i (!d))]) (st := []) (c_X2_changeTo l D cy tw a kd co mk al dz rd rw wo sa sz ps bt o ((M.length : Nat) : Int) dm pl re cu (r - 1) y (!d)  (by omega) (by omega) (by omega)) gX4_sendDrawn_X2_changeTo kn_X2_changeTo rfl ⟨rfl, rfl, Nat.le_of_ble_eq_true rfl, Nat.le_of_ble_eq_true rfl⟩ 2 rfl (ci := 4) rfl rfl (Nat.le_of_ble_eq_true rfl) ⟨Nat.le_of_ble_eq_true rfl, Nat.le_of_ble_eq_true rfl⟩ dX4_sendDrawn_58 (fun u3 hu3 => ?_)
            clear hu3; clear u3
            show V 0 0 (CW cy a kd co mk al dz rd rw wo sa sz ps bt o ((M.length : Nat) : Int) dm pl re cu) [(0, .ref (a 7)), (1, vI r), (2, vI x), (3, vI (b2i d)), (4, vI k)] [vI (chC (px wo co (r - 1)) co y (!d))] 61
            refine z_nmI (fun vb evb => ?_)
            refine z_istore C (lv' := [(5, vI vb), (0, .ref (a 7)), (1, vI r), (2, vI x), (3, vI (b2i d)), (4, vI k)]) dX4_sendDrawn_61 (by decide) rfl ?_
            refine z_aload_n C dX4_sendDrawn_63 1 rfl ?_
            have hvb := chC_rg (px wo co (r - 1)) (N := co) (x := y) (!d) (by omega) (by omega)
            rw [← evb] at hvb
            refine z_get C hinX4 (ci := 6) rfl 7 rfl 1 (by decide) k0 rfl (v := .ref (a 2)) rfl dX4_sendDrawn_64 ?_
            refine z_iload_n C dX4_sendDrawn_67 2 rfl ?_
            refine z_iconst C (z := 1) dX4_sendDrawn_68 ?_
            refine z_isub C dX4_sendDrawn_69 ?_
            refine z_iload C dX4_sendDrawn_70 0 rfl ?_
            refine z_iload_n C dX4_sendDrawn_72 4 rfl ?_
            refine z_callV C (As := [vI (r - 1), vI vb, vI (b2i d)]) (st := []) (c_X2_nextOf l D cy tw a kd co mk al dz rd rw wo sa sz ps bt o ((M.length : Nat) : Int) dm pl re cu (r - 1) vb d  (by omega) (by omega) (by omega)) gX4_sendDrawn_X2_nextOf kn_X2_nextOf rfl ⟨rfl, rfl, Nat.le_of_ble_eq_true rfl, Nat.le_of_ble_eq_true rfl⟩ 2 rfl (ci := 4) rfl rfl (Nat.le_of_ble_eq_true rfl) ⟨Nat.le_of_ble_eq_true rfl, Nat.le_of_ble_eq_true rfl⟩ dX4_sendDrawn_73 (fun u4 hu4 => ?_)
            clear hu4; clear u4
            show V 0 0 (CW cy a kd co mk al dz rd rw wo sa sz ps bt o ((M.length : Nat) : Int) dm pl re cu) [(5, vI vb), (0, .ref (a 7)), (1, vI r), (2, vI x), (3, vI (b2i d)), (4, vI k)] [vI (nxt (px wo co (r - 1)) co vb d)] 76
            refine z_nmI (fun vc evc => ?_)
            refine z_istore C (lv' := [(6, vI vc), (5, vI vb), (0, .ref (a 7)), (1, vI r), (2, vI x), (3, vI (b2i d)), (4, vI k)]) dX4_sendDrawn_76 (by decide) rfl ?_
            refine z_aload_n C dX4_sendDrawn_78 2 rfl ?_
            have hvc := nxt_rg (px wo co (r - 1)) co vb d
            rw [← evc] at hvc
            refine z_get C hinX4 (ci := 6) rfl 7 rfl 1 (by decide) k0 rfl (v := .ref (a 2)) rfl dX4_sendDrawn_79 ?_
            refine z_iload_n C dX4_sendDrawn_82 3 rfl ?_
            refine z_iload_n C dX4_sendDrawn_83 4 rfl ?_
            refine z_iload_n C dX4_sendDrawn_84 5 rfl ?_
            refine z_not C dX4_sendDrawn_85 dX4_sendDrawn_88 dX4_sendDrawn_89 dX4_sendDrawn_92 ?_
            refine z_callV C (As := [vI r, vI x, vI (b2i (!d))]) (st := []) (c_X2_nextOf l D cy tw a kd co mk al dz rd rw wo sa sz ps bt o ((M.length : Nat) : Int) dm pl re cu r x (!d)  (by omega) (by omega) (by omega)) gX4_sendDrawn_X2_nextOf kn_X2_nextOf rfl ⟨rfl, rfl, Nat.le_of_ble_eq_true rfl, Nat.le_of_ble_eq_true rfl⟩ 2 rfl (ci := 4) rfl rfl (Nat.le_of_ble_eq_true rfl) ⟨Nat.le_of_ble_eq_true rfl, Nat.le_of_ble_eq_true rfl⟩ dX4_sendDrawn_93 (fun u5 hu5 => ?_)
            clear hu5; clear u5
            show V 0 0 (CW cy a kd co mk al dz rd rw wo sa sz ps bt o ((M.length : Nat) : Int) dm pl re cu) [(6, vI vc), (5, vI vb), (0, .ref (a 7)), (1, vI r), (2, vI x), (3, vI (b2i d)), (4, vI k)] [vI (nxt (px wo co r) co x (!d))] 96
            refine z_nmI (fun ve eve => ?_)
            refine z_istore C (lv' := [(7, vI ve), (6, vI vc), (5, vI vb), (0, .ref (a 7)), (1, vI r), (2, vI x), (3, vI (b2i d)), (4, vI k)]) dX4_sendDrawn_96 (by decide) rfl ?_
            have hve := nxt_rg (px wo co r) co x (!d)
            rw [← eve] at hve
            refine z_iload C dX4_sendDrawn_98 1 rfl ?_
            refine z_iload C dX4_sendDrawn_100 0 rfl ?_
            refine z_icmp_ge C (by omega) (by omega) (tgt := 117) dX4_sendDrawn_102 (by decide) (fun hc_6 => ?_) (fun hc_6 => ?_)
            · refine z_iload C dX4_sendDrawn_117 0 rfl ?_
              refine z_iload C dX4_sendDrawn_119 2 rfl ?_
              refine z_iconst C (z := 3) dX4_sendDrawn_121 ?_
              refine z_isub C dX4_sendDrawn_122 ?_
              refine z_icmp_lt C (by omega) (by omega) (tgt := 162) dX4_sendDrawn_123 (by decide) (fun hc_7 => ?_) (fun hc_7 => ?_)
              · have i3 : L ++ drB (px wo co r) (px wo co (r - 1)) co (co + 1).toNat 0 false true = M ++ (wayL 8 ++ (runB d (ve - x) ++ (runB (!d) (nxt (px wo co r) co ve d - ve) ++ drB (px wo co r) (px wo co (r - 1)) co (co + 1 - (k + 1)).toNat (nxt (px wo co r) co ve d) d false))) := by
                  rw [i2, show (co + 1 - k).toNat = (co + 1 - (k + 1)).toNat + 1 by omega, drB, if_pos (by omega), ← iy, ← evb, ← evc, ← eve, if_neg (by omega), if_neg (by omega)]
                have hz := nxt_rg (px wo co r) co ve d
                refine z_aload_n C dX4_sendDrawn_162 3 rfl ?_
                refine z_get C hinX4 (ci := 6) rfl 7 rfl 1 (by decide) k0 rfl (v := .ref (a 2)) rfl dX4_sendDrawn_163 ?_
                refine z_iload_n C dX4_sendDrawn_166 4 rfl ?_
                refine z_iload C dX4_sendDrawn_167 0 rfl ?_
                refine z_iload_n C dX4_sendDrawn_169 6 rfl ?_
                refine z_callV C (As := [vI r, vI ve, vI (b2i d)]) (st := []) (c_X2_nextOf l D cy tw a kd co mk al dz rd rw wo sa sz ps bt o ((M.length : Nat) : Int) dm pl re cu r ve d  (by omega) (by omega) (by omega)) gX4_sendDrawn_X2_nextOf kn_X2_nextOf rfl ⟨rfl, rfl, Nat.le_of_ble_eq_true rfl, Nat.le_of_ble_eq_true rfl⟩ 2 rfl (ci := 4) rfl rfl (Nat.le_of_ble_eq_true rfl) ⟨Nat.le_of_ble_eq_true rfl, Nat.le_of_ble_eq_true rfl⟩ dX4_sendDrawn_170 (fun u8 hu8 => ?_)
                clear hu8; clear u8
                show V 0 0 (CW cy a kd co mk al dz rd rw wo sa sz ps bt o ((M.length : Nat) : Int) dm pl re cu) [(7, vI ve), (6, vI vc), (5, vI vb), (0, .ref (a 7)), (1, vI r), (2, vI x), (3, vI (b2i d)), (4, vI k)] [vI (nxt (px wo co r) co ve d)] 173
                refine z_istore C (lv' := [(8, vI (nxt (px wo co r) co ve d)), (7, vI ve), (6, vI vc), (5, vI vb), (0, .ref (a 7)), (1, vI r), (2, vI x), (3, vI (b2i d)), (4, vI k)]) dX4_sendDrawn_173 (by decide) rfl ?_
                refine z_aload_n C dX4_sendDrawn_175 4 rfl ?_
                refine z_bipush C (z := 8) dX4_sendDrawn_176 (by decide) ?_
                refine z_callV C (As := [vI 8]) (st := []) (c_X4_sendWay l D cy tw a kd co mk al dz rd rw wo sa sz ps bt o dm pl re cu 8 M (hM) (by omega) (by omega) (by have q := congrArg List.length i3; simp only [List.length_append] at *; omega)) gX4_sendDrawn_X4_sendWay kn_X4_sendWay rfl ⟨rfl, rfl, Nat.le_of_ble_eq_true rfl, Nat.le_of_ble_eq_true rfl⟩ 7 rfl (ci := 6) rfl rfl (Nat.le_of_ble_eq_true rfl) ⟨Nat.le_of_ble_eq_true rfl, Nat.le_of_ble_eq_true rfl⟩ dX4_sendDrawn_178 (fun u9 hu9 => ?_)
                show V 0 0 (CW cy a kd co mk al dz rd rw wo sa sz ps bt u9 (((M ++ wayL 8).length : Nat) : Int) dm pl re cu) [(8, vI (nxt (px wo co r) co ve d)), (7, vI ve), (6, vI vc), (5, vI vb), (0, .ref (a 7)), (1, vI r), (2, vI x), (3, vI (b2i d)), (4, vI k)] [] 181
                refine z_aload_n C dX4_sendDrawn_181 4 rfl ?_
                refine z_iload C dX4_sendDrawn_182 1 rfl ?_
                refine z_iload_n C dX4_sendDrawn_184 6 rfl ?_
                refine z_isub C dX4_sendDrawn_185 ?_
                refine z_iload_n C dX4_sendDrawn_186 7 rfl ?_
                refine z_callV C (As := [vI (ve - x), vI (b2i d)]) (st := []) (c_X4_sendRun l D cy tw a kd co mk al dz rd rw wo sa sz ps bt u9 dm pl re cu (ve - x) d (M ++ wayL 8) (hu9) (by omega) (by omega) (by have q := congrArg List.length i3; simp only [List.length_append] at *; omega)) gX4_sendDrawn_X4_sendRun kn_X4_sendRun rfl ⟨rfl, rfl, Nat.le_of_ble_eq_true rfl, Nat.le_of_ble_eq_true rfl⟩ 7 rfl (ci := 6) rfl rfl (Nat.le_of_ble_eq_true rfl) ⟨Nat.le_of_ble_eq_true rfl, Nat.le_of_ble_eq_true rfl⟩ dX4_sendDrawn_187 (fun u10 hu10 => ?_)
                show V 0 0 (CW cy a kd co mk al dz rd rw wo sa sz ps bt u10 ((((M ++ wayL 8) ++ runB d (ve - x)).length : Nat) : Int) dm pl re cu) [(8, vI (nxt (px wo co r) co ve d)), (7, vI ve), (6, vI vc), (5, vI vb), (0, .ref (a 7)), (1, vI r), (2, vI x), (3, vI (b2i d)), (4, vI k)] [] 190
                refine z_aload_n C dX4_sendDrawn_190 4 rfl ?_
                refine z_iload C dX4_sendDrawn_191 0 rfl ?_
                refine z_iload C dX4_sendDrawn_193 1 rfl ?_
                refine z_isub C dX4_sendDrawn_195 ?_
                refine z_iload_n C dX4_sendDrawn_196 7 rfl ?_
                refine z_not C dX4_sendDrawn_197 dX4_sendDrawn_200 dX4_sendDrawn_201 dX4_sendDrawn_204 ?_
                refine z_callV C (As := [vI ((nxt (px wo co r) co ve d) - ve), vI (b2i (!d))]) (st := []) (c_X4_sendRun l D cy tw a kd co mk al dz rd rw wo sa sz ps bt u10 dm pl re cu ((nxt (px wo co r) co ve d) - ve) (!d) ((M ++ wayL 8) ++ runB d (ve - x)) (hu10) (by omega) (by omega) (by have q := congrArg List.length i3; simp only [List.length_append] at *; omega)) gX4_sendDrawn_X4_sendRun kn_X4_sendRun rfl ⟨rfl, rfl, Nat.le_of_ble_eq_true rfl, Nat.le_of_ble_eq_true rfl⟩ 7 rfl (ci := 6) rfl rfl (Nat.le_of_ble_eq_true rfl) ⟨Nat.le_of_ble_eq_true rfl, Nat.le_of_ble_eq_true rfl⟩ dX4_sendDrawn_205 (fun u11 hu11 => ?_)
                show V 0 0 (CW cy a kd co mk al dz rd rw wo sa sz ps bt u11 (((((M ++ wayL 8) ++ runB d (ve - x)) ++ runB (!d) ((nxt (px wo co r) co ve d) - ve)).length : Nat) : Int) dm pl re cu) [(8, vI (nxt (px wo co r) co ve d)), (7, vI ve), (6, vI vc), (5, vI vb), (0, .ref (a 7)), (1, vI r), (2, vI x), (3, vI (b2i d)), (4, vI k)] [] 208
                refine z_iload C dX4_sendDrawn_208 0 rfl ?_
                refine z_istore_n C (lv' := [(2, vI (nxt (px wo co r) co ve d)), (8, vI (nxt (px wo co r) co ve d)), (7, vI ve), (6, vI vc), (5, vI vb), (0, .ref (a 7)), (1, vI r), (3, vI (b2i d)), (4, vI k)]) dX4_sendDrawn_210 rfl (by decide) rfl ?_
                refine z_iinc C (lv' := [(4, vI (k + 1)), (2, vI (nxt (px wo co r) co ve d)), (8, vI (nxt (px wo co r) co ve d)), (7, vI ve), (6, vI vc), (5, vI vb), (0, .ref (a 7)), (1, vI r), (3, vI (b2i d))]) dX4_sendDrawn_211 8 rfl (by decide) rfl ?_
                refine z_goto C (tgt := 7) dX4_sendDrawn_214 (by decide) ?_
                refine z_lsub C [6, 7, 1, 8, 0] rfl ?_
                exact ih (nxt (px wo co r) co ve d) d (k + 1) false u11 (((M ++ wayL 8) ++ runB d (ve - x)) ++ runB (!d) ((nxt (px wo co r) co ve d) - ve)) (by omega) (by omega) (by rw [decide_eq_false (by omega)]) (hu11) (by rw [i3]; simp only [List.append_assoc]) (by omega)
              · refine z_iload C dX4_sendDrawn_126 0 rfl ?_
                refine z_iload C dX4_sendDrawn_128 2 rfl ?_
                refine z_iconst C (z := 3) dX4_sendDrawn_130 ?_
                refine z_iadd C dX4_sendDrawn_131 ?_
                refine z_icmp_gt C (by omega) (by omega) (tgt := 162) dX4_sendDrawn_132 (by decide) (fun hc_12 => ?_) (fun hc_12 => ?_)
                · have i3 : L ++ drB (px wo co r) (px wo co (r - 1)) co (co + 1).toNat 0 false true = M ++ (wayL 8 ++ (runB d (ve - x) ++ (runB (!d) (nxt (px wo co r) co ve d - ve) ++ drB (px wo co r) (px wo co (r - 1)) co (co + 1 - (k + 1)).toNat (nxt (px wo co r) co ve d) d false))) := by
                    rw [i2, show (co + 1 - k).toNat = (co + 1 - (k + 1)).toNat + 1 by omega, drB, if_pos (by omega), ← iy, ← evb, ← evc, ← eve, if_neg (by omega), if_neg (by omega)]
                  have hz := nxt_rg (px wo co r) co ve d
                  refine z_aload_n C dX4_sendDrawn_162 3 rfl ?_
                  refine z_get C hinX4 (ci := 6) rfl 7 rfl 1 (by decide) k0 rfl (v := .ref (a 2)) rfl dX4_sendDrawn_163 ?_
                  refine z_iload_n C dX4_sendDrawn_166 4 rfl ?_
                  refine z_iload C dX4_sendDrawn_167 0 rfl ?_
                  refine z_iload_n C dX4_sendDrawn_169 6 rfl ?_
                  refine z_callV C (As := [vI r, vI ve, vI (b2i d)]) (st := []) (c_X2_nextOf l D cy tw a kd co mk al dz rd rw wo sa sz ps bt o ((M.length : Nat) : Int) dm pl re cu r ve d  (by omega) (by omega) (by omega)) gX4_sendDrawn_X2_nextOf kn_X2_nextOf rfl ⟨rfl, rfl, Nat.le_of_ble_eq_true rfl, Nat.le_of_ble_eq_true rfl⟩ 2 rfl (ci := 4) rfl rfl (Nat.le_of_ble_eq_true rfl) ⟨Nat.le_of_ble_eq_true rfl, Nat.le_of_ble_eq_true rfl⟩ dX4_sendDrawn_170 (fun u13 hu13 => ?_)
                  clear hu13; clear u13
                  show V 0 0 (CW cy a kd co mk al dz rd rw wo sa sz ps bt o ((M.length : Nat) : Int) dm pl re cu) [(7, vI ve), (6, vI vc), (5, vI vb), (0, .ref (a 7)), (1, vI r), (2, vI x), (3, vI (b2i d)), (4, vI k)] [vI (nxt (px wo co r) co ve d)] 173
                  refine z_istore C (lv' := [(8, vI (nxt (px wo co r) co ve d)), (7, vI ve), (6, vI vc), (5, vI vb), (0, .ref (a 7)), (1, vI r), (2, vI x), (3, vI (b2i d)), (4, vI k)]) dX4_sendDrawn_173 (by decide) rfl ?_
                  refine z_aload_n C dX4_sendDrawn_175 4 rfl ?_
                  refine z_bipush C (z := 8) dX4_sendDrawn_176 (by decide) ?_
                  refine z_callV C (As := [vI 8]) (st := []) (c_X4_sendWay l D cy tw a kd co mk al dz rd rw wo sa sz ps bt o dm pl re cu 8 M (hM) (by omega) (by omega) (by have q := congrArg List.length i3; simp only [List.length_append] at *; omega)) gX4_sendDrawn_X4_sendWay kn_X4_sendWay rfl ⟨rfl, rfl, Nat.le_of_ble_eq_true rfl, Nat.le_of_ble_eq_true rfl⟩ 7 rfl (ci := 6) rfl rfl (Nat.le_of_ble_eq_true rfl) ⟨Nat.le_of_ble_eq_true rfl, Nat.le_of_ble_eq_true rfl⟩ dX4_sendDrawn_178 (fun u14 hu14 => ?_)
                  show V 0 0 (CW cy a kd co mk al dz rd rw wo sa sz ps bt u14 (((M ++ wayL 8).length : Nat) : Int) dm pl re cu) [(8, vI (nxt (px wo co r) co ve d)), (7, vI ve), (6, vI vc), (5, vI vb), (0, .ref (a 7)), (1, vI r), (2, vI x), (3, vI (b2i d)), (4, vI k)] [] 181
                  refine z_aload_n C dX4_sendDrawn_181 4 rfl ?_
                  refine z_iload C dX4_sendDrawn_182 1 rfl ?_
                  refine z_iload_n C dX4_sendDrawn_184 6 rfl ?_
                  refine z_isub C dX4_sendDrawn_185 ?_
                  refine z_iload_n C dX4_sendDrawn_186 7 rfl ?_
                  refine z_callV C (As := [vI (ve - x), vI (b2i d)]) (st := []) (c_X4_sendRun l D cy tw a kd co mk al dz rd rw wo sa sz ps bt u14 dm pl re cu (ve - x) d (M ++ wayL 8) (hu14) (by omega) (by omega) (by have q := congrArg List.length i3; simp only [List.length_append] at *; omega)) gX4_sendDrawn_X4_sendRun kn_X4_sendRun rfl ⟨rfl, rfl, Nat.le_of_ble_eq_true rfl, Nat.le_of_ble_eq_true rfl⟩ 7 rfl (ci := 6) rfl rfl (Nat.le_of_ble_eq_true rfl) ⟨Nat.le_of_ble_eq_true rfl, Nat.le_of_ble_eq_true rfl⟩ dX4_sendDrawn_187 (fun u15 hu15 => ?_)
                  show V 0 0 (CW cy a kd co mk al dz rd rw wo sa sz ps bt u15 ((((M ++ wayL 8) ++ runB d (ve - x)).length : Nat) : Int) dm pl re cu) [(8, vI (nxt (px wo co r) co ve d)), (7, vI ve), (6, vI vc), (5, vI vb), (0, .ref (a 7)), (1, vI r), (2, vI x), (3, vI (b2i d)), (4, vI k)] [] 190
                  refine z_aload_n C dX4_sendDrawn_190 4 rfl ?_
                  refine z_iload C dX4_sendDrawn_191 0 rfl ?_
                  refine z_iload C dX4_sendDrawn_193 1 rfl ?_
                  refine z_isub C dX4_sendDrawn_195 ?_
                  refine z_iload_n C dX4_sendDrawn_196 7 rfl ?_
                  refine z_not C dX4_sendDrawn_197 dX4_sendDrawn_200 dX4_sendDrawn_201 dX4_sendDrawn_204 ?_
                  refine z_callV C (As := [vI ((nxt (px wo co r) co ve d) - ve), vI (b2i (!d))]) (st := []) (c_X4_sendRun l D cy tw a kd co mk al dz rd rw wo sa sz ps bt u15 dm pl re cu ((nxt (px wo co r) co ve d) - ve) (!d) ((M ++ wayL 8) ++ runB d (ve - x)) (hu15) (by omega) (by omega) (by have q := congrArg List.length i3; simp only [List.length_append] at *; omega)) gX4_sendDrawn_X4_sendRun kn_X4_sendRun rfl ⟨rfl, rfl, Nat.le_of_ble_eq_true rfl, Nat.le_of_ble_eq_true rfl⟩ 7 rfl (ci := 6) rfl rfl (Nat.le_of_ble_eq_true rfl) ⟨Nat.le_of_ble_eq_true rfl, Nat.le_of_ble_eq_true rfl⟩ dX4_sendDrawn_205 (fun u16 hu16 => ?_)
                  show V 0 0 (CW cy a kd co mk al dz rd rw wo sa sz ps bt u16 (((((M ++ wayL 8) ++ runB d (ve - x)) ++ runB (!d) ((nxt (px wo co r) co ve d) - ve)).length : Nat) : Int) dm pl re cu) [(8, vI (nxt (px wo co r) co ve d)), (7, vI ve), (6, vI vc), (5, vI vb), (0, .ref (a 7)), (1, vI r), (2, vI x), (3, vI (b2i d)), (4, vI k)] [] 208
                  refine z_iload C dX4_sendDrawn_208 0 rfl ?_
                  refine z_istore_n C (lv' := [(2, vI (nxt (px wo co r) co ve d)), (8, vI (nxt (px wo co r) co ve d)), (7, vI ve), (6, vI vc), (5, vI vb), (0, .ref (a 7)), (1, vI r), (3, vI (b2i d)), (4, vI k)]) dX4_sendDrawn_210 rfl (by decide) rfl ?_
                  refine z_iinc C (lv' := [(4, vI (k + 1)), (2, vI (nxt (px wo co r) co ve d)), (8, vI (nxt (px wo co r) co ve d)), (7, vI ve), (6, vI vc), (5, vI vb), (0, .ref (a 7)), (1, vI r), (3, vI (b2i d))]) dX4_sendDrawn_211 8 rfl (by decide) rfl ?_
                  refine z_goto C (tgt := 7) dX4_sendDrawn_214 (by decide) ?_
                  refine z_lsub C [6, 7, 1, 8, 0] rfl ?_
                  exact ih (nxt (px wo co r) co ve d) d (k + 1) false u16 (((M ++ wayL 8) ++ runB d (ve - x)) ++ runB (!d) ((nxt (px wo co r) co ve d) - ve)) (by omega) (by omega) (by rw [decide_eq_false (by omega)]) (hu16) (by rw [i3]; simp only [List.append_assoc]) (by omega)
                · have i3 : L ++ drB (px wo co r) (px wo co (r - 1)) co (co + 1).toNat 0 false true = M ++ (wayL (ve - vb + 3) ++ drB (px wo co r) (px wo co (r - 1)) co (co + 1 - (k + 1)).toNat ve (!d) false) := by
                    rw [i2, show (co + 1 - k).toNat = (co + 1 - (k + 1)).toNat + 1 by omega, drB, if_pos (by omega), ← iy, ← evb, ← evc, ← eve, if_neg (by omega), if_pos (by omega)]
                  refine z_aload_n C dX4_sendDrawn_135 3 rfl ?_
                  refine z_iload C dX4_sendDrawn_136 0 rfl ?_
                  refine z_iload C dX4_sendDrawn_138 2 rfl ?_
                  refine z_isub C dX4_sendDrawn_140 ?_
                  refine z_iconst C (z := 3) dX4_sendDrawn_141 ?_
                  refine z_iadd C dX4_sendDrawn_142 ?_
                  refine z_callV C (As := [vI ((ve - vb) + 3)]) (st := []) (c_X4_sendWay l D cy tw a kd co mk al dz rd rw wo sa sz ps bt o dm pl re cu ((ve - vb) + 3) M (hM) (by omega) (by omega) (by have q := congrArg List.length i3; simp only [List.length_append] at *; omega)) gX4_sendDrawn_X4_sendWay kn_X4_sendWay rfl ⟨rfl, rfl, Nat.le_of_ble_eq_true rfl, Nat.le_of_ble_eq_true rfl⟩ 7 rfl (ci := 6) rfl rfl (Nat.le_of_ble_eq_true rfl) ⟨Nat.le_of_ble_eq_true rfl, Nat.le_of_ble_eq_true rfl⟩ dX4_sendDrawn_143 (fun u17 hu17 => ?_)
                  show V 0 0 (CW cy a kd co mk al dz rd rw wo sa sz ps bt u17 (((M ++ wayL ((ve - vb) + 3)).length : Nat) : Int) dm pl re cu) [(7, vI ve), (6, vI vc), (5, vI vb), (0, .ref (a 7)), (1, vI r), (2, vI x), (3, vI (b2i d)), (4, vI k)] [] 146
                  refine z_iload C dX4_sendDrawn_146 0 rfl ?_
                  refine z_istore_n C (lv' := [(2, vI ve), (7, vI ve), (6, vI vc), (5, vI vb), (0, .ref (a 7)), (1, vI r), (3, vI (b2i d)), (4, vI k)]) dX4_sendDrawn_148 rfl (by decide) rfl ?_
                  refine z_iload_n C dX4_sendDrawn_149 6 rfl ?_
                  refine z_not C dX4_sendDrawn_150 dX4_sendDrawn_153 dX4_sendDrawn_154 dX4_sendDrawn_157 ?_
                  refine z_istore_n C (lv' := [(3, vI (b2i (!d))), (2, vI ve), (7, vI ve), (6, vI vc), (5, vI vb), (0, .ref (a 7)), (1, vI r), (4, vI k)]) dX4_sendDrawn_158 rfl (by decide) rfl ?_
                  refine z_goto C (tgt := 211) dX4_sendDrawn_159 (by decide) ?_
                  refine z_iinc C (lv' := [(4, vI (k + 1)), (3, vI (b2i (!d))), (2, vI ve), (7, vI ve), (6, vI vc), (5, vI vb), (0, .ref (a 7)), (1, vI r)]) dX4_sendDrawn_211 7 rfl (by decide) rfl ?_
                  refine z_goto C (tgt := 7) dX4_sendDrawn_214 (by decide) ?_
                  refine z_lsub C [6, 7, 2, 1, 0] rfl ?_
                  exact ih ve (!d) (k + 1) false u17 (M ++ wayL ((ve - vb) + 3)) (by omega) (by omega) (by rw [decide_eq_false (by omega)]) (hu17) (by rw [i3]; simp only [List.append_assoc]) (by omega)
            · have i3 : L ++ drB (px wo co r) (px wo co (r - 1)) co (co + 1).toNat 0 false true = M ++ (wayL 7 ++ drB (px wo co r) (px wo co (r - 1)) co (co + 1 - (k + 1)).toNat vc d false) := by
                rw [i2, show (co + 1 - k).toNat = (co + 1 - (k + 1)).toNat + 1 by omega, drB, if_pos (by omega), ← iy, ← evb, ← evc, ← eve, if_pos (by omega)]
              refine z_aload_n C dX4_sendDrawn_105 3 rfl ?_
              refine z_bipush C (z := 7) dX4_sendDrawn_106 (by decide) ?_
              refine z_callV C (As := [vI 7]) (st := []) (c_X4_sendWay l D cy tw a kd co mk al dz rd rw wo sa sz ps bt o dm pl re cu 7 M (hM) (by omega) (by omega) (by have q := congrArg List.length i3; simp only [List.length_append] at *; omega)) gX4_sendDrawn_X4_sendWay kn_X4_sendWay rfl ⟨rfl, rfl, Nat.le_of_ble_eq_true rfl, Nat.le_of_ble_eq_true rfl⟩ 7 rfl (ci := 6) rfl rfl (Nat.le_of_ble_eq_true rfl) ⟨Nat.le_of_ble_eq_true rfl, Nat.le_of_ble_eq_true rfl⟩ dX4_sendDrawn_108 (fun u18 hu18 => ?_)
              show V 0 0 (CW cy a kd co mk al dz rd rw wo sa sz ps bt u18 (((M ++ wayL 7).length : Nat) : Int) dm pl re cu) [(7, vI ve), (6, vI vc), (5, vI vb), (0, .ref (a 7)), (1, vI r), (2, vI x), (3, vI (b2i d)), (4, vI k)] [] 111
              refine z_iload C dX4_sendDrawn_111 1 rfl ?_
              refine z_istore_n C (lv' := [(2, vI vc), (7, vI ve), (6, vI vc), (5, vI vb), (0, .ref (a 7)), (1, vI r), (3, vI (b2i d)), (4, vI k)]) dX4_sendDrawn_113 rfl (by decide) rfl ?_
              refine z_goto C (tgt := 211) dX4_sendDrawn_114 (by decide) ?_
              refine z_iinc C (lv' := [(4, vI (k + 1)), (2, vI vc), (7, vI ve), (6, vI vc), (5, vI vb), (0, .ref (a 7)), (1, vI r), (3, vI (b2i d))]) dX4_sendDrawn_211 7 rfl (by decide) rfl ?_
              refine z_goto C (tgt := 7) dX4_sendDrawn_214 (by decide) ?_
              refine z_lsub C [5, 6, 1, 7, 0] rfl ?_
              exact ih vc d (k + 1) false u18 (M ++ wayL 7) (by omega) (by omega) (by rw [decide_eq_false (by omega)]) (hu18) (by rw [i3]; simp only [List.append_assoc]) (by omega)
          refine z_get C hinX4 (ci := 6) rfl 7 rfl 1 (by decide) k0 rfl (v := .ref (a 2)) rfl dX4_sendDrawn_31 ?_
          refine z_iload_n C dX4_sendDrawn_34 1 rfl ?_
          refine z_iconst C (z := 1) dX4_sendDrawn_35 ?_
          refine z_isub C dX4_sendDrawn_36 ?_
          refine z_iload C dX4_sendDrawn_37 4 rfl ?_
          refine z_if_ne C (by omega) (tgt := 46) dX4_sendDrawn_39 (by decide) (fun hc_19 => ?_) (fun hc_19 => ?_)
          · refine z_iload_n C dX4_sendDrawn_46 2 rfl ?_
            refine z_iconst C (z := 1) dX4_sendDrawn_47 ?_
            refine z_iadd C dX4_sendDrawn_48 ?_
            exact J49 (x + 1) (by rw [hfi, decide_eq_false (by omega)]; rfl)
          · refine z_iload_n C dX4_sendDrawn_42 2 rfl ?_
            refine z_goto C (tgt := 49) dX4_sendDrawn_43 (by decide) ?_
            exact J49 x (by rw [hfi, decide_eq_true (by omega)]; rfl)
  refine z_lsub C [3, 4, 2, 1, 0] rfl ?_
  exact J7 _ 0 false 0 true ou L (by omega) (by omega) (by rw [decide_eq_true rfl]) (hL) (by simp) (Nat.lt_succ_self _)
theorem kn_X4_sendEnd : zKn yX4_sendEnd wsX4_sendEnd cX4_sendEnd 3 (none) 0 := ⟨⟨_, rfl⟩, by decide +kernel, by decide +kernel, by decide +kernel⟩
set_option maxHeartbeats 400000 in
set_option maxRecDepth 100000 in
theorem c_X4_sendEnd (l : Launch) (D : va_G) (cy : Nat → ClassId) (tw : Nat → Nat) (a : Nat → Nat) (kd : Int) (co : Int) (mk : Bool) (al : Bool) (dz : Bool) (rd : Bool) (rw : Int) (wo : Nat → BitVec 64) (sa : Nat → Int) (sz : Int) (ps : Int) (bt : Nat → Int) (ou : Nat → BitVec 64) (dm : Int) (pl : Bool) (re : Int) (cu : Bool)  (L : List Bool) (hL : OR ou L) (hco : 1 ≤ co ∧ co ≤ 700) (hk : 0 ≤ kd ∧ kd ≤ 2) (hroom : ((L.length : Nat) : Int) + 100 ≤ 8 * (on co : Int)) : zMet l yX4_sendEnd wsX4_sendEnd { frames := 2, cells := 0, slots := 0, locals := 48 } D (zT cy) tw (CW cy a kd co mk al dz rd rw wo sa sz ps bt ou ((L.length : Nat) : Int) dm pl re cu) [.ref (a 7)] 0 0 (S := Nat → BitVec 64) (fun _ => none) (fun u => CW cy a kd co mk al dz rd rw wo sa sz ps bt u (((enB kd mk al L).length : Nat) : Int) dm pl re cu) (fun u => OR u (enB kd mk al L)) := by
  refine z_met (cc := cX4_sendEnd) (nL := 3) (ret := none) (by decide +kernel) rfl (Nat.le_of_ble_eq_true rfl) (lv := [(0, .ref (a 7))]) rfl ?_
  intro V p_ e_ s_ m_ args_ below_ meth_ c_ A_ C hmn
  have hinX4 : ∀ w ∈ u_ws RX4 TX4 5, w ∈ wsX4_sendEnd := by decide +kernel
  have hinX5 : ∀ w ∈ u_ws RX5 TX5 5, w ∈ wsX4_sendEnd := by decide +kernel
  have k0 : Cond.fieldLink RX4 9 "FaxFilter$Sender" "settings" "LFaxFilter$Settings;" ∈ wsX4_sendEnd := List.mem_of_getElem? (i := 1) rfl
  have k1 : Cond.fieldLink RX4 41 "FaxFilter$Settings" "kind" "I" ∈ wsX4_sendEnd := List.mem_of_getElem? (i := 2) rfl
  have k2 : Cond.fieldLink RX4 26 "FaxFilter$Sender" "out" "LFaxFilter$BitsOut;" ∈ wsX4_sendEnd := List.mem_of_getElem? (i := 4) rfl
  have k3 : Cond.fieldLink RX4 64 "FaxFilter$Settings" "aligned" "Z" ∈ wsX4_sendEnd := List.mem_of_getElem? (i := 3) rfl
  have hon := on_eq hco.1
  have hl1 := en1_len kd al L
  have J29 : ∀ (o : Nat → BitVec 64) (M : List Bool), (OR o M) → (M = en1 kd al L) → V 0 0 (CW cy a kd co mk al dz rd rw wo sa sz ps bt o ((M.length : Nat) : Int) dm pl re cu) [(0, .ref (a 7))] [] 29 := by
    intro o M hM eM
    refine z_aload_n C dX4_sendEnd_29 0 rfl ?_
    refine z_get C hinX4 (ci := 6) rfl 7 rfl 0 (by decide) k0 rfl (v := .ref (a 1)) rfl dX4_sendEnd_30 ?_
    refine z_callV C (As := []) (st := []) (c_X5_hasMarks l D cy tw a kd co mk al dz rd rw wo sa sz ps bt o ((M.length : Nat) : Int) dm pl re cu   (by omega)) gX4_sendEnd_X5_hasMarks kn_X5_hasMarks rfl ⟨rfl, rfl, Nat.le_of_ble_eq_true rfl, Nat.le_of_ble_eq_true rfl⟩ 1 rfl (ci := 7) rfl rfl (Nat.le_of_ble_eq_true rfl) ⟨Nat.le_of_ble_eq_true rfl, Nat.le_of_ble_eq_true rfl⟩ dX4_sendEnd_33 (fun u1 hu1 => ?_)
    clear hu1; clear u1
    show V 0 0 (CW cy a kd co mk al dz rd rw wo sa sz ps bt o ((M.length : Nat) : Int) dm pl re cu) [(0, .ref (a 7))] [vI (b2i (hasMk kd mk))] 36
    refine z_ifz C (tgt := 44) dX4_sendEnd_36 (by decide) (fun cm => ?_) (fun cm => ?_)
    · refine z_iconst C (z := 0) dX4_sendEnd_44 ?_
      refine z_istore_n C (lv' := [(1, vI 0), (0, .ref (a 7))]) dX4_sendEnd_45 rfl (by decide) rfl ?_
      refine z_aload_n C dX4_sendEnd_46 1 rfl ?_
      refine z_get C hinX4 (ci := 6) rfl 7 rfl 0 (by decide) k0 rfl (v := .ref (a 1)) rfl dX4_sendEnd_47 ?_
      refine z_get C hinX5 (ci := 7) rfl 1 rfl 0 (by decide) k1 rfl (v := vI kd) rfl dX4_sendEnd_50 ?_
      refine z_iconst C (z := 2) dX4_sendEnd_53 ?_
      refine z_icmp_ne C (by omega) (by decide) (tgt := 59) dX4_sendEnd_54 (by decide) (fun hc_2 => ?_) (fun hc_2 => ?_)
      · refine z_iconst C (z := 0) dX4_sendEnd_59 ?_
        refine z_istore_n C (lv' := [(2, vI 0), (1, vI 0), (0, .ref (a 7))]) dX4_sendEnd_60 rfl (by decide) rfl ?_
        have J61 : ∀ (f : Nat) (q : Int) (i : Int) (o2 : Nat → BitVec 64) (M2 : List Bool), (q = if hasMk kd mk then 6 else if kd = 2 then 2 else 0) → (0 ≤ i ∧ i ≤ q ∧ q ≤ 6) → (OR o2 M2) → (M2 = en1 kd al L ++ repM kd i.toNat) → (q - i).toNat < f → V 0 0 (CW cy a kd co mk al dz rd rw wo sa sz ps bt o2 ((M2.length : Nat) : Int) dm pl re cu) [(0, .ref (a 7)), (1, vI q), (2, vI i)] [] 61 := by
          intro f
          induction f with
          | zero => intro q i o2 M2 iq i0 hM2 eM2 hf; exact absurd hf (Nat.not_lt_zero _)
          | succ f ih =>
            intro q i o2 M2 iq i0 hM2 eM2 hf
            refine z_iload_n C dX4_sendEnd_61 2 rfl ?_
            refine z_iload_n C dX4_sendEnd_62 1 rfl ?_
            refine z_icmp_ge C (by omega) (by omega) (tgt := 77) dX4_sendEnd_63 (by decide) (fun hc_3 => ?_) (fun hc_3 => ?_)
            · refine z_aload_n C dX4_sendEnd_77 0 rfl ?_
              refine z_get C hinX4 (ci := 6) rfl 7 rfl 4 (by decide) k2 rfl (v := .ref (a 6)) rfl dX4_sendEnd_78 ?_
              refine z_iconst C (z := 0) dX4_sendEnd_81 ?_
              refine z_callV C (As := [vI 0]) (st := []) (c_X1_alignForL l D cy tw a kd co mk al dz rd rw wo sa sz ps bt o2 dm pl re cu 0 M2 (hM2) (by omega) (by omega) (by have q1 := congrArg List.length eM2; rw [List.length_append, repM_len] at q1; split at q1 <;> omega)) gX4_sendEnd_X1_alignFor kn_X1_alignFor rfl ⟨rfl, rfl, Nat.le_of_ble_eq_true rfl, Nat.le_of_ble_eq_true rfl⟩ 6 rfl (ci := 3) rfl rfl (Nat.le_of_ble_eq_true rfl) ⟨Nat.le_of_ble_eq_true rfl, Nat.le_of_ble_eq_true rfl⟩ dX4_sendEnd_82 (fun u4 hu4 => ?_)
              show V 0 0 (CW cy a kd co mk al dz rd rw wo sa sz ps bt u4 (((M2 ++ alB M2 0).length : Nat) : Int) dm pl re cu) [(0, .ref (a 7)), (1, vI q), (2, vI i)] [] 85
              refine z_vret C dX4_sendEnd_85 u4 ?_ ?_ ?_ (by decide) (by decide)
              · exact rfl
              · have e : enB kd mk al L = (M2 ++ alB M2 0) := by (have e2 : en2 kd mk al L = M2 := (by rw [en2, eM2, show i = q by omega, iq]; split <;> (try split) <;> rfl)); rw [enB, e2]
                rw [e]; exact hu4
              · have e : enB kd mk al L = (M2 ++ alB M2 0) := by (have e2 : en2 kd mk al L = M2 := (by rw [en2, eM2, show i = q by omega, iq]; split <;> (try split) <;> rfl)); rw [enB, e2]
                rw [e]
            · refine z_aload_n C dX4_sendEnd_66 0 rfl ?_
              refine z_iconst C (z := 1) dX4_sendEnd_67 ?_
              refine z_callV C (As := [vI 1]) (st := []) (c_X4_sendMark l D cy tw a kd co mk al dz rd rw wo sa sz ps bt o2 dm pl re cu true M2 (hM2) (by omega) (by omega) (by have q1 := congrArg List.length eM2; rw [List.length_append, repM_len] at q1; split at q1 <;> omega)) gX4_sendEnd_X4_sendMark kn_X4_sendMark rfl ⟨rfl, rfl, Nat.le_of_ble_eq_true rfl, Nat.le_of_ble_eq_true rfl⟩ 7 rfl (ci := 6) rfl rfl (Nat.le_of_ble_eq_true rfl) ⟨Nat.le_of_ble_eq_true rfl, Nat.le_of_ble_eq_true rfl⟩ dX4_sendEnd_68 (fun u5 hu5 => ?_)
              show V 0 0 (CW cy a kd co mk al dz rd rw wo sa sz ps bt u5 (((M2 ++ mkB kd true).length : Nat) : Int) dm pl re cu) [(0, .ref (a 7)), (1, vI q), (2, vI i)] [] 71
              refine z_iinc C (lv' := [(2, vI (i + 1)), (0, .ref (a 7)), (1, vI q)]) dX4_sendEnd_71 2 rfl (by decide) rfl ?_
              refine z_goto C (tgt := 61) dX4_sendEnd_74 (by decide) ?_
              refine z_lsub C [1, 2, 0] rfl ?_
              exact ih q (i + 1) u5 (M2 ++ mkB kd true) (iq) (by omega) (hu5) (by rw [show (i + 1).toNat = i.toNat + 1 by omega, repM_s, ← List.append_assoc, ← eM2]) (by omega)
        refine z_lsub C [2, 1, 0] rfl ?_
        exact J61 _ 0 0 o M (by (try rw [cm]); first | rfl | (simp [hasMk] at *; omega) | (rw [if_neg (by simp), if_pos (by omega)]) | (rw [if_neg (by simp), if_neg (by omega)])) (by omega) (hM) (by rw [eM]; simp [repM]) (Nat.lt_succ_self _)
      · refine z_iconst C (z := 2) dX4_sendEnd_57 ?_
        refine z_istore_n C (lv' := [(1, vI 2), (0, .ref (a 7))]) dX4_sendEnd_58 rfl (by decide) rfl ?_
        refine z_iconst C (z := 0) dX4_sendEnd_59 ?_
        refine z_istore_n C (lv' := [(2, vI 0), (1, vI 2), (0, .ref (a 7))]) dX4_sendEnd_60 rfl (by decide) rfl ?_
        have J61 : ∀ (f : Nat) (q : Int) (i : Int) (o2 : Nat → BitVec 64) (M2 : List Bool), (q = if hasMk kd mk then 6 else if kd = 2 then 2 else 0) → (0 ≤ i ∧ i ≤ q ∧ q ≤ 6) → (OR o2 M2) → (M2 = en1 kd al L ++ repM kd i.toNat) → (q - i).toNat < f → V 0 0 (CW cy a kd co mk al dz rd rw wo sa sz ps bt o2 ((M2.length : Nat) : Int) dm pl re cu) [(0, .ref (a 7)), (1, vI q), (2, vI i)] [] 61 := by
          intro f
          induction f with
          | zero => intro q i o2 M2 iq i0 hM2 eM2 hf; exact absurd hf (Nat.not_lt_zero _)
          | succ f ih =>
            intro q i o2 M2 iq i0 hM2 eM2 hf
            refine z_iload_n C dX4_sendEnd_61 2 rfl ?_
            refine z_iload_n C dX4_sendEnd_62 1 rfl ?_
            refine z_icmp_ge C (by omega) (by omega) (tgt := 77) dX4_sendEnd_63 (by decide) (fun hc_6 => ?_) (fun hc_6 => ?_)
            · refine z_aload_n C dX4_sendEnd_77 0 rfl ?_
              refine z_get C hinX4 (ci := 6) rfl 7 rfl 4 (by decide) k2 rfl (v := .ref (a 6)) rfl dX4_sendEnd_78 ?_
              refine z_iconst C (z := 0) dX4_sendEnd_81 ?_
              refine z_callV C (As := [vI 0]) (st := []) (c_X1_alignForL l D cy tw a kd co mk al dz rd rw wo sa sz ps bt o2 dm pl re cu 0 M2 (hM2) (by omega) (by omega) (by have q1 := congrArg List.length eM2; rw [List.length_append, repM_len] at q1; split at q1 <;> omega)) gX4_sendEnd_X1_alignFor kn_X1_alignFor rfl ⟨rfl, rfl, Nat.le_of_ble_eq_true rfl, Nat.le_of_ble_eq_true rfl⟩ 6 rfl (ci := 3) rfl rfl (Nat.le_of_ble_eq_true rfl) ⟨Nat.le_of_ble_eq_true rfl, Nat.le_of_ble_eq_true rfl⟩ dX4_sendEnd_82 (fun u7 hu7 => ?_)
              show V 0 0 (CW cy a kd co mk al dz rd rw wo sa sz ps bt u7 (((M2 ++ alB M2 0).length : Nat) : Int) dm pl re cu) [(0, .ref (a 7)), (1, vI q), (2, vI i)] [] 85
              refine z_vret C dX4_sendEnd_85 u7 ?_ ?_ ?_ (by decide) (by decide)
              · exact rfl
              · have e : enB kd mk al L = (M2 ++ alB M2 0) := by (have e2 : en2 kd mk al L = M2 := (by rw [en2, eM2, show i = q by omega, iq]; split <;> (try split) <;> rfl)); rw [enB, e2]
                rw [e]; exact hu7
              · have e : enB kd mk al L = (M2 ++ alB M2 0) := by (have e2 : en2 kd mk al L = M2 := (by rw [en2, eM2, show i = q by omega, iq]; split <;> (try split) <;> rfl)); rw [enB, e2]
                rw [e]
            · refine z_aload_n C dX4_sendEnd_66 0 rfl ?_
              refine z_iconst C (z := 1) dX4_sendEnd_67 ?_
              refine z_callV C (As := [vI 1]) (st := []) (c_X4_sendMark l D cy tw a kd co mk al dz rd rw wo sa sz ps bt o2 dm pl re cu true M2 (hM2) (by omega) (by omega) (by have q1 := congrArg List.length eM2; rw [List.length_append, repM_len] at q1; split at q1 <;> omega)) gX4_sendEnd_X4_sendMark kn_X4_sendMark rfl ⟨rfl, rfl, Nat.le_of_ble_eq_true rfl, Nat.le_of_ble_eq_true rfl⟩ 7 rfl (ci := 6) rfl rfl (Nat.le_of_ble_eq_true rfl) ⟨Nat.le_of_ble_eq_true rfl, Nat.le_of_ble_eq_true rfl⟩ dX4_sendEnd_68 (fun u8 hu8 => ?_)
              show V 0 0 (CW cy a kd co mk al dz rd rw wo sa sz ps bt u8 (((M2 ++ mkB kd true).length : Nat) : Int) dm pl re cu) [(0, .ref (a 7)), (1, vI q), (2, vI i)] [] 71
              refine z_iinc C (lv' := [(2, vI (i + 1)), (0, .ref (a 7)), (1, vI q)]) dX4_sendEnd_71 2 rfl (by decide) rfl ?_
              refine z_goto C (tgt := 61) dX4_sendEnd_74 (by decide) ?_
              refine z_lsub C [1, 2, 0] rfl ?_
              exact ih q (i + 1) u8 (M2 ++ mkB kd true) (iq) (by omega) (hu8) (by rw [show (i + 1).toNat = i.toNat + 1 by omega, repM_s, ← List.append_assoc, ← eM2]) (by omega)
        refine z_lsub C [2, 1, 0] rfl ?_
        exact J61 _ 2 0 o M (by (try rw [cm]); first | rfl | (simp [hasMk] at *; omega) | (rw [if_neg (by simp), if_pos (by omega)]) | (rw [if_neg (by simp), if_neg (by omega)])) (by omega) (hM) (by rw [eM]; simp [repM]) (Nat.lt_succ_self _)
    · refine z_bipush C (z := 6) dX4_sendEnd_39 (by decide) ?_
      refine z_goto C (tgt := 45) dX4_sendEnd_41 (by decide) ?_
      refine z_istore_n C (lv' := [(1, vI 6), (0, .ref (a 7))]) dX4_sendEnd_45 rfl (by decide) rfl ?_
      refine z_aload_n C dX4_sendEnd_46 1 rfl ?_
      refine z_get C hinX4 (ci := 6) rfl 7 rfl 0 (by decide) k0 rfl (v := .ref (a 1)) rfl dX4_sendEnd_47 ?_
      refine z_get C hinX5 (ci := 7) rfl 1 rfl 0 (by decide) k1 rfl (v := vI kd) rfl dX4_sendEnd_50 ?_
      refine z_iconst C (z := 2) dX4_sendEnd_53 ?_
      refine z_icmp_ne C (by omega) (by decide) (tgt := 59) dX4_sendEnd_54 (by decide) (fun hc_9 => ?_) (fun hc_9 => ?_)
      · refine z_iconst C (z := 0) dX4_sendEnd_59 ?_
        refine z_istore_n C (lv' := [(2, vI 0), (1, vI 6), (0, .ref (a 7))]) dX4_sendEnd_60 rfl (by decide) rfl ?_
        have J61 : ∀ (f : Nat) (q : Int) (i : Int) (o2 : Nat → BitVec 64) (M2 : List Bool), (q = if hasMk kd mk then 6 else if kd = 2 then 2 else 0) → (0 ≤ i ∧ i ≤ q ∧ q ≤ 6) → (OR o2 M2) → (M2 = en1 kd al L ++ repM kd i.toNat) → (q - i).toNat < f → V 0 0 (CW cy a kd co mk al dz rd rw wo sa sz ps bt o2 ((M2.length : Nat) : Int) dm pl re cu) [(0, .ref (a 7)), (1, vI q), (2, vI i)] [] 61 := by
          intro f
          induction f with
          | zero => intro q i o2 M2 iq i0 hM2 eM2 hf; exact absurd hf (Nat.not_lt_zero _)
          | succ f ih =>
            intro q i o2 M2 iq i0 hM2 eM2 hf
            refine z_iload_n C dX4_sendEnd_61 2 rfl ?_
            refine z_iload_n C dX4_sendEnd_62 1 rfl ?_
            refine z_icmp_ge C (by omega) (by omega) (tgt := 77) dX4_sendEnd_63 (by decide) (fun hc_10 => ?_) (fun hc_10 => ?_)
            · refine z_aload_n C dX4_sendEnd_77 0 rfl ?_
              refine z_get C hinX4 (ci := 6) rfl 7 rfl 4 (by decide) k2 rfl (v := .ref (a 6)) rfl dX4_sendEnd_78 ?_
              refine z_iconst C (z := 0) dX4_sendEnd_81 ?_
              refine z_callV C (As := [vI 0]) (st := []) (c_X1_alignForL l D cy tw a kd co mk al dz rd rw wo sa sz ps bt o2 dm pl re cu 0 M2 (hM2) (by omega) (by omega) (by have q1 := congrArg List.length eM2; rw [List.length_append, repM_len] at q1; split at q1 <;> omega)) gX4_sendEnd_X1_alignFor kn_X1_alignFor rfl ⟨rfl, rfl, Nat.le_of_ble_eq_true rfl, Nat.le_of_ble_eq_true rfl⟩ 6 rfl (ci := 3) rfl rfl (Nat.le_of_ble_eq_true rfl) ⟨Nat.le_of_ble_eq_true rfl, Nat.le_of_ble_eq_true rfl⟩ dX4_sendEnd_82 (fun u11 hu11 => ?_)
              show V 0 0 (CW cy a kd co mk al dz rd rw wo sa sz ps bt u11 (((M2 ++ alB M2 0).length : Nat) : Int) dm pl re cu) [(0, .ref (a 7)), (1, vI q), (2, vI i)] [] 85
              refine z_vret C dX4_sendEnd_85 u11 ?_ ?_ ?_ (by decide) (by decide)
              · exact rfl
              · have e : enB kd mk al L = (M2 ++ alB M2 0) := by (have e2 : en2 kd mk al L = M2 := (by rw [en2, eM2, show i = q by omega, iq]; split <;> (try split) <;> rfl)); rw [enB, e2]
                rw [e]; exact hu11
              · have e : enB kd mk al L = (M2 ++ alB M2 0) := by (have e2 : en2 kd mk al L = M2 := (by rw [en2, eM2, show i = q by omega, iq]; split <;> (try split) <;> rfl)); rw [enB, e2]
                rw [e]
            · refine z_aload_n C dX4_sendEnd_66 0 rfl ?_
              refine z_iconst C (z := 1) dX4_sendEnd_67 ?_
              refine z_callV C (As := [vI 1]) (st := []) (c_X4_sendMark l D cy tw a kd co mk al dz rd rw wo sa sz ps bt o2 dm pl re cu true M2 (hM2) (by omega) (by omega) (by have q1 := congrArg List.length eM2; rw [List.length_append, repM_len] at q1; split at q1 <;> omega)) gX4_sendEnd_X4_sendMark kn_X4_sendMark rfl ⟨rfl, rfl, Nat.le_of_ble_eq_true rfl, Nat.le_of_ble_eq_true rfl⟩ 7 rfl (ci := 6) rfl rfl (Nat.le_of_ble_eq_true rfl) ⟨Nat.le_of_ble_eq_true rfl, Nat.le_of_ble_eq_true rfl⟩ dX4_sendEnd_68 (fun u12 hu12 => ?_)
              show V 0 0 (CW cy a kd co mk al dz rd rw wo sa sz ps bt u12 (((M2 ++ mkB kd true).length : Nat) : Int) dm pl re cu) [(0, .ref (a 7)), (1, vI q), (2, vI i)] [] 71
              refine z_iinc C (lv' := [(2, vI (i + 1)), (0, .ref (a 7)), (1, vI q)]) dX4_sendEnd_71 2 rfl (by decide) rfl ?_
              refine z_goto C (tgt := 61) dX4_sendEnd_74 (by decide) ?_
              refine z_lsub C [1, 2, 0] rfl ?_
              exact ih q (i + 1) u12 (M2 ++ mkB kd true) (iq) (by omega) (hu12) (by rw [show (i + 1).toNat = i.toNat + 1 by omega, repM_s, ← List.append_assoc, ← eM2]) (by omega)
        refine z_lsub C [2, 1, 0] rfl ?_
        exact J61 _ 6 0 o M (by (try rw [cm]); first | rfl | (simp [hasMk] at *; omega) | (rw [if_neg (by simp), if_pos (by omega)]) | (rw [if_neg (by simp), if_neg (by omega)])) (by omega) (hM) (by rw [eM]; simp [repM]) (Nat.lt_succ_self _)
      · refine z_iconst C (z := 2) dX4_sendEnd_57 ?_
        refine z_istore_n C (lv' := [(1, vI 2), (0, .ref (a 7))]) dX4_sendEnd_58 rfl (by decide) rfl ?_
        refine z_iconst C (z := 0) dX4_sendEnd_59 ?_
        refine z_istore_n C (lv' := [(2, vI 0), (1, vI 2), (0, .ref (a 7))]) dX4_sendEnd_60 rfl (by decide) rfl ?_
        have J61 : ∀ (f : Nat) (q : Int) (i : Int) (o2 : Nat → BitVec 64) (M2 : List Bool), (q = if hasMk kd mk then 6 else if kd = 2 then 2 else 0) → (0 ≤ i ∧ i ≤ q ∧ q ≤ 6) → (OR o2 M2) → (M2 = en1 kd al L ++ repM kd i.toNat) → (q - i).toNat < f → V 0 0 (CW cy a kd co mk al dz rd rw wo sa sz ps bt o2 ((M2.length : Nat) : Int) dm pl re cu) [(0, .ref (a 7)), (1, vI q), (2, vI i)] [] 61 := by
          intro f
          induction f with
          | zero => intro q i o2 M2 iq i0 hM2 eM2 hf; exact absurd hf (Nat.not_lt_zero _)
          | succ f ih =>
            intro q i o2 M2 iq i0 hM2 eM2 hf
            refine z_iload_n C dX4_sendEnd_61 2 rfl ?_
            refine z_iload_n C dX4_sendEnd_62 1 rfl ?_
            refine z_icmp_ge C (by omega) (by omega) (tgt := 77) dX4_sendEnd_63 (by decide) (fun hc_13 => ?_) (fun hc_13 => ?_)
            · refine z_aload_n C dX4_sendEnd_77 0 rfl ?_
              refine z_get C hinX4 (ci := 6) rfl 7 rfl 4 (by decide) k2 rfl (v := .ref (a 6)) rfl dX4_sendEnd_78 ?_
              refine z_iconst C (z := 0) dX4_sendEnd_81 ?_
              refine z_callV C (As := [vI 0]) (st := []) (c_X1_alignForL l D cy tw a kd co mk al dz rd rw wo sa sz ps bt o2 dm pl re cu 0 M2 (hM2) (by omega) (by omega) (by have q1 := congrArg List.length eM2; rw [List.length_append, repM_len] at q1; split at q1 <;> omega)) gX4_sendEnd_X1_alignFor kn_X1_alignFor rfl ⟨rfl, rfl, Nat.le_of_ble_eq_true rfl, Nat.le_of_ble_eq_true rfl⟩ 6 rfl (ci := 3) rfl rfl (Nat.le_of_ble_eq_true rfl) ⟨Nat.le_of_ble_eq_true rfl, Nat.le_of_ble_eq_true rfl⟩ dX4_sendEnd_82 (fun u14 hu14 => ?_)
              show V 0 0 (CW cy a kd co mk al dz rd rw wo sa sz ps bt u14 (((M2 ++ alB M2 0).length : Nat) : Int) dm pl re cu) [(0, .ref (a 7)), (1, vI q), (2, vI i)] [] 85
              refine z_vret C dX4_sendEnd_85 u14 ?_ ?_ ?_ (by decide) (by decide)
              · exact rfl
              · have e : enB kd mk al L = (M2 ++ alB M2 0) := by (have e2 : en2 kd mk al L = M2 := (by rw [en2, eM2, show i = q by omega, iq]; split <;> (try split) <;> rfl)); rw [enB, e2]
                rw [e]; exact hu14
              · have e : enB kd mk al L = (M2 ++ alB M2 0) := by (have e2 : en2 kd mk al L = M2 := (by rw [en2, eM2, show i = q by omega, iq]; split <;> (try split) <;> rfl)); rw [enB, e2]
                rw [e]
            · refine z_aload_n C dX4_sendEnd_66 0 rfl ?_
              refine z_iconst C (z := 1) dX4_sendEnd_67 ?_
              refine z_callV C (As := [vI 1]) (st := []) (c_X4_sendMark l D cy tw a kd co mk al dz rd rw wo sa sz ps bt o2 dm pl re cu true M2 (hM2) (by omega) (by omega) (by have q1 := congrArg List.length eM2; rw [List.length_append, repM_len] at q1; split at q1 <;> omega)) gX4_sendEnd_X4_sendMark kn_X4_sendMark rfl ⟨rfl, rfl, Nat.le_of_ble_eq_true rfl, Nat.le_of_ble_eq_true rfl⟩ 7 rfl (ci := 6) rfl rfl (Nat.le_of_ble_eq_true rfl) ⟨Nat.le_of_ble_eq_true rfl, Nat.le_of_ble_eq_true rfl⟩ dX4_sendEnd_68 (fun u15 hu15 => ?_)
              show V 0 0 (CW cy a kd co mk al dz rd rw wo sa sz ps bt u15 (((M2 ++ mkB kd true).length : Nat) : Int) dm pl re cu) [(0, .ref (a 7)), (1, vI q), (2, vI i)] [] 71
              refine z_iinc C (lv' := [(2, vI (i + 1)), (0, .ref (a 7)), (1, vI q)]) dX4_sendEnd_71 2 rfl (by decide) rfl ?_
              refine z_goto C (tgt := 61) dX4_sendEnd_74 (by decide) ?_
              refine z_lsub C [1, 2, 0] rfl ?_
              exact ih q (i + 1) u15 (M2 ++ mkB kd true) (iq) (by omega) (hu15) (by rw [show (i + 1).toNat = i.toNat + 1 by omega, repM_s, ← List.append_assoc, ← eM2]) (by omega)
        refine z_lsub C [2, 1, 0] rfl ?_
        exact J61 _ 2 0 o M (by (try rw [cm]); first | rfl | (simp [hasMk] at *; omega) | (rw [if_neg (by simp), if_pos (by omega)]) | (rw [if_neg (by simp), if_neg (by omega)])) (by omega) (hM) (by rw [eM]; simp [repM]) (Nat.lt_succ_self _)
  refine z_aload_n C dX4_sendEnd_0 0 rfl ?_
  refine z_get C hinX4 (ci := 6) rfl 7 rfl 0 (by decide) k0 rfl (v := .ref (a 1)) rfl dX4_sendEnd_1 ?_
  refine z_get C hinX5 (ci := 7) rfl 1 rfl 0 (by decide) k1 rfl (v := vI kd) rfl dX4_sendEnd_4 ?_
  refine z_iconst C (z := 2) dX4_sendEnd_7 ?_
  refine z_icmp_ne C (by omega) (by decide) (tgt := 29) dX4_sendEnd_8 (by decide) (fun hc_16 => ?_) (fun hc_16 => ?_)
  · exact J29 ou L (hL) (by rw [en1, decide_eq_false (by omega)]; simp)
  · refine z_aload_n C dX4_sendEnd_11 0 rfl ?_
    refine z_get C hinX4 (ci := 6) rfl 7 rfl 0 (by decide) k0 rfl (v := .ref (a 1)) rfl dX4_sendEnd_12 ?_
    refine z_get C hinX5 (ci := 7) rfl 1 rfl 2 (by decide) k3 rfl (v := vI (b2i al)) rfl dX4_sendEnd_15 ?_
    refine z_ifz C (tgt := 29) dX4_sendEnd_18 (by decide) (fun ca => ?_) (fun ca => ?_)
    · exact J29 ou L (hL) (by rw [en1, ca]; simp)
    · refine z_aload_n C dX4_sendEnd_21 0 rfl ?_
      refine z_get C hinX4 (ci := 6) rfl 7 rfl 4 (by decide) k2 rfl (v := .ref (a 6)) rfl dX4_sendEnd_22 ?_
      refine z_iconst C (z := 0) dX4_sendEnd_25 ?_
      refine z_callV C (As := [vI 0]) (st := []) (c_X1_alignForL l D cy tw a kd co mk al dz rd rw wo sa sz ps bt ou dm pl re cu 0 L (by omega) (by omega) (by omega) (by omega)) gX4_sendEnd_X1_alignFor kn_X1_alignFor rfl ⟨rfl, rfl, Nat.le_of_ble_eq_true rfl, Nat.le_of_ble_eq_true rfl⟩ 6 rfl (ci := 3) rfl rfl (Nat.le_of_ble_eq_true rfl) ⟨Nat.le_of_ble_eq_true rfl, Nat.le_of_ble_eq_true rfl⟩ dX4_sendEnd_26 (fun u17 hu17 => ?_)
      show V 0 0 (CW cy a kd co mk al dz rd rw wo sa sz ps bt u17 (((L ++ alB L 0).length : Nat) : Int) dm pl re cu) [(0, .ref (a 7))] [] 29
      exact J29 u17 (L ++ alB L 0) (hu17) (by rw [en1, ca, decide_eq_true (by omega)]; simp)
theorem OR_0 (ou : Nat → BitVec 64) : OR ou [] := OR_nil ou
theorem kn_X4_sendAll : zKn yX4_sendAll wsX4_sendAll cX4_sendAll 3 (none) 0 := ⟨⟨_, rfl⟩, by decide +kernel, by decide +kernel, by decide +kernel⟩
set_option maxHeartbeats 400000 in
set_option maxRecDepth 100000 in
theorem c_X4_sendAll (l : Launch) (D : va_G) (cy : Nat → ClassId) (tw : Nat → Nat) (a : Nat → Nat) (kd : Int) (co : Int) (mk : Bool) (al : Bool) (dz : Bool) (rd : Bool) (rw : Int) (wo : Nat → BitVec 64) (sa : Nat → Int) (sz : Int) (ps : Int) (bt : Nat → Int) (ou : Nat → BitVec 64) (bi : Int) (dm : Int) (pl : Bool) (re : Int) (cu : Bool)   (hco : 1 ≤ co ∧ co ≤ 700) (hk : 0 ≤ kd ∧ kd ≤ 2) (hrw : 0 ≤ rw ∧ rw ≤ 24) : zMet l yX4_sendAll wsX4_sendAll { frames := 5, cells := 0, slots := 0, locals := 127 } D (zT cy) tw (CW cy a kd co mk al dz rd rw wo sa sz ps bt ou bi dm pl re cu) [.ref (a 7)] 0 0 (S := Nat → BitVec 64) (fun _ => none) (fun u => CW cy a kd co mk al dz rd rw wo sa sz ps bt u (((encA kd mk al co (px wo co) rw).length : Nat) : Int) dm pl re cu) (fun u => OR u (encA kd mk al co (px wo co) rw)) := by
  refine z_met (cc := cX4_sendAll) (nL := 3) (ret := none) (by decide +kernel) rfl (Nat.le_of_ble_eq_true rfl) (lv := [(0, .ref (a 7))]) rfl ?_
  intro V p_ e_ s_ m_ args_ below_ meth_ c_ A_ C hmn
  have hinX2 : ∀ w ∈ u_ws RX2 TX2 5, w ∈ wsX4_sendAll := by decide +kernel
  have hinX4 : ∀ w ∈ u_ws RX4 TX4 5, w ∈ wsX4_sendAll := by decide +kernel
  have hinX5 : ∀ w ∈ u_ws RX5 TX5 5, w ∈ wsX4_sendAll := by decide +kernel
  have k0 : Cond.fieldLink RX4 26 "FaxFilter$Sender" "out" "LFaxFilter$BitsOut;" ∈ wsX4_sendAll := List.mem_of_getElem? (i := 1) rfl
  have k1 : Cond.fieldLink RX4 15 "FaxFilter$Sender" "picture" "LFaxFilter$Picture;" ∈ wsX4_sendAll := List.mem_of_getElem? (i := 2) rfl
  have k2 : Cond.fieldLink RX4 35 "FaxFilter$Picture" "rows" "I" ∈ wsX4_sendAll := List.mem_of_getElem? (i := 3) rfl
  have k3 : Cond.fieldLink RX4 9 "FaxFilter$Sender" "settings" "LFaxFilter$Settings;" ∈ wsX4_sendAll := List.mem_of_getElem? (i := 4) rfl
  have k4 : Cond.fieldLink RX4 41 "FaxFilter$Settings" "kind" "I" ∈ wsX4_sendAll := List.mem_of_getElem? (i := 5) rfl
  have hon := on_eq hco.1
  refine z_aload_n C dX4_sendAll_0 0 rfl ?_
  refine z_get C hinX4 (ci := 6) rfl 7 rfl 4 (by decide) k0 rfl (v := .ref (a 6)) rfl dX4_sendAll_1 ?_
  refine z_callV C (As := []) (st := []) (c_X1_restart l D cy tw a kd co mk al dz rd rw wo sa sz ps bt ou bi dm pl re cu   ) gX4_sendAll_X1_restart kn_X1_restart rfl ⟨rfl, rfl, Nat.le_of_ble_eq_true rfl, Nat.le_of_ble_eq_true rfl⟩ 6 rfl (ci := 3) rfl rfl (Nat.le_of_ble_eq_true rfl) ⟨Nat.le_of_ble_eq_true rfl, Nat.le_of_ble_eq_true rfl⟩ dX4_sendAll_4 (fun u1 hu1 => ?_)
  clear hu1; clear u1
  show V 0 0 (CW cy a kd co mk al dz rd rw wo sa sz ps bt ou 0 dm pl re cu) [(0, .ref (a 7))] [] 7
  refine z_iconst C (z := 0) dX4_sendAll_7 ?_
  refine z_istore_n C (lv' := [(1, vI 0), (0, .ref (a 7))]) dX4_sendAll_8 rfl (by decide) rfl ?_
  have J9 : ∀ (f : Nat) (r : Int) (o : Nat → BitVec 64) (M : List Bool), (0 ≤ r ∧ r ≤ rw) → (OR o M) → (M = encR kd mk al co (px wo co) r.toNat) → (rw - r).toNat < f → V 0 0 (CW cy a kd co mk al dz rd rw wo sa sz ps bt o ((M.length : Nat) : Int) dm pl re cu) [(0, .ref (a 7)), (1, vI r)] [] 9 := by
    intro f
    induction f with
    | zero => intro r o M i0 hM eM hf; exact absurd hf (Nat.not_lt_zero _)
    | succ f ih =>
      intro r o M i0 hM eM hf
      refine z_iload_n C dX4_sendAll_9 1 rfl ?_
      refine z_aload_n C dX4_sendAll_10 0 rfl ?_
      refine z_get C hinX4 (ci := 6) rfl 7 rfl 1 (by decide) k1 rfl (v := .ref (a 2)) rfl dX4_sendAll_11 ?_
      refine z_get C hinX2 (ci := 4) rfl 2 rfl 1 (by decide) k2 rfl (v := vI rw) rfl dX4_sendAll_14 ?_
      refine z_icmp_ge C (by omega) (by omega) (tgt := 81) dX4_sendAll_17 (by decide) (fun hc_2 => ?_) (fun hc_2 => ?_)
      · refine z_aload_n C dX4_sendAll_81 0 rfl ?_
        have hb := (encR_bd kd mk al (px wo co) hco.1 hco.2 (n := r.toNat) (by omega)).1
        rw [← eM] at hb
        refine z_callV C (As := []) (st := []) (c_X4_sendEnd l D cy tw a kd co mk al dz rd rw wo sa sz ps bt o dm pl re cu  M (hM) (by omega) (by omega) (by omega)) gX4_sendAll_X4_sendEnd kn_X4_sendEnd rfl ⟨rfl, rfl, Nat.le_of_ble_eq_true rfl, Nat.le_of_ble_eq_true rfl⟩ 7 rfl (ci := 6) rfl rfl (Nat.le_of_ble_eq_true rfl) ⟨Nat.le_of_ble_eq_true rfl, Nat.le_of_ble_eq_true rfl⟩ dX4_sendAll_82 (fun u3 hu3 => ?_)
        show V 0 0 (CW cy a kd co mk al dz rd rw wo sa sz ps bt u3 (((enB kd mk al M).length : Nat) : Int) dm pl re cu) [(0, .ref (a 7)), (1, vI r)] [] 85
        refine z_vret C dX4_sendAll_85 u3 ?_ ?_ ?_ (by decide) (by decide)
        · exact rfl
        · have e : encA kd mk al co (px wo co) rw = enB kd mk al M := by rw [encA, eM, show r = rw by omega]
          rw [e]; exact hu3
        · have e : encA kd mk al co (px wo co) rw = enB kd mk al M := by rw [encA, eM, show r = rw by omega]
          rw [e]
      · refine z_aload_n C dX4_sendAll_20 0 rfl ?_
        have J52 : ∀ (w : Bool), (w = isPl kd r) → V 0 0 (CW cy a kd co mk al dz rd rw wo sa sz ps bt o ((M.length : Nat) : Int) dm pl re cu) [(0, .ref (a 7)), (1, vI r)] [vI (b2i w)] 52 := by
          intro w iw
          refine z_istore_n C (lv' := [(2, vI (b2i w)), (0, .ref (a 7)), (1, vI r)]) dX4_sendAll_52 rfl (by decide) rfl ?_
          refine z_aload_n C dX4_sendAll_53 1 rfl ?_
          have hb := (encR_bd kd mk al (px wo co) hco.1 hco.2 (n := r.toNat) (by omega)).2 (by omega)
          rw [← eM] at hb
          have hs := stB_len kd mk al M w
          refine z_iload_n C dX4_sendAll_54 0 rfl ?_
          refine z_callV C (As := [vI (b2i w)]) (st := []) (c_X4_sendStart l D cy tw a kd co mk al dz rd rw wo sa sz ps bt o dm pl re cu w M (hM) (by omega) (by omega) (by omega)) gX4_sendAll_X4_sendStart kn_X4_sendStart rfl ⟨rfl, rfl, Nat.le_of_ble_eq_true rfl, Nat.le_of_ble_eq_true rfl⟩ 7 rfl (ci := 6) rfl rfl (Nat.le_of_ble_eq_true rfl) ⟨Nat.le_of_ble_eq_true rfl, Nat.le_of_ble_eq_true rfl⟩ dX4_sendAll_55 (fun u4 hu4 => ?_)
          show V 0 0 (CW cy a kd co mk al dz rd rw wo sa sz ps bt u4 (((M ++ stB kd mk al M w).length : Nat) : Int) dm pl re cu) [(2, vI (b2i w)), (0, .ref (a 7)), (1, vI r)] [] 58
          refine z_iload_n C dX4_sendAll_58 0 rfl ?_
          refine z_ifz C (tgt := 70) dX4_sendAll_59 (by decide) (fun cw => ?_) (fun cw => ?_)
          · refine z_aload_n C dX4_sendAll_70 1 rfl ?_
            refine z_iload_n C dX4_sendAll_71 2 rfl ?_
            refine z_callV C (As := [vI r]) (st := []) (c_X4_sendDrawn l D cy tw a kd co mk al dz rd rw wo sa sz ps bt u4 dm pl re cu r (M ++ stB kd mk al M w) (hu4) (by omega) (by omega) (by have q := drB_bd0 (f := px wo co r) (g := px wo co (r - 1)) hco.1 hco.2 (co + 1).toNat; simp only [List.length_append] at *; omega)) gX4_sendAll_X4_sendDrawn kn_X4_sendDrawn rfl ⟨rfl, rfl, Nat.le_of_ble_eq_true rfl, Nat.le_of_ble_eq_true rfl⟩ 7 rfl (ci := 6) rfl rfl (Nat.le_of_ble_eq_true rfl) ⟨Nat.le_of_ble_eq_true rfl, Nat.le_of_ble_eq_true rfl⟩ dX4_sendAll_72 (fun u5 hu5 => ?_)
            show V 0 0 (CW cy a kd co mk al dz rd rw wo sa sz ps bt u5 ((((M ++ stB kd mk al M w) ++ drB (px wo co r) (px wo co (r - 1)) co (co + 1).toNat 0 false true).length : Nat) : Int) dm pl re cu) [(2, vI (b2i w)), (0, .ref (a 7)), (1, vI r)] [] 75
            refine z_iinc C (lv' := [(1, vI (r + 1)), (2, vI (b2i w)), (0, .ref (a 7))]) dX4_sendAll_75 2 rfl (by decide) rfl ?_
            refine z_goto C (tgt := 9) dX4_sendAll_78 (by decide) ?_
            refine z_lsub C [2, 0] rfl ?_
            exact ih (r + 1) u5 ((M ++ stB kd mk al M w) ++ drB (px wo co r) (px wo co (r - 1)) co (co + 1).toNat 0 false true) (by omega) (hu5) (by rw [show (r + 1).toNat = r.toNat + 1 by omega, encR, ← eM, bodyB, show ((r.toNat : Nat) : Int) = r by omega, ← iw, cw]; rfl) (by omega)
          · refine z_aload_n C dX4_sendAll_62 1 rfl ?_
            refine z_iload_n C dX4_sendAll_63 2 rfl ?_
            refine z_callV C (As := [vI r]) (st := []) (c_X4_sendPlain l D cy tw a kd co mk al dz rd rw wo sa sz ps bt u4 dm pl re cu r (M ++ stB kd mk al M w) (hu4) (by omega) (by omega) (by have q := plB_bd0 (f := px wo co r) hco.1 hco.2 (co + 1).toNat; simp only [List.length_append] at *; omega)) gX4_sendAll_X4_sendPlain kn_X4_sendPlain rfl ⟨rfl, rfl, Nat.le_of_ble_eq_true rfl, Nat.le_of_ble_eq_true rfl⟩ 7 rfl (ci := 6) rfl rfl (Nat.le_of_ble_eq_true rfl) ⟨Nat.le_of_ble_eq_true rfl, Nat.le_of_ble_eq_true rfl⟩ dX4_sendAll_64 (fun u6 hu6 => ?_)
            show V 0 0 (CW cy a kd co mk al dz rd rw wo sa sz ps bt u6 ((((M ++ stB kd mk al M w) ++ plB (px wo co r) co (co + 1).toNat 0 false).length : Nat) : Int) dm pl re cu) [(2, vI (b2i w)), (0, .ref (a 7)), (1, vI r)] [] 67
            refine z_goto C (tgt := 75) dX4_sendAll_67 (by decide) ?_
            refine z_iinc C (lv' := [(1, vI (r + 1)), (2, vI (b2i w)), (0, .ref (a 7))]) dX4_sendAll_75 2 rfl (by decide) rfl ?_
            refine z_goto C (tgt := 9) dX4_sendAll_78 (by decide) ?_
            refine z_lsub C [2, 0] rfl ?_
            exact ih (r + 1) u6 ((M ++ stB kd mk al M w) ++ plB (px wo co r) co (co + 1).toNat 0 false) (by omega) (hu6) (by rw [show (r + 1).toNat = r.toNat + 1 by omega, encR, ← eM, bodyB, show ((r.toNat : Nat) : Int) = r by omega, ← iw, cw]; rfl) (by omega)
        refine z_get C hinX4 (ci := 6) rfl 7 rfl 0 (by decide) k3 rfl (v := .ref (a 1)) rfl dX4_sendAll_21 ?_
        refine z_get C hinX5 (ci := 7) rfl 1 rfl 0 (by decide) k4 rfl (v := vI kd) rfl dX4_sendAll_24 ?_
        refine z_if_eq C (by omega) (tgt := 47) dX4_sendAll_27 (by decide) (fun hc_7 => ?_) (fun hc_7 => ?_)
        · refine z_iconst C (z := 1) dX4_sendAll_47 ?_
          refine z_goto C (tgt := 52) dX4_sendAll_48 (by decide) ?_
          exact J52 true (by rw [isPl, decide_eq_true (by omega)]; first | done | rfl)
        · refine z_aload_n C dX4_sendAll_30 0 rfl ?_
          refine z_get C hinX4 (ci := 6) rfl 7 rfl 0 (by decide) k3 rfl (v := .ref (a 1)) rfl dX4_sendAll_31 ?_
          refine z_get C hinX5 (ci := 7) rfl 1 rfl 0 (by decide) k4 rfl (v := vI kd) rfl dX4_sendAll_34 ?_
          refine z_iconst C (z := 1) dX4_sendAll_37 ?_
          refine z_icmp_ne C (by omega) (by decide) (tgt := 51) dX4_sendAll_38 (by decide) (fun hc_8 => ?_) (fun hc_8 => ?_)
          · refine z_iconst C (z := 0) dX4_sendAll_51 ?_
            exact J52 false (by rw [isPl, decide_eq_false (by omega), decide_eq_false (by omega)]; first | done | rfl)
          · refine z_iload_n C dX4_sendAll_41 1 rfl ?_
            refine z_iconst C (z := 4) dX4_sendAll_42 ?_
            refine z_irem C dX4_sendAll_43 (by omega) (by decide) ?_
            refine z_if_ne C (by omega) (tgt := 51) dX4_sendAll_44 (by decide) (fun hc_9 => ?_) (fun hc_9 => ?_)
            · refine z_iconst C (z := 0) dX4_sendAll_51 ?_
              exact J52 false (by rw [isPl, decide_eq_false (by omega), decide_eq_true (by omega), decide_eq_false (by omega)]; first | done | rfl)
            · refine z_iconst C (z := 1) dX4_sendAll_47 ?_
              refine z_goto C (tgt := 52) dX4_sendAll_48 (by decide) ?_
              exact J52 true (by rw [isPl, decide_eq_false (by omega), decide_eq_true (by omega), decide_eq_true (by omega)]; first | done | rfl)
  refine z_lsub C [1, 0] rfl ?_
  exact J9 _ 0 ou ([]) (by omega) (OR_nil _) (rfl) (Nat.lt_succ_self _)
