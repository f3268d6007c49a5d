theorem chC_ge {f : Int → Bool} {N x : Int} {d : Bool} (h : x = N) : chC f N x d = N := by
  unfold chC; subst h; split
  · rw [nxt_ge (Int.le_refl _), nxt_ge (Int.le_refl _)]
  · rw [nxt_ge (Int.le_refl _)]
theorem chC_ne {f : Int → Bool} {N x : Int} {d : Bool} (h : x < N) (hh : f x = d → f (x - 1) = d) : chC f N x d = chC f N (x + 1) d := by
  unfold chC
  rw [show x + 1 - 1 = x by omega]
  cases hx : f x == d with
  | true =>
    have h1 : f x = d := eq_of_beq hx
    rw [if_pos rfl, hh h1, beq_self_eq_true, if_pos rfl, nxt_ne h (by rw [h1]; cases d <;> decide)]
  | false =>
    have h1 : ¬ f x = d := fun z => by rw [z, beq_self_eq_true] at hx; cases hx
    have h2 : f x = !d := by cases hq : f x <;> cases d <;> first | rfl | exact absurd hq h1
    show nxt f N (if (f (x - 1) == d) = true then nxt f N x (!d) else x) d = nxt f N (x + 1) d
    split
    · rw [nxt_at h h2, nxt_ne h h1]
    · rw [nxt_ne h h1]
theorem chC_at {f : Int → Bool} {N x : Int} {d : Bool} (h : x < N) (h1 : f x = d) (h2 : ¬ f (x - 1) = d) : chC f N x d = x := by
  unfold chC
  rw [show (f (x - 1) == d) = false from beq_eq_false_iff_ne.mpr h2, if_neg (by decide), nxt_at h h1]
theorem chg_f {f : Int → Bool} {x : Int} (h : chg f x = false) : f x = f (x - 1) := by
  unfold chg at h; cases hq : f x <;> cases hw : f (x - 1) <;> rw [hq, hw] at h <;> first | rfl | exact absurd h (by decide)
theorem chg_t {f : Int → Bool} {x : Int} (h : chg f x = true) : f x = !(f (x - 1)) := by
  unfold chg at h; cases hq : f x <;> cases hw : f (x - 1) <;> rw [hq, hw] at h <;> first | rfl | exact absurd h (by decide)
theorem runB_le (d : Bool) (n : Int) : (runB d n).length ≤ 24 := by
  have := runB_len d n; have := lenC_rg d (63 + n / 64); have := lenC_rg d (n % 64); split at * <;> omega
theorem kn_X8_look : zKn yX8_look wsX8_look cX8_look 2 (none) 1 := ⟨⟨_, rfl⟩, by decide +kernel, by decide +kernel, by decide +kernel⟩
set_option maxHeartbeats 2000000 in
set_option maxRecDepth 100000 in
theorem c_X8_look (l : Launch) (D : va_G) (cy : Nat → ClassId) (tw : Nat → Nat) (b : Nat → Nat) (kd : Int) (co : Int) (th : Int) (rw : Int) (cl : Int) (wr : Int) (po : Int) (dm : Int) (sx : Int) (aa : Int) (dk : Bool) (fi : Bool) (bb : Int) (cz : Int) (hm : Bool) (se : Nat → Bool) (da : Nat → Bool) (sa : Nat → Int) (bt : Nat → Int) (oz : Nat → Bool) (r : Int)  (hco : 1 ≤ co ∧ co ≤ 700) (hr : 0 ≤ r ∧ r < 24) (ha : 0 ≤ aa ∧ aa < co) : zMet l yX8_look wsX8_look { frames := 2, cells := 0, slots := 0, locals := 44 } D (zT cy) tw (MW cy b kd co th rw cl wr po dm sx aa dk fi bb cz hm se da sa bt oz) [.ref (b 0), vI r] 0 0 (S := Unit) (fun _ => none) (fun _ => MW cy b kd co th rw cl wr po dm sx aa dk fi (chC (pd da (r - 1)) co (if fi then aa else aa + 1) (!dk)) (nxt (pd da (r - 1)) co (chC (pd da (r - 1)) co (if fi then aa else aa + 1) (!dk)) dk) hm se da sa bt oz) (fun _ => True) := by
  refine z_met (cc := cX8_look) (nL := 2) (ret := none) (by decide +kernel) rfl (Nat.le_of_ble_eq_true rfl) (lv := [(0, .ref (b 0)), (1, vI r)]) rfl ?_
  intro V p_ e_ s_ m_ args_ below_ meth_ c_ A_ C hmn
  have hinX8 : ∀ w ∈ u_ws RX8 TX8 22, w ∈ wsX8_look := by decide +kernel
  have k0 : Cond.fieldLink RX8 117 "FaxFilterModel" "isFirst" "Z" ∈ wsX8_look := List.mem_of_getElem? (i := 1) rfl
  have k1 : Cond.fieldLink RX8 121 "FaxFilterModel" "a" "I" ∈ wsX8_look := List.mem_of_getElem? (i := 2) rfl
  have k2 : Cond.fieldLink RX8 124 "FaxFilterModel" "b" "I" ∈ wsX8_look := List.mem_of_getElem? (i := 3) rfl
  have k3 : Cond.fieldLink RX8 37 "FaxFilterModel" "columns" "I" ∈ wsX8_look := List.mem_of_getElem? (i := 4) rfl
  have k4 : Cond.fieldLink RX8 130 "FaxFilterModel" "c" "I" ∈ wsX8_look := List.mem_of_getElem? (i := 6) rfl
  have k5 : Cond.fieldLink RX8 127 "FaxFilterModel" "isDark" "Z" ∈ wsX8_look := List.mem_of_getElem? (i := 5) rfl
  refine z_aload_n C dX8_look_0 0 rfl ?_
  refine z_aload_n C dX8_look_1 0 rfl ?_
  refine z_get C hinX8 (ci := 10) rfl 0 rfl 18 (by decide) k0 rfl (v := vI (b2i fi)) rfl dX8_look_2 ?_
  refine z_ifz C (tgt := 15) dX8_look_5 (by decide) (fun cf => ?_) (fun cf => ?_)
  · refine z_aload_n C dX8_look_15 0 rfl ?_
    refine z_get C hinX8 (ci := 10) rfl 0 rfl 16 (by decide) k1 rfl (v := vI aa) rfl dX8_look_16 ?_
    refine z_iconst C (z := 1) dX8_look_19 ?_
    refine z_iadd C dX8_look_20 ?_
    refine z_put C hinX8 tyX8 tyX8_ok nmX8 (ci := 10) rfl 0 rfl 19 (by decide) k2 rfl rfl rfl rfl (Nat.le_of_ble_eq_true rfl) dX8_look_21 (ws' := MW cy b kd co th rw cl wr po dm sx aa dk fi (aa + 1) cz hm se da sa bt oz) rfl ?_
    have J24 : ∀ (f : Nat) (y : Int), (0 ≤ y ∧ y ≤ co) → (chC (pd da (r - 1)) co (if fi then aa else aa + 1) (!dk) = chC (pd da (r - 1)) co y (!dk)) → (co - y).toNat < f → V 0 0 (MW cy b kd co th rw cl wr po dm sx aa dk fi y cz hm se da sa bt oz) [(0, .ref (b 0)), (1, vI r)] [] 24 := by
      intro f
      induction f with
      | zero => intro y i0 i1 hf; exact absurd hf (Nat.not_lt_zero _)
      | succ f ih =>
        intro y i0 i1 hf
        refine z_aload_n C dX8_look_24 0 rfl ?_
        refine z_get C hinX8 (ci := 10) rfl 0 rfl 19 (by decide) k2 rfl (v := vI y) rfl dX8_look_25 ?_
        refine z_aload_n C dX8_look_28 0 rfl ?_
        refine z_get C hinX8 (ci := 10) rfl 0 rfl 2 (by decide) k3 rfl (v := vI co) rfl dX8_look_29 ?_
        refine z_icmp_ge C (by omega) (by omega) (tgt := 80) dX8_look_32 (by decide) (fun hc_1 => ?_) (fun hc_1 => ?_)
        · have hgy : y < co → (pd da (r - 1)) y = !dk := fun _ => by omega
          have hby : chC (pd da (r - 1)) co (if fi then aa else aa + 1) (!dk) = y := by rw [i1, chC_ge (by omega), show y = co by omega]
          refine z_aload_n C dX8_look_80 0 rfl ?_
          refine z_aload_n C dX8_look_81 0 rfl ?_
          refine z_get C hinX8 (ci := 10) rfl 0 rfl 19 (by decide) k2 rfl (v := vI y) rfl dX8_look_82 ?_
          refine z_aload_n C dX8_look_85 0 rfl ?_
          refine z_get C hinX8 (ci := 10) rfl 0 rfl 2 (by decide) k3 rfl (v := vI co) rfl dX8_look_86 ?_
          refine z_icmp_le C (by omega) (by omega) (tgt := 99) dX8_look_89 (by decide) (fun hc_2 => ?_) (fun hc_2 => ?_)
          · refine z_aload_n C dX8_look_99 0 rfl ?_
            refine z_get C hinX8 (ci := 10) rfl 0 rfl 19 (by decide) k2 rfl (v := vI y) rfl dX8_look_100 ?_
            refine z_put C hinX8 tyX8 tyX8_ok nmX8 (ci := 10) rfl 0 rfl 19 (by decide) k2 rfl rfl rfl rfl (Nat.le_of_ble_eq_true rfl) dX8_look_103 (ws' := MW cy b kd co th rw cl wr po dm sx aa dk fi y cz hm se da sa bt oz) rfl ?_
            refine z_aload_n C dX8_look_106 0 rfl ?_
            refine z_aload_n C dX8_look_107 0 rfl ?_
            refine z_get C hinX8 (ci := 10) rfl 0 rfl 19 (by decide) k2 rfl (v := vI y) rfl dX8_look_108 ?_
            refine z_iconst C (z := 1) dX8_look_111 ?_
            refine z_iadd C dX8_look_112 ?_
            refine z_put C hinX8 tyX8 tyX8_ok nmX8 (ci := 10) rfl 0 rfl 20 (by decide) k4 rfl rfl rfl rfl (Nat.le_of_ble_eq_true rfl) dX8_look_113 (ws' := MW cy b kd co th rw cl wr po dm sx aa dk fi y (y + 1) hm se da sa bt oz) rfl ?_
            have J116 : ∀ (f : Nat) (z : Int), (y < z ∧ z ≤ co + 1) → (z ≤ co ∨ y = co) → (z ≤ co → nxt (pd da (r - 1)) co y dk = nxt (pd da (r - 1)) co z dk ∧ (pd da (r - 1)) (z - 1) = !dk) → (co + 1 - z).toNat < f → V 0 0 (MW cy b kd co th rw cl wr po dm sx aa dk fi y z hm se da sa bt oz) [(0, .ref (b 0)), (1, vI r)] [] 116 := by
              intro f
              induction f with
              | zero => intro z j0 j2 j1 hf; exact absurd hf (Nat.not_lt_zero _)
              | succ f ih =>
                intro z j0 j2 j1 hf
                refine z_aload_n C dX8_look_116 0 rfl ?_
                refine z_get C hinX8 (ci := 10) rfl 0 rfl 20 (by decide) k4 rfl (v := vI z) rfl dX8_look_117 ?_
                refine z_aload_n C dX8_look_120 0 rfl ?_
                refine z_get C hinX8 (ci := 10) rfl 0 rfl 2 (by decide) k3 rfl (v := vI co) rfl dX8_look_121 ?_
                refine z_icmp_ge C (by omega) (by omega) (tgt := 154) dX8_look_124 (by decide) (fun hc_3 => ?_) (fun hc_3 => ?_)
                · refine z_aload_n C dX8_look_154 0 rfl ?_
                  refine z_aload_n C dX8_look_155 0 rfl ?_
                  refine z_get C hinX8 (ci := 10) rfl 0 rfl 20 (by decide) k4 rfl (v := vI z) rfl dX8_look_156 ?_
                  refine z_aload_n C dX8_look_159 0 rfl ?_
                  refine z_get C hinX8 (ci := 10) rfl 0 rfl 2 (by decide) k3 rfl (v := vI co) rfl dX8_look_160 ?_
                  refine z_icmp_le C (by omega) (by omega) (tgt := 173) dX8_look_163 (by decide) (fun hc_4 => ?_) (fun hc_4 => ?_)
                  · refine z_aload_n C dX8_look_173 0 rfl ?_
                    refine z_get C hinX8 (ci := 10) rfl 0 rfl 20 (by decide) k4 rfl (v := vI z) rfl dX8_look_174 ?_
                    refine z_put C hinX8 tyX8 tyX8_ok nmX8 (ci := 10) rfl 0 rfl 20 (by decide) k4 rfl rfl rfl rfl (Nat.le_of_ble_eq_true rfl) dX8_look_177 (ws' := MW cy b kd co th rw cl wr po dm sx aa dk fi y z hm se da sa bt oz) rfl ?_
                    refine z_vret C dX8_look_180 () ?_ ?_ ?_ (by decide) (by decide)
                    · exact rfl
                    · exact trivial
                    · rw [hby]; rw [(j1 (by omega)).1, nxt_ge (by omega), show z = co by omega]
                  · refine z_aload_n C dX8_look_166 0 rfl ?_
                    refine z_get C hinX8 (ci := 10) rfl 0 rfl 2 (by decide) k3 rfl (v := vI co) rfl dX8_look_167 ?_
                    refine z_goto C (tgt := 177) dX8_look_170 (by decide) ?_
                    refine z_put C hinX8 tyX8 tyX8_ok nmX8 (ci := 10) rfl 0 rfl 20 (by decide) k4 rfl rfl rfl rfl (Nat.le_of_ble_eq_true rfl) dX8_look_177 (ws' := MW cy b kd co th rw cl wr po dm sx aa dk fi y co hm se da sa bt oz) rfl ?_
                    refine z_vret C dX8_look_180 () ?_ ?_ ?_ (by decide) (by decide)
                    · exact rfl
                    · exact trivial
                    · rw [hby]; rw [nxt_ge (by omega)]
                · refine z_aload_n C dX8_look_127 0 rfl ?_
                  refine z_iload_n C dX8_look_128 1 rfl ?_
                  refine z_iconst C (z := 1) dX8_look_129 ?_
                  refine z_isub C dX8_look_130 ?_
                  refine z_aload_n C dX8_look_131 0 rfl ?_
                  refine z_get C hinX8 (ci := 10) rfl 0 rfl 20 (by decide) k4 rfl (v := vI z) rfl dX8_look_132 ?_
                  refine z_callV C (As := [vI (r - 1), vI z]) (st := []) (c_X8_isChange l D cy tw b kd co th rw cl wr po dm sx aa dk fi y z hm se da sa bt oz (r - 1) z  (by omega) (by omega)) gX8_look_X8_isChange kn_X8_isChange rfl ⟨rfl, rfl, Nat.le_of_ble_eq_true rfl, Nat.le_of_ble_eq_true rfl⟩ 0 rfl (ci := 10) rfl rfl (Nat.le_of_ble_eq_true rfl) ⟨Nat.le_of_ble_eq_true rfl, Nat.le_of_ble_eq_true rfl⟩ dX8_look_135 (fun u5 hu5 => ?_)
                  clear hu5; clear u5
                  show V 0 0 (MW cy b kd co th rw cl wr po dm sx aa dk fi y z hm se da sa bt oz) [(0, .ref (b 0)), (1, vI r)] [vI (b2i (chg (pd da (r - 1)) z))] 138
                  refine z_ifnz C (tgt := 154) dX8_look_138 (by decide) (fun ck => ?_) (fun ck => ?_)
                  · refine z_aload_n C dX8_look_154 0 rfl ?_
                    refine z_aload_n C dX8_look_155 0 rfl ?_
                    refine z_get C hinX8 (ci := 10) rfl 0 rfl 20 (by decide) k4 rfl (v := vI z) rfl dX8_look_156 ?_
                    refine z_aload_n C dX8_look_159 0 rfl ?_
                    refine z_get C hinX8 (ci := 10) rfl 0 rfl 2 (by decide) k3 rfl (v := vI co) rfl dX8_look_160 ?_
                    refine z_icmp_le C (by omega) (by omega) (tgt := 173) dX8_look_163 (by decide) (fun hc_6 => ?_) (fun hc_6 => ?_)
                    · refine z_aload_n C dX8_look_173 0 rfl ?_
                      refine z_get C hinX8 (ci := 10) rfl 0 rfl 20 (by decide) k4 rfl (v := vI z) rfl dX8_look_174 ?_
                      refine z_put C hinX8 tyX8 tyX8_ok nmX8 (ci := 10) rfl 0 rfl 20 (by decide) k4 rfl rfl rfl rfl (Nat.le_of_ble_eq_true rfl) dX8_look_177 (ws' := MW cy b kd co th rw cl wr po dm sx aa dk fi y z hm se da sa bt oz) rfl ?_
                      refine z_vret C dX8_look_180 () ?_ ?_ ?_ (by decide) (by decide)
                      · exact rfl
                      · exact trivial
                      · rw [hby]; rw [show nxt (pd da (r - 1)) co y dk = z from by rw [(j1 (by omega)).1, nxt_at (by omega) (by rw [chg_t ck, (j1 (by omega)).2]; cases dk <;> rfl)]]
                    · exfalso; omega
                  · refine z_aload_n C dX8_look_141 0 rfl ?_
                    refine z_dup C dX8_look_142 rfl ?_
                    refine z_get C hinX8 (ci := 10) rfl 0 rfl 20 (by decide) k4 rfl (v := vI z) rfl dX8_look_143 ?_
                    refine z_iconst C (z := 1) dX8_look_146 ?_
                    refine z_iadd C dX8_look_147 ?_
                    refine z_put C hinX8 tyX8 tyX8_ok nmX8 (ci := 10) rfl 0 rfl 20 (by decide) k4 rfl rfl rfl rfl (Nat.le_of_ble_eq_true rfl) dX8_look_148 (ws' := MW cy b kd co th rw cl wr po dm sx aa dk fi y (z + 1) hm se da sa bt oz) rfl ?_
                    refine z_goto C (tgt := 116) dX8_look_151 (by decide) ?_
                    exact ih (z + 1) (by omega) (by omega) (fun _ => ⟨by rw [(j1 (by omega)).1, nxt_ne (by omega) (by rw [chg_f ck, (j1 (by omega)).2]; cases dk <;> decide)], by rw [show z + 1 - 1 = z by omega, chg_f ck, (j1 (by omega)).2]⟩) (by omega)
            exact J116 _ (y + 1) (by omega) (by omega) (fun z9 => ⟨by rw [nxt_ne (by omega) (by rw [hgy (by omega)]; cases dk <;> decide)], by rw [show y + 1 - 1 = y by omega]; exact hgy (by omega)⟩) (Nat.lt_succ_self _)
          · exfalso; omega
        · refine z_aload_n C dX8_look_35 0 rfl ?_
          refine z_iload_n C dX8_look_36 1 rfl ?_
          refine z_iconst C (z := 1) dX8_look_37 ?_
          refine z_isub C dX8_look_38 ?_
          refine z_aload_n C dX8_look_39 0 rfl ?_
          refine z_get C hinX8 (ci := 10) rfl 0 rfl 19 (by decide) k2 rfl (v := vI y) rfl dX8_look_40 ?_
          refine z_callV C (As := [vI (r - 1), vI y]) (st := []) (c_X8_isChange l D cy tw b kd co th rw cl wr po dm sx aa dk fi y cz hm se da sa bt oz (r - 1) y  (by omega) (by omega)) gX8_look_X8_isChange kn_X8_isChange rfl ⟨rfl, rfl, Nat.le_of_ble_eq_true rfl, Nat.le_of_ble_eq_true rfl⟩ 0 rfl (ci := 10) rfl rfl (Nat.le_of_ble_eq_true rfl) ⟨Nat.le_of_ble_eq_true rfl, Nat.le_of_ble_eq_true rfl⟩ dX8_look_43 (fun u7 hu7 => ?_)
          clear hu7; clear u7
          show V 0 0 (MW cy b kd co th rw cl wr po dm sx aa dk fi y cz hm se da sa bt oz) [(0, .ref (b 0)), (1, vI r)] [vI (b2i (chg (pd da (r - 1)) y))] 46
          refine z_ifz C (tgt := 67) dX8_look_46 (by decide) (fun cg => ?_) (fun cg => ?_)
          · refine z_aload_n C dX8_look_67 0 rfl ?_
            refine z_dup C dX8_look_68 rfl ?_
            refine z_get C hinX8 (ci := 10) rfl 0 rfl 19 (by decide) k2 rfl (v := vI y) rfl dX8_look_69 ?_
            refine z_iconst C (z := 1) dX8_look_72 ?_
            refine z_iadd C dX8_look_73 ?_
            refine z_put C hinX8 tyX8 tyX8_ok nmX8 (ci := 10) rfl 0 rfl 19 (by decide) k2 rfl rfl rfl rfl (Nat.le_of_ble_eq_true rfl) dX8_look_74 (ws' := MW cy b kd co th rw cl wr po dm sx aa dk fi (y + 1) cz hm se da sa bt oz) rfl ?_
            refine z_goto C (tgt := 24) dX8_look_77 (by decide) ?_
            exact ih (y + 1) (by omega) (by rw [i1, chC_ne (by omega) (fun z => by rw [← chg_f cg]; exact z)]) (by omega)
          · refine z_aload_n C dX8_look_49 0 rfl ?_
            refine z_iload_n C dX8_look_50 1 rfl ?_
            refine z_iconst C (z := 1) dX8_look_51 ?_
            refine z_isub C dX8_look_52 ?_
            refine z_aload_n C dX8_look_53 0 rfl ?_
            refine z_get C hinX8 (ci := 10) rfl 0 rfl 19 (by decide) k2 rfl (v := vI y) rfl dX8_look_54 ?_
            refine z_callV C (As := [vI (r - 1), vI y]) (st := []) (c_X8_at l D cy tw b kd co th rw cl wr po dm sx aa dk fi y cz hm se da sa bt oz (r - 1) y  (by omega) (by omega)) gX8_look_X8_at kn_X8_at rfl ⟨rfl, rfl, Nat.le_of_ble_eq_true rfl, Nat.le_of_ble_eq_true rfl⟩ 0 rfl (ci := 10) rfl rfl (Nat.le_of_ble_eq_true rfl) ⟨Nat.le_of_ble_eq_true rfl, Nat.le_of_ble_eq_true rfl⟩ dX8_look_57 (fun u8 hu8 => ?_)
            clear hu8; clear u8
            show V 0 0 (MW cy b kd co th rw cl wr po dm sx aa dk fi y cz hm se da sa bt oz) [(0, .ref (b 0)), (1, vI r)] [vI (b2i (pd da (r - 1) y))] 60
            refine z_aload_n C dX8_look_60 0 rfl ?_
            refine z_get C hinX8 (ci := 10) rfl 0 rfl 17 (by decide) k5 rfl (v := vI (b2i dk)) rfl dX8_look_61 ?_
            have h01 := b2i_01 (pd da (r - 1) y)
            have h02 := b2i_01 dk
            refine z_icmp_ne C (by omega) (by omega) (tgt := 80) dX8_look_64 (by decide) (fun cb => ?_) (fun cb => ?_)
            · have hgy : y < co → (pd da (r - 1)) y = !dk := fun _ => ne_not cb
              have hby : chC (pd da (r - 1)) co (if fi then aa else aa + 1) (!dk) = y := by rw [i1, chC_at (by omega) (ne_not cb) (fun z => absurd (chg_t cg) (by rw [z, ne_not cb]; cases dk <;> decide))]
              refine z_aload_n C dX8_look_80 0 rfl ?_
              refine z_aload_n C dX8_look_81 0 rfl ?_
              refine z_get C hinX8 (ci := 10) rfl 0 rfl 19 (by decide) k2 rfl (v := vI y) rfl dX8_look_82 ?_
              refine z_aload_n C dX8_look_85 0 rfl ?_
              refine z_get C hinX8 (ci := 10) rfl 0 rfl 2 (by decide) k3 rfl (v := vI co) rfl dX8_look_86 ?_
              refine z_icmp_le C (by omega) (by omega) (tgt := 99) dX8_look_89 (by decide) (fun hc_9 => ?_) (fun hc_9 => ?_)
              · refine z_aload_n C dX8_look_99 0 rfl ?_
                refine z_get C hinX8 (ci := 10) rfl 0 rfl 19 (by decide) k2 rfl (v := vI y) rfl dX8_look_100 ?_
                refine z_put C hinX8 tyX8 tyX8_ok nmX8 (ci := 10) rfl 0 rfl 19 (by decide) k2 rfl rfl rfl rfl (Nat.le_of_ble_eq_true rfl) dX8_look_103 (ws' := MW cy b kd co th rw cl wr po dm sx aa dk fi y cz hm se da sa bt oz) rfl ?_
                refine z_aload_n C dX8_look_106 0 rfl ?_
                refine z_aload_n C dX8_look_107 0 rfl ?_
                refine z_get C hinX8 (ci := 10) rfl 0 rfl 19 (by decide) k2 rfl (v := vI y) rfl dX8_look_108 ?_
                refine z_iconst C (z := 1) dX8_look_111 ?_
                refine z_iadd C dX8_look_112 ?_
                refine z_put C hinX8 tyX8 tyX8_ok nmX8 (ci := 10) rfl 0 rfl 20 (by decide) k4 rfl rfl rfl rfl (Nat.le_of_ble_eq_true rfl) dX8_look_113 (ws' := MW cy b kd co th rw cl wr po dm sx aa dk fi y (y + 1) hm se da sa bt oz) rfl ?_
                have J116 : ∀ (f : Nat) (z : Int), (y < z ∧ z ≤ co + 1) → (z ≤ co ∨ y = co) → (z ≤ co → nxt (pd da (r - 1)) co y dk = nxt (pd da (r - 1)) co z dk ∧ (pd da (r - 1)) (z - 1) = !dk) → (co + 1 - z).toNat < f → V 0 0 (MW cy b kd co th rw cl wr po dm sx aa dk fi y z hm se da sa bt oz) [(0, .ref (b 0)), (1, vI r)] [] 116 := by
                  intro f
                  induction f with
                  | zero => intro z j0 j2 j1 hf; exact absurd hf (Nat.not_lt_zero _)
                  | succ f ih =>
                    intro z j0 j2 j1 hf
                    refine z_aload_n C dX8_look_116 0 rfl ?_
                    refine z_get C hinX8 (ci := 10) rfl 0 rfl 20 (by decide) k4 rfl (v := vI z) rfl dX8_look_117 ?_
                    refine z_aload_n C dX8_look_120 0 rfl ?_
                    refine z_get C hinX8 (ci := 10) rfl 0 rfl 2 (by decide) k3 rfl (v := vI co) rfl dX8_look_121 ?_
                    refine z_icmp_ge C (by omega) (by omega) (tgt := 154) dX8_look_124 (by decide) (fun hc_10 => ?_) (fun hc_10 => ?_)
                    · refine z_aload_n C dX8_look_154 0 rfl ?_
                      refine z_aload_n C dX8_look_155 0 rfl ?_
                      refine z_get C hinX8 (ci := 10) rfl 0 rfl 20 (by decide) k4 rfl (v := vI z) rfl dX8_look_156 ?_
                      refine z_aload_n C dX8_look_159 0 rfl ?_
                      refine z_get C hinX8 (ci := 10) rfl 0 rfl 2 (by decide) k3 rfl (v := vI co) rfl dX8_look_160 ?_
                      refine z_icmp_le C (by omega) (by omega) (tgt := 173) dX8_look_163 (by decide) (fun hc_11 => ?_) (fun hc_11 => ?_)
                      · refine z_aload_n C dX8_look_173 0 rfl ?_
                        refine z_get C hinX8 (ci := 10) rfl 0 rfl 20 (by decide) k4 rfl (v := vI z) rfl dX8_look_174 ?_
                        refine z_put C hinX8 tyX8 tyX8_ok nmX8 (ci := 10) rfl 0 rfl 20 (by decide) k4 rfl rfl rfl rfl (Nat.le_of_ble_eq_true rfl) dX8_look_177 (ws' := MW cy b kd co th rw cl wr po dm sx aa dk fi y z hm se da sa bt oz) rfl ?_
                        refine z_vret C dX8_look_180 () ?_ ?_ ?_ (by decide) (by decide)
                        · exact rfl
                        · exact trivial
                        · rw [hby]; rw [(j1 (by omega)).1, nxt_ge (by omega), show z = co by omega]
                      · refine z_aload_n C dX8_look_166 0 rfl ?_
                        refine z_get C hinX8 (ci := 10) rfl 0 rfl 2 (by decide) k3 rfl (v := vI co) rfl dX8_look_167 ?_
                        refine z_goto C (tgt := 177) dX8_look_170 (by decide) ?_
                        refine z_put C hinX8 tyX8 tyX8_ok nmX8 (ci := 10) rfl 0 rfl 20 (by decide) k4 rfl rfl rfl rfl (Nat.le_of_ble_eq_true rfl) dX8_look_177 (ws' := MW cy b kd co th rw cl wr po dm sx aa dk fi y co hm se da sa bt oz) rfl ?_
                        refine z_vret C dX8_look_180 () ?_ ?_ ?_ (by decide) (by decide)
                        · exact rfl
                        · exact trivial
                        · rw [hby]; rw [nxt_ge (by omega)]
                    · refine z_aload_n C dX8_look_127 0 rfl ?_
                      refine z_iload_n C dX8_look_128 1 rfl ?_
                      refine z_iconst C (z := 1) dX8_look_129 ?_
                      refine z_isub C dX8_look_130 ?_
                      refine z_aload_n C dX8_look_131 0 rfl ?_
                      refine z_get C hinX8 (ci := 10) rfl 0 rfl 20 (by decide) k4 rfl (v := vI z) rfl dX8_look_132 ?_
                      refine z_callV C (As := [vI (r - 1), vI z]) (st := []) (c_X8_isChange l D cy tw b kd co th rw cl wr po dm sx aa dk fi y z hm se da sa bt oz (r - 1) z  (by omega) (by omega)) gX8_look_X8_isChange kn_X8_isChange rfl ⟨rfl, rfl, Nat.le_of_ble_eq_true rfl, Nat.le_of_ble_eq_true rfl⟩ 0 rfl (ci := 10) rfl rfl (Nat.le_of_ble_eq_true rfl) ⟨Nat.le_of_ble_eq_true rfl, Nat.le_of_ble_eq_true rfl⟩ dX8_look_135 (fun u12 hu12 => ?_)
                      clear hu12; clear u12
                      show V 0 0 (MW cy b kd co th rw cl wr po dm sx aa dk fi y z hm se da sa bt oz) [(0, .ref (b 0)), (1, vI r)] [vI (b2i (chg (pd da (r - 1)) z))] 138
                      refine z_ifnz C (tgt := 154) dX8_look_138 (by decide) (fun ck => ?_) (fun ck => ?_)
                      · refine z_aload_n C dX8_look_154 0 rfl ?_
                        refine z_aload_n C dX8_look_155 0 rfl ?_
                        refine z_get C hinX8 (ci := 10) rfl 0 rfl 20 (by decide) k4 rfl (v := vI z) rfl dX8_look_156 ?_
                        refine z_aload_n C dX8_look_159 0 rfl ?_
                        refine z_get C hinX8 (ci := 10) rfl 0 rfl 2 (by decide) k3 rfl (v := vI co) rfl dX8_look_160 ?_
                        refine z_icmp_le C (by omega) (by omega) (tgt := 173) dX8_look_163 (by decide) (fun hc_13 => ?_) (fun hc_13 => ?_)
                        · refine z_aload_n C dX8_look_173 0 rfl ?_
                          refine z_get C hinX8 (ci := 10) rfl 0 rfl 20 (by decide) k4 rfl (v := vI z) rfl dX8_look_174 ?_
                          refine z_put C hinX8 tyX8 tyX8_ok nmX8 (ci := 10) rfl 0 rfl 20 (by decide) k4 rfl rfl rfl rfl (Nat.le_of_ble_eq_true rfl) dX8_look_177 (ws' := MW cy b kd co th rw cl wr po dm sx aa dk fi y z hm se da sa bt oz) rfl ?_
                          refine z_vret C dX8_look_180 () ?_ ?_ ?_ (by decide) (by decide)
                          · exact rfl
                          · exact trivial
                          · rw [hby]; rw [show nxt (pd da (r - 1)) co y dk = z from by rw [(j1 (by omega)).1, nxt_at (by omega) (by rw [chg_t ck, (j1 (by omega)).2]; cases dk <;> rfl)]]
                        · exfalso; omega
                      · refine z_aload_n C dX8_look_141 0 rfl ?_
                        refine z_dup C dX8_look_142 rfl ?_
                        refine z_get C hinX8 (ci := 10) rfl 0 rfl 20 (by decide) k4 rfl (v := vI z) rfl dX8_look_143 ?_
                        refine z_iconst C (z := 1) dX8_look_146 ?_
                        refine z_iadd C dX8_look_147 ?_
                        refine z_put C hinX8 tyX8 tyX8_ok nmX8 (ci := 10) rfl 0 rfl 20 (by decide) k4 rfl rfl rfl rfl (Nat.le_of_ble_eq_true rfl) dX8_look_148 (ws' := MW cy b kd co th rw cl wr po dm sx aa dk fi y (z + 1) hm se da sa bt oz) rfl ?_
                        refine z_goto C (tgt := 116) dX8_look_151 (by decide) ?_
                        exact ih (z + 1) (by omega) (by omega) (fun _ => ⟨by rw [(j1 (by omega)).1, nxt_ne (by omega) (by rw [chg_f ck, (j1 (by omega)).2]; cases dk <;> decide)], by rw [show z + 1 - 1 = z by omega, chg_f ck, (j1 (by omega)).2]⟩) (by omega)
                exact J116 _ (y + 1) (by omega) (by omega) (fun z9 => ⟨by rw [nxt_ne (by omega) (by rw [hgy (by omega)]; cases dk <;> decide)], by rw [show y + 1 - 1 = y by omega]; exact hgy (by omega)⟩) (Nat.lt_succ_self _)
              · exfalso; omega
            · refine z_aload_n C dX8_look_67 0 rfl ?_
              refine z_dup C dX8_look_68 rfl ?_
              refine z_get C hinX8 (ci := 10) rfl 0 rfl 19 (by decide) k2 rfl (v := vI y) rfl dX8_look_69 ?_
              refine z_iconst C (z := 1) dX8_look_72 ?_
              refine z_iadd C dX8_look_73 ?_
              refine z_put C hinX8 tyX8 tyX8_ok nmX8 (ci := 10) rfl 0 rfl 19 (by decide) k2 rfl rfl rfl rfl (Nat.le_of_ble_eq_true rfl) dX8_look_74 (ws' := MW cy b kd co th rw cl wr po dm sx aa dk fi (y + 1) cz hm se da sa bt oz) rfl ?_
              refine z_goto C (tgt := 24) dX8_look_77 (by decide) ?_
              exact ih (y + 1) (by omega) (by rw [i1, chC_ne (by omega) (fun z => absurd z (eq_not cb))]) (by omega)
    exact J24 _ (aa + 1) (by omega) (by rw [cf]; rfl) (Nat.lt_succ_self _)
  · refine z_aload_n C dX8_look_8 0 rfl ?_
    refine z_get C hinX8 (ci := 10) rfl 0 rfl 16 (by decide) k1 rfl (v := vI aa) rfl dX8_look_9 ?_
    refine z_goto C (tgt := 21) dX8_look_12 (by decide) ?_
    refine z_put C hinX8 tyX8 tyX8_ok nmX8 (ci := 10) rfl 0 rfl 19 (by decide) k2 rfl rfl rfl rfl (Nat.le_of_ble_eq_true rfl) dX8_look_21 (ws' := MW cy b kd co th rw cl wr po dm sx aa dk fi aa cz hm se da sa bt oz) rfl ?_
    have J24 : ∀ (f : Nat) (y : Int), (0 ≤ y ∧ y ≤ co) → (chC (pd da (r - 1)) co (if fi then aa else aa + 1) (!dk) = chC (pd da (r - 1)) co y (!dk)) → (co - y).toNat < f → V 0 0 (MW cy b kd co th rw cl wr po dm sx aa dk fi y cz hm se da sa bt oz) [(0, .ref (b 0)), (1, vI r)] [] 24 := by
      intro f
      induction f with
      | zero => intro y i0 i1 hf; exact absurd hf (Nat.not_lt_zero _)
      | succ f ih =>
        intro y i0 i1 hf
        refine z_aload_n C dX8_look_24 0 rfl ?_
        refine z_get C hinX8 (ci := 10) rfl 0 rfl 19 (by decide) k2 rfl (v := vI y) rfl dX8_look_25 ?_
        refine z_aload_n C dX8_look_28 0 rfl ?_
        refine z_get C hinX8 (ci := 10) rfl 0 rfl 2 (by decide) k3 rfl (v := vI co) rfl dX8_look_29 ?_
        refine z_icmp_ge C (by omega) (by omega) (tgt := 80) dX8_look_32 (by decide) (fun hc_14 => ?_) (fun hc_14 => ?_)
        · have hgy : y < co → (pd da (r - 1)) y = !dk := fun _ => by omega
          have hby : chC (pd da (r - 1)) co (if fi then aa else aa + 1) (!dk) = y := by rw [i1, chC_ge (by omega), show y = co by omega]
          refine z_aload_n C dX8_look_80 0 rfl ?_
          refine z_aload_n C dX8_look_81 0 rfl ?_
          refine z_get C hinX8 (ci := 10) rfl 0 rfl 19 (by decide) k2 rfl (v := vI y) rfl dX8_look_82 ?_
          refine z_aload_n C dX8_look_85 0 rfl ?_
          refine z_get C hinX8 (ci := 10) rfl 0 rfl 2 (by decide) k3 rfl (v := vI co) rfl dX8_look_86 ?_
          refine z_icmp_le C (by omega) (by omega) (tgt := 99) dX8_look_89 (by decide) (fun hc_15 => ?_) (fun hc_15 => ?_)
          · refine z_aload_n C dX8_look_99 0 rfl ?_
            refine z_get C hinX8 (ci := 10) rfl 0 rfl 19 (by decide) k2 rfl (v := vI y) rfl dX8_look_100 ?_
            refine z_put C hinX8 tyX8 tyX8_ok nmX8 (ci := 10) rfl 0 rfl 19 (by decide) k2 rfl rfl rfl rfl (Nat.le_of_ble_eq_true rfl) dX8_look_103 (ws' := MW cy b kd co th rw cl wr po dm sx aa dk fi y cz hm se da sa bt oz) rfl ?_
            refine z_aload_n C dX8_look_106 0 rfl ?_
            refine z_aload_n C dX8_look_107 0 rfl ?_
            refine z_get C hinX8 (ci := 10) rfl 0 rfl 19 (by decide) k2 rfl (v := vI y) rfl dX8_look_108 ?_
            refine z_iconst C (z := 1) dX8_look_111 ?_
            refine z_iadd C dX8_look_112 ?_
            refine z_put C hinX8 tyX8 tyX8_ok nmX8 (ci := 10) rfl 0 rfl 20 (by decide) k4 rfl rfl rfl rfl (Nat.le_of_ble_eq_true rfl) dX8_look_113 (ws' := MW cy b kd co th rw cl wr po dm sx aa dk fi y (y + 1) hm se da sa bt oz) rfl ?_
            have J116 : ∀ (f : Nat) (z : Int), (y < z ∧ z ≤ co + 1) → (z ≤ co ∨ y = co) → (z ≤ co → nxt (pd da (r - 1)) co y dk = nxt (pd da (r - 1)) co z dk ∧ (pd da (r - 1)) (z - 1) = !dk) → (co + 1 - z).toNat < f → V 0 0 (MW cy b kd co th rw cl wr po dm sx aa dk fi y z hm se da sa bt oz) [(0, .ref (b 0)), (1, vI r)] [] 116 := by
              intro f
              induction f with
              | zero => intro z j0 j2 j1 hf; exact absurd hf (Nat.not_lt_zero _)
              | succ f ih =>
                intro z j0 j2 j1 hf
                refine z_aload_n C dX8_look_116 0 rfl ?_
                refine z_get C hinX8 (ci := 10) rfl 0 rfl 20 (by decide) k4 rfl (v := vI z) rfl dX8_look_117 ?_
                refine z_aload_n C dX8_look_120 0 rfl ?_
                refine z_get C hinX8 (ci := 10) rfl 0 rfl 2 (by decide) k3 rfl (v := vI co) rfl dX8_look_121 ?_
                refine z_icmp_ge C (by omega) (by omega) (tgt := 154) dX8_look_124 (by decide) (fun hc_16 => ?_) (fun hc_16 => ?_)
                · refine z_aload_n C dX8_look_154 0 rfl ?_
                  refine z_aload_n C dX8_look_155 0 rfl ?_
                  refine z_get C hinX8 (ci := 10) rfl 0 rfl 20 (by decide) k4 rfl (v := vI z) rfl dX8_look_156 ?_
                  refine z_aload_n C dX8_look_159 0 rfl ?_
                  refine z_get C hinX8 (ci := 10) rfl 0 rfl 2 (by decide) k3 rfl (v := vI co) rfl dX8_look_160 ?_
                  refine z_icmp_le C (by omega) (by omega) (tgt := 173) dX8_look_163 (by decide) (fun hc_17 => ?_) (fun hc_17 => ?_)
                  · refine z_aload_n C dX8_look_173 0 rfl ?_
                    refine z_get C hinX8 (ci := 10) rfl 0 rfl 20 (by decide) k4 rfl (v := vI z) rfl dX8_look_174 ?_
                    refine z_put C hinX8 tyX8 tyX8_ok nmX8 (ci := 10) rfl 0 rfl 20 (by decide) k4 rfl rfl rfl rfl (Nat.le_of_ble_eq_true rfl) dX8_look_177 (ws' := MW cy b kd co th rw cl wr po dm sx aa dk fi y z hm se da sa bt oz) rfl ?_
                    refine z_vret C dX8_look_180 () ?_ ?_ ?_ (by decide) (by decide)
                    · exact rfl
                    · exact trivial
                    · rw [hby]; rw [(j1 (by omega)).1, nxt_ge (by omega), show z = co by omega]
                  · refine z_aload_n C dX8_look_166 0 rfl ?_
                    refine z_get C hinX8 (ci := 10) rfl 0 rfl 2 (by decide) k3 rfl (v := vI co) rfl dX8_look_167 ?_
                    refine z_goto C (tgt := 177) dX8_look_170 (by decide) ?_
                    refine z_put C hinX8 tyX8 tyX8_ok nmX8 (ci := 10) rfl 0 rfl 20 (by decide) k4 rfl rfl rfl rfl (Nat.le_of_ble_eq_true rfl) dX8_look_177 (ws' := MW cy b kd co th rw cl wr po dm sx aa dk fi y co hm se da sa bt oz) rfl ?_
                    refine z_vret C dX8_look_180 () ?_ ?_ ?_ (by decide) (by decide)
                    · exact rfl
                    · exact trivial
                    · rw [hby]; rw [nxt_ge (by omega)]
                · refine z_aload_n C dX8_look_127 0 rfl ?_
                  refine z_iload_n C dX8_look_128 1 rfl ?_
                  refine z_iconst C (z := 1) dX8_look_129 ?_
                  refine z_isub C dX8_look_130 ?_
                  refine z_aload_n C dX8_look_131 0 rfl ?_
                  refine z_get C hinX8 (ci := 10) rfl 0 rfl 20 (by decide) k4 rfl (v := vI z) rfl dX8_look_132 ?_
                  refine z_callV C (As := [vI (r - 1), vI z]) (st := []) (c_X8_isChange l D cy tw b kd co th rw cl wr po dm sx aa dk fi y z hm se da sa bt oz (r - 1) z  (by omega) (by omega)) gX8_look_X8_isChange kn_X8_isChange rfl ⟨rfl, rfl, Nat.le_of_ble_eq_true rfl, Nat.le_of_ble_eq_true rfl⟩ 0 rfl (ci := 10) rfl rfl (Nat.le_of_ble_eq_true rfl) ⟨Nat.le_of_ble_eq_true rfl, Nat.le_of_ble_eq_true rfl⟩ dX8_look_135 (fun u18 hu18 => ?_)
                  clear hu18; clear u18
                  show V 0 0 (MW cy b kd co th rw cl wr po dm sx aa dk fi y z hm se da sa bt oz) [(0, .ref (b 0)), (1, vI r)] [vI (b2i (chg (pd da (r - 1)) z))] 138
                  refine z_ifnz C (tgt := 154) dX8_look_138 (by decide) (fun ck => ?_) (fun ck => ?_)
                  · refine z_aload_n C dX8_look_154 0 rfl ?_
                    refine z_aload_n C dX8_look_155 0 rfl ?_
                    refine z_get C hinX8 (ci := 10) rfl 0 rfl 20 (by decide) k4 rfl (v := vI z) rfl dX8_look_156 ?_
                    refine z_aload_n C dX8_look_159 0 rfl ?_
                    refine z_get C hinX8 (ci := 10) rfl 0 rfl 2 (by decide) k3 rfl (v := vI co) rfl dX8_look_160 ?_
                    refine z_icmp_le C (by omega) (by omega) (tgt := 173) dX8_look_163 (by decide) (fun hc_19 => ?_) (fun hc_19 => ?_)
                    · refine z_aload_n C dX8_look_173 0 rfl ?_
                      refine z_get C hinX8 (ci := 10) rfl 0 rfl 20 (by decide) k4 rfl (v := vI z) rfl dX8_look_174 ?_
                      refine z_put C hinX8 tyX8 tyX8_ok nmX8 (ci := 10) rfl 0 rfl 20 (by decide) k4 rfl rfl rfl rfl (Nat.le_of_ble_eq_true rfl) dX8_look_177 (ws' := MW cy b kd co th rw cl wr po dm sx aa dk fi y z hm se da sa bt oz) rfl ?_
                      refine z_vret C dX8_look_180 () ?_ ?_ ?_ (by decide) (by decide)
                      · exact rfl
                      · exact trivial
                      · rw [hby]; rw [show nxt (pd da (r - 1)) co y dk = z from by rw [(j1 (by omega)).1, nxt_at (by omega) (by rw [chg_t ck, (j1 (by omega)).2]; cases dk <;> rfl)]]
                    · exfalso; omega
                  · refine z_aload_n C dX8_look_141 0 rfl ?_
                    refine z_dup C dX8_look_142 rfl ?_
                    refine z_get C hinX8 (ci := 10) rfl 0 rfl 20 (by decide) k4 rfl (v := vI z) rfl dX8_look_143 ?_
                    refine z_iconst C (z := 1) dX8_look_146 ?_
                    refine z_iadd C dX8_look_147 ?_
                    refine z_put C hinX8 tyX8 tyX8_ok nmX8 (ci := 10) rfl 0 rfl 20 (by decide) k4 rfl rfl rfl rfl (Nat.le_of_ble_eq_true rfl) dX8_look_148 (ws' := MW cy b kd co th rw cl wr po dm sx aa dk fi y (z + 1) hm se da sa bt oz) rfl ?_
                    refine z_goto C (tgt := 116) dX8_look_151 (by decide) ?_
                    exact ih (z + 1) (by omega) (by omega) (fun _ => ⟨by rw [(j1 (by omega)).1, nxt_ne (by omega) (by rw [chg_f ck, (j1 (by omega)).2]; cases dk <;> decide)], by rw [show z + 1 - 1 = z by omega, chg_f ck, (j1 (by omega)).2]⟩) (by omega)
            exact J116 _ (y + 1) (by omega) (by omega) (fun z9 => ⟨by rw [nxt_ne (by omega) (by rw [hgy (by omega)]; cases dk <;> decide)], by rw [show y + 1 - 1 = y by omega]; exact hgy (by omega)⟩) (Nat.lt_succ_self _)
          · exfalso; omega
        · refine z_aload_n C dX8_look_35 0 rfl ?_
          refine z_iload_n C dX8_look_36 1 rfl ?_
          refine z_iconst C (z := 1) dX8_look_37 ?_
          refine z_isub C dX8_look_38 ?_
          refine z_aload_n C dX8_look_39 0 rfl ?_
          refine z_get C hinX8 (ci := 10) rfl 0 rfl 19 (by decide) k2 rfl (v := vI y) rfl dX8_look_40 ?_
          refine z_callV C (As := [vI (r - 1), vI y]) (st := []) (c_X8_isChange l D cy tw b kd co th rw cl wr po dm sx aa dk fi y cz hm se da sa bt oz (r - 1) y  (by omega) (by omega)) gX8_look_X8_isChange kn_X8_isChange rfl ⟨rfl, rfl, Nat.le_of_ble_eq_true rfl, Nat.le_of_ble_eq_true rfl⟩ 0 rfl (ci := 10) rfl rfl (Nat.le_of_ble_eq_true rfl) ⟨Nat.le_of_ble_eq_true rfl, Nat.le_of_ble_eq_true rfl⟩ dX8_look_43 (fun u20 hu20 => ?_)
          clear hu20; clear u20
          show V 0 0 (MW cy b kd co th rw cl wr po dm sx aa dk fi y cz hm se da sa bt oz) [(0, .ref (b 0)), (1, vI r)] [vI (b2i (chg (pd da (r - 1)) y))] 46
          refine z_ifz C (tgt := 67) dX8_look_46 (by decide) (fun cg => ?_) (fun cg => ?_)
          · refine z_aload_n C dX8_look_67 0 rfl ?_
            refine z_dup C dX8_look_68 rfl ?_
            refine z_get C hinX8 (ci := 10) rfl 0 rfl 19 (by decide) k2 rfl (v := vI y) rfl dX8_look_69 ?_
            refine z_iconst C (z := 1) dX8_look_72 ?_
            refine z_iadd C dX8_look_73 ?_
            refine z_put C hinX8 tyX8 tyX8_ok nmX8 (ci := 10) rfl 0 rfl 19 (by decide) k2 rfl rfl rfl rfl (Nat.le_of_ble_eq_true rfl) dX8_look_74 (ws' := MW cy b kd co th rw cl wr po dm sx aa dk fi (y + 1) cz hm se da sa bt oz) rfl ?_
            refine z_goto C (tgt := 24) dX8_look_77 (by decide) ?_
            exact ih (y + 1) (by omega) (by rw [i1, chC_ne (by omega) (fun z => by rw [← chg_f cg]; exact z)]) (by omega)
          · refine z_aload_n C dX8_look_49 0 rfl ?_
            refine z_iload_n C dX8_look_50 1 rfl ?_
            refine z_iconst C (z := 1) dX8_look_51 ?_
            refine z_isub C dX8_look_52 ?_
            refine z_aload_n C dX8_look_53 0 rfl ?_
            refine z_get C hinX8 (ci := 10) rfl 0 rfl 19 (by decide) k2 rfl (v := vI y) rfl dX8_look_54 ?_
            refine z_callV C (As := [vI (r - 1), vI y]) (st := []) (c_X8_at l D cy tw b kd co th rw cl wr po dm sx aa dk fi y cz hm se da sa bt oz (r - 1) y  (by omega) (by omega)) gX8_look_X8_at kn_X8_at rfl ⟨rfl, rfl, Nat.le_of_ble_eq_true rfl, Nat.le_of_ble_eq_true rfl⟩ 0 rfl (ci := 10) rfl rfl (Nat.le_of_ble_eq_true rfl) ⟨Nat.le_of_ble_eq_true rfl, Nat.le_of_ble_eq_true rfl⟩ dX8_look_57 (fun u21 hu21 => ?_)
            clear hu21; clear u21
            show V 0 0 (MW cy b kd co th rw cl wr po dm sx aa dk fi y cz hm se da sa bt oz) [(0, .ref (b 0)), (1, vI r)] [vI (b2i (pd da (r - 1) y))] 60
            refine z_aload_n C dX8_look_60 0 rfl ?_
            refine z_get C hinX8 (ci := 10) rfl 0 rfl 17 (by decide) k5 rfl (v := vI (b2i dk)) rfl dX8_look_61 ?_
            have h01 := b2i_01 (pd da (r - 1) y)
            have h02 := b2i_01 dk
            refine z_icmp_ne C (by omega) (by omega) (tgt := 80) dX8_look_64 (by decide) (fun cb => ?_) (fun cb => ?_)
            · have hgy : y < co → (pd da (r - 1)) y = !dk := fun _ => ne_not cb
              have hby : chC (pd da (r - 1)) co (if fi then aa else aa + 1) (!dk) = y := by rw [i1, chC_at (by omega) (ne_not cb) (fun z => absurd (chg_t cg) (by rw [z, ne_not cb]; cases dk <;> decide))]
              refine z_aload_n C dX8_look_80 0 rfl ?_
              refine z_aload_n C dX8_look_81 0 rfl ?_
              refine z_get C hinX8 (ci := 10) rfl 0 rfl 19 (by decide) k2 rfl (v := vI y) rfl dX8_look_82 ?_
              refine z_aload_n C dX8_look_85 0 rfl ?_
              refine z_get C hinX8 (ci := 10) rfl 0 rfl 2 (by decide) k3 rfl (v := vI co) rfl dX8_look_86 ?_
              refine z_icmp_le C (by omega) (by omega) (tgt := 99) dX8_look_89 (by decide) (fun hc_22 => ?_) (fun hc_22 => ?_)
              · refine z_aload_n C dX8_look_99 0 rfl ?_
                refine z_get C hinX8 (ci := 10) rfl 0 rfl 19 (by decide) k2 rfl (v := vI y) rfl dX8_look_100 ?_
                refine z_put C hinX8 tyX8 tyX8_ok nmX8 (ci := 10) rfl 0 rfl 19 (by decide) k2 rfl rfl rfl rfl (Nat.le_of_ble_eq_true rfl) dX8_look_103 (ws' := MW cy b kd co th rw cl wr po dm sx aa dk fi y cz hm se da sa bt oz) rfl ?_
                refine z_aload_n C dX8_look_106 0 rfl ?_
                refine z_aload_n C dX8_look_107 0 rfl ?_
                refine z_get C hinX8 (ci := 10) rfl 0 rfl 19 (by decide) k2 rfl (v := vI y) rfl dX8_look_108 ?_
                refine z_iconst C (z := 1) dX8_look_111 ?_
                refine z_iadd C dX8_look_112 ?_
                refine z_put C hinX8 tyX8 tyX8_ok nmX8 (ci := 10) rfl 0 rfl 20 (by decide) k4 rfl rfl rfl rfl (Nat.le_of_ble_eq_true rfl) dX8_look_113 (ws' := MW cy b kd co th rw cl wr po dm sx aa dk fi y (y + 1) hm se da sa bt oz) rfl ?_
                have J116 : ∀ (f : Nat) (z : Int), (y < z ∧ z ≤ co + 1) → (z ≤ co ∨ y = co) → (z ≤ co → nxt (pd da (r - 1)) co y dk = nxt (pd da (r - 1)) co z dk ∧ (pd da (r - 1)) (z - 1) = !dk) → (co + 1 - z).toNat < f → V 0 0 (MW cy b kd co th rw cl wr po dm sx aa dk fi y z hm se da sa bt oz) [(0, .ref (b 0)), (1, vI r)] [] 116 := by
                  intro f
                  induction f with
                  | zero => intro z j0 j2 j1 hf; exact absurd hf (Nat.not_lt_zero _)
                  | succ f ih =>
                    intro z j0 j2 j1 hf
                    refine z_aload_n C dX8_look_116 0 rfl ?_
                    refine z_get C hinX8 (ci := 10) rfl 0 rfl 20 (by decide) k4 rfl (v := vI z) rfl dX8_look_117 ?_
                    refine z_aload_n C dX8_look_120 0 rfl ?_
                    refine z_get C hinX8 (ci := 10) rfl 0 rfl 2 (by decide) k3 rfl (v := vI co) rfl dX8_look_121 ?_
                    refine z_icmp_ge C (by omega) (by omega) (tgt := 154) dX8_look_124 (by decide) (fun hc_23 => ?_) (fun hc_23 => ?_)
                    · refine z_aload_n C dX8_look_154 0 rfl ?_
                      refine z_aload_n C dX8_look_155 0 rfl ?_
                      refine z_get C hinX8 (ci := 10) rfl 0 rfl 20 (by decide) k4 rfl (v := vI z) rfl dX8_look_156 ?_
                      refine z_aload_n C dX8_look_159 0 rfl ?_
                      refine z_get C hinX8 (ci := 10) rfl 0 rfl 2 (by decide) k3 rfl (v := vI co) rfl dX8_look_160 ?_
                      refine z_icmp_le C (by omega) (by omega) (tgt := 173) dX8_look_163 (by decide) (fun hc_24 => ?_) (fun hc_24 => ?_)
                      · refine z_aload_n C dX8_look_173 0 rfl ?_
                        refine z_get C hinX8 (ci := 10) rfl 0 rfl 20 (by decide) k4 rfl (v := vI z) rfl dX8_look_174 ?_
                        refine z_put C hinX8 tyX8 tyX8_ok nmX8 (ci := 10) rfl 0 rfl 20 (by decide) k4 rfl rfl rfl rfl (Nat.le_of_ble_eq_true rfl) dX8_look_177 (ws' := MW cy b kd co th rw cl wr po dm sx aa dk fi y z hm se da sa bt oz) rfl ?_
                        refine z_vret C dX8_look_180 () ?_ ?_ ?_ (by decide) (by decide)
                        · exact rfl
                        · exact trivial
                        · rw [hby]; rw [(j1 (by omega)).1, nxt_ge (by omega), show z = co by omega]
                      · refine z_aload_n C dX8_look_166 0 rfl ?_
                        refine z_get C hinX8 (ci := 10) rfl 0 rfl 2 (by decide) k3 rfl (v := vI co) rfl dX8_look_167 ?_
                        refine z_goto C (tgt := 177) dX8_look_170 (by decide) ?_
                        refine z_put C hinX8 tyX8 tyX8_ok nmX8 (ci := 10) rfl 0 rfl 20 (by decide) k4 rfl rfl rfl rfl (Nat.le_of_ble_eq_true rfl) dX8_look_177 (ws' := MW cy b kd co th rw cl wr po dm sx aa dk fi y co hm se da sa bt oz) rfl ?_
                        refine z_vret C dX8_look_180 () ?_ ?_ ?_ (by decide) (by decide)
                        · exact rfl
                        · exact trivial
                        · rw [hby]; rw [nxt_ge (by omega)]
                    · refine z_aload_n C dX8_look_127 0 rfl ?_
                      refine z_iload_n C dX8_look_128 1 rfl ?_
                      refine z_iconst C (z := 1) dX8_look_129 ?_
                      refine z_isub C dX8_look_130 ?_
                      refine z_aload_n C dX8_look_131 0 rfl ?_
                      refine z_get C hinX8 (ci := 10) rfl 0 rfl 20 (by decide) k4 rfl (v := vI z) rfl dX8_look_132 ?_
                      refine z_callV C (As := [vI (r - 1), vI z]) (st := []) (c_X8_isChange l D cy tw b kd co th rw cl wr po dm sx aa dk fi y z hm se da sa bt oz (r - 1) z  (by omega) (by omega)) gX8_look_X8_isChange kn_X8_isChange rfl ⟨rfl, rfl, Nat.le_of_ble_eq_true rfl, Nat.le_of_ble_eq_true rfl⟩ 0 rfl (ci := 10) rfl rfl (Nat.le_of_ble_eq_true rfl) ⟨Nat.le_of_ble_eq_true rfl, Nat.le_of_ble_eq_true rfl⟩ dX8_look_135 (fun u25 hu25 => ?_)
                      clear hu25; clear u25
                      show V 0 0 (MW cy b kd co th rw cl wr po dm sx aa dk fi y z hm se da sa bt oz) [(0, .ref (b 0)), (1, vI r)] [vI (b2i (chg (pd da (r - 1)) z))] 138
                      refine z_ifnz C (tgt := 154) dX8_look_138 (by decide) (fun ck => ?_) (fun ck => ?_)
                      · refine z_aload_n C dX8_look_154 0 rfl ?_
                        refine z_aload_n C dX8_look_155 0 rfl ?_
                        refine z_get C hinX8 (ci := 10) rfl 0 rfl 20 (by decide) k4 rfl (v := vI z) rfl dX8_look_156 ?_
                        refine z_aload_n C dX8_look_159 0 rfl ?_
                        refine z_get C hinX8 (ci := 10) rfl 0 rfl 2 (by decide) k3 rfl (v := vI co) rfl dX8_look_160 ?_
                        refine z_icmp_le C (by omega) (by omega) (tgt := 173) dX8_look_163 (by decide) (fun hc_26 => ?_) (fun hc_26 => ?_)
                        · refine z_aload_n C dX8_look_173 0 rfl ?_
                          refine z_get C hinX8 (ci := 10) rfl 0 rfl 20 (by decide) k4 rfl (v := vI z) rfl dX8_look_174 ?_
                          refine z_put C hinX8 tyX8 tyX8_ok nmX8 (ci := 10) rfl 0 rfl 20 (by decide) k4 rfl rfl rfl rfl (Nat.le_of_ble_eq_true rfl) dX8_look_177 (ws' := MW cy b kd co th rw cl wr po dm sx aa dk fi y z hm se da sa bt oz) rfl ?_
                          refine z_vret C dX8_look_180 () ?_ ?_ ?_ (by decide) (by decide)
                          · exact rfl
                          · exact trivial
                          · rw [hby]; rw [show nxt (pd da (r - 1)) co y dk = z from by rw [(j1 (by omega)).1, nxt_at (by omega) (by rw [chg_t ck, (j1 (by omega)).2]; cases dk <;> rfl)]]
                        · exfalso; omega
                      · refine z_aload_n C dX8_look_141 0 rfl ?_
                        refine z_dup C dX8_look_142 rfl ?_
                        refine z_get C hinX8 (ci := 10) rfl 0 rfl 20 (by decide) k4 rfl (v := vI z) rfl dX8_look_143 ?_
                        refine z_iconst C (z := 1) dX8_look_146 ?_
                        refine z_iadd C dX8_look_147 ?_
                        refine z_put C hinX8 tyX8 tyX8_ok nmX8 (ci := 10) rfl 0 rfl 20 (by decide) k4 rfl rfl rfl rfl (Nat.le_of_ble_eq_true rfl) dX8_look_148 (ws' := MW cy b kd co th rw cl wr po dm sx aa dk fi y (z + 1) hm se da sa bt oz) rfl ?_
                        refine z_goto C (tgt := 116) dX8_look_151 (by decide) ?_
                        exact ih (z + 1) (by omega) (by omega) (fun _ => ⟨by rw [(j1 (by omega)).1, nxt_ne (by omega) (by rw [chg_f ck, (j1 (by omega)).2]; cases dk <;> decide)], by rw [show z + 1 - 1 = z by omega, chg_f ck, (j1 (by omega)).2]⟩) (by omega)
                exact J116 _ (y + 1) (by omega) (by omega) (fun z9 => ⟨by rw [nxt_ne (by omega) (by rw [hgy (by omega)]; cases dk <;> decide)], by rw [show y + 1 - 1 = y by omega]; exact hgy (by omega)⟩) (Nat.lt_succ_self _)
              · exfalso; omega
            · refine z_aload_n C dX8_look_67 0 rfl ?_
              refine z_dup C dX8_look_68 rfl ?_
              refine z_get C hinX8 (ci := 10) rfl 0 rfl 19 (by decide) k2 rfl (v := vI y) rfl dX8_look_69 ?_
              refine z_iconst C (z := 1) dX8_look_72 ?_
              refine z_iadd C dX8_look_73 ?_
              refine z_put C hinX8 tyX8 tyX8_ok nmX8 (ci := 10) rfl 0 rfl 19 (by decide) k2 rfl rfl rfl rfl (Nat.le_of_ble_eq_true rfl) dX8_look_74 (ws' := MW cy b kd co th rw cl wr po dm sx aa dk fi (y + 1) cz hm se da sa bt oz) rfl ?_
              refine z_goto C (tgt := 24) dX8_look_77 (by decide) ?_
              exact ih (y + 1) (by omega) (by rw [i1, chC_ne (by omega) (fun z => absurd z (eq_not cb))]) (by omega)
    exact J24 _ aa (by omega) (by rw [cf]; rfl) (Nat.lt_succ_self _)
theorem kn_X8_writePlain : zKn yX8_writePlain wsX8_writePlain cX8_writePlain 5 (none) 1 := ⟨⟨_, rfl⟩, by decide +kernel, by decide +kernel, by decide +kernel⟩
set_option maxHeartbeats 400000 in
set_option maxRecDepth 100000 in
theorem c_X8_writePlain (l : Launch) (D : va_G) (cy : Nat → ClassId) (tw : Nat → Nat) (b : Nat → Nat) (kd : Int) (co : Int) (th : Int) (rw : Int) (cl : Int) (po : Int) (dm : Int) (sx : Int) (aa : Int) (dk : Bool) (fi : Bool) (bb : Int) (cz : Int) (hm : Bool) (se : Nat → Bool) (da : Nat → Bool) (sa : Nat → Int) (bt : Nat → Int) (oz : Nat → Bool) (r : Int) (L : List Bool) (hL : OZ oz L) (hco : 1 ≤ co ∧ co ≤ 700) (hr : 0 ≤ r ∧ r < 24) (hroom : ((L.length : Nat) : Int) + 6000 ≤ 139999) : zMet l yX8_writePlain wsX8_writePlain { frames := 4, cells := 0, slots := 0, locals := 89 } D (zT cy) tw (MW cy b kd co th rw cl ((L.length : Nat) : Int) po dm sx aa dk fi bb cz hm se da sa bt oz) [.ref (b 0), vI r] 0 0 (S := Nat → Bool) (fun _ => none) (fun u => MW cy b kd co th rw cl (((L ++ plB (pd da r) co (co + 1).toNat 0 false).length : Nat) : Int) po dm sx aa dk fi bb cz hm se da sa bt u) (fun u => OZ u (L ++ plB (pd da r) co (co + 1).toNat 0 false)) := by
  refine z_met (cc := cX8_writePlain) (nL := 5) (ret := none) (by decide +kernel) rfl (Nat.le_of_ble_eq_true rfl) (lv := [(0, .ref (b 0)), (1, vI r)]) rfl ?_
  intro V p_ e_ s_ m_ args_ below_ meth_ c_ A_ C hmn
  have hinX8 : ∀ w ∈ u_ws RX8 TX8 22, w ∈ wsX8_writePlain := by decide +kernel
  have k0 : Cond.fieldLink RX8 37 "FaxFilterModel" "columns" "I" ∈ wsX8_writePlain := List.mem_of_getElem? (i := 1) rfl
  have hbd := plB_bd0 (f := pd da r) hco.1 hco.2 (co + 1).toNat
  refine z_iconst C (z := 0) dX8_writePlain_0 ?_
  refine z_istore_n C (lv' := [(2, vI 0), (0, .ref (b 0)), (1, vI r)]) dX8_writePlain_1 rfl (by decide) rfl ?_
  refine z_iconst C (z := 0) dX8_writePlain_2 ?_
  refine z_istore_n C (lv' := [(3, vI 0), (2, vI 0), (0, .ref (b 0)), (1, vI r)]) dX8_writePlain_3 rfl (by decide) rfl ?_
  have J4 : ∀ (f : Nat) (x : Int) (d : Bool) (k : Int) (o : Nat → Bool) (M : List Bool), (0 ≤ k ∧ k ≤ x + 1) → (0 ≤ x ∧ x ≤ co) → (k = 0 ∨ (x < co → pd da r x = d)) → (OZ o M) → (L ++ plB (pd da r) co (co + 1).toNat 0 false = M ++ plB (pd da r) co (co + 1 - k).toNat x d) → (co + 1 - k).toNat < f → V 0 0 (MW cy b kd co th rw cl ((M.length : Nat) : Int) po dm sx aa dk fi bb cz hm se da sa bt o) [(0, .ref (b 0)), (1, vI r), (2, vI x), (3, vI (b2i d))] [] 4 := by
    intro f
    induction f with
    | zero => intro x d k o M i0 i1 hg hM i2 hf; exact absurd hf (Nat.not_lt_zero _)
    | succ f ih =>
      intro x d k o M i0 i1 hg hM i2 hf
      refine z_iload_n C dX8_writePlain_4 2 rfl ?_
      have q2 := congrArg List.length i2
      simp only [List.length_append] at q2
      refine z_aload_n C dX8_writePlain_5 0 rfl ?_
      refine z_get C hinX8 (ci := 10) rfl 0 rfl 2 (by decide) k0 rfl (v := vI co) rfl dX8_writePlain_6 ?_
      refine z_icmp_ge C (by omega) (by omega) (tgt := 46) dX8_writePlain_9 (by decide) (fun hc_1 => ?_) (fun hc_1 => ?_)
      · refine z_vret C dX8_writePlain_46 o ?_ ?_ ?_ (by decide) (by decide)
        · exact rfl
        · have e : L ++ plB (pd da r) co (co + 1).toNat 0 false = M := by rw [i2, plB_ge _ (by omega), List.append_nil]
          rw [e]; exact hM
        · have e : L ++ plB (pd da r) co (co + 1).toNat 0 false = M := by rw [i2, plB_ge _ (by omega), List.append_nil]
          rw [e]
      · refine z_aload_n C dX8_writePlain_12 0 rfl ?_
        refine z_iload_n C dX8_writePlain_13 1 rfl ?_
        refine z_iload_n C dX8_writePlain_14 2 rfl ?_
        refine z_iload_n C dX8_writePlain_15 3 rfl ?_
        refine z_callV C (As := [vI r, vI x, vI (b2i d)]) (st := []) (c_X8_otherFrom l D cy tw b kd co th rw cl ((M.length : Nat) : Int) po dm sx aa dk fi bb cz hm se da sa bt o r x d  (by omega) (by omega) (by omega)) gX8_writePlain_X8_otherFrom kn_X8_otherFrom rfl ⟨rfl, rfl, Nat.le_of_ble_eq_true rfl, Nat.le_of_ble_eq_true rfl⟩ 0 rfl (ci := 10) rfl rfl (Nat.le_of_ble_eq_true rfl) ⟨Nat.le_of_ble_eq_true rfl, Nat.le_of_ble_eq_true rfl⟩ dX8_writePlain_16 (fun u2 hu2 => ?_)
        clear hu2; clear u2
        show V 0 0 (MW cy b kd co th rw cl ((M.length : Nat) : Int) po dm sx aa dk fi bb cz hm se da sa bt o) [(0, .ref (b 0)), (1, vI r), (2, vI x), (3, vI (b2i d))] [vI (nxt (pd da r) co x (!d))] 19
        refine z_istore C (lv' := [(4, vI (nxt (pd da r) co x (!d))), (0, .ref (b 0)), (1, vI r), (2, vI x), (3, vI (b2i d))]) dX8_writePlain_19 (by decide) rfl ?_
        have hh := nxt_rg (pd da r) co x (!d)
        have hk9 : 0 ≤ k + 1 ∧ k + 1 ≤ nxt (pd da r) co x (!d) + 1 := by
          rcases hg with z | z
          · have := hh.2 (by omega); omega
          · have := nxt_gt (f := pd da r) (N := co) (d := !d) (x := x) (by omega) (by rw [z (by omega), Bool.not_not]); omega
        refine z_aload_n C dX8_writePlain_21 1 rfl ?_
        refine z_iload_n C dX8_writePlain_22 4 rfl ?_
        refine z_iload C dX8_writePlain_23 0 rfl ?_
        refine z_iload_n C dX8_writePlain_25 3 rfl ?_
        refine z_isub C dX8_writePlain_26 ?_
        refine z_callV C (As := [vI (b2i d), vI ((nxt (pd da r) co x (!d)) - x)]) (st := []) (c_X8_putRun l D cy tw b kd co th rw cl po dm sx aa dk fi bb cz hm se da sa bt o d ((nxt (pd da r) co x (!d)) - x) M (hM) (by omega) (by omega)) gX8_writePlain_X8_putRun kn_X8_putRun rfl ⟨rfl, rfl, Nat.le_of_ble_eq_true rfl, Nat.le_of_ble_eq_true rfl⟩ 0 rfl (ci := 10) rfl rfl (Nat.le_of_ble_eq_true rfl) ⟨Nat.le_of_ble_eq_true rfl, Nat.le_of_ble_eq_true rfl⟩ dX8_writePlain_27 (fun u3 hu3 => ?_)
        show V 0 0 (MW cy b kd co th rw cl (((M ++ runB d ((nxt (pd da r) co x (!d)) - x)).length : Nat) : Int) po dm sx aa dk fi bb cz hm se da sa bt u3) [(4, vI (nxt (pd da r) co x (!d))), (0, .ref (b 0)), (1, vI r), (2, vI x), (3, vI (b2i d))] [] 30
        refine z_iload C dX8_writePlain_30 0 rfl ?_
        refine z_istore_n C (lv' := [(2, vI (nxt (pd da r) co x (!d))), (4, vI (nxt (pd da r) co x (!d))), (0, .ref (b 0)), (1, vI r), (3, vI (b2i d))]) dX8_writePlain_32 rfl (by decide) rfl ?_
        refine z_iload_n C dX8_writePlain_33 4 rfl ?_
        refine z_not C dX8_writePlain_34 dX8_writePlain_37 dX8_writePlain_38 dX8_writePlain_41 ?_
        refine z_istore_n C (lv' := [(3, vI (b2i (!d))), (2, vI (nxt (pd da r) co x (!d))), (4, vI (nxt (pd da r) co x (!d))), (0, .ref (b 0)), (1, vI r)]) dX8_writePlain_42 rfl (by decide) rfl ?_
        refine z_goto C (tgt := 4) dX8_writePlain_43 (by decide) ?_
        refine z_lsub C [3, 4, 1, 0] rfl ?_
        exact ih (nxt (pd da r) co x (!d)) (!d) (k + 1) u3 (M ++ runB d ((nxt (pd da r) co x (!d)) - x)) (hk9) (by omega) (Or.inr (fun z => nxt_eq z)) (hu3) (by rw [i2, show (co + 1 - k).toNat = (co + 1 - (k + 1)).toNat + 1 by omega, plB, if_pos (by omega), List.append_assoc]) (by omega)
  refine z_lsub C [2, 3, 1, 0] rfl ?_
  exact J4 _ 0 false 0 oz L (by omega) (by omega) (Or.inl rfl) (hL) (by simp) (Nat.lt_succ_self _)
