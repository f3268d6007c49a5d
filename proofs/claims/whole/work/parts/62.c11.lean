def pd (da : Nat → Bool) (r x : Int) : Bool := decide (0 ≤ r ∧ 0 ≤ x) && da (700 * r + x).toNat
theorem pd_in {da : Nat → Bool} {r x : Int} (h : 0 ≤ r ∧ 0 ≤ x) : pd da r x = da (700 * r + x).toNat := by rw [pd, decide_eq_true h]; rfl
theorem pd_out {da : Nat → Bool} {r x : Int} (h : ¬ (0 ≤ r ∧ 0 ≤ x)) : pd da r x = false := by rw [pd, decide_eq_false h]; rfl
def chg (f : Int → Bool) (x : Int) : Bool := !(f x == f (x - 1))
def cntC (f : Int → Bool) : Nat → Int
  | 0 => 0
  | n + 1 => cntC f n + b2i (chg f (n : Int))
def lnC (f : Int → Bool) (i : Int) : Nat → Int
  | 0 => 0
  | n + 1 => lnC f i n + b2i (decide (cntC f (n + 1) = i))
theorem cntC_rg (f : Int → Bool) : ∀ n, 0 ≤ cntC f n ∧ cntC f n ≤ n
  | 0 => by rw [cntC]; omega
  | n + 1 => by have := cntC_rg f n; have := b2i_01 (chg f (n : Int)); rw [cntC]; omega
theorem lnC_rg (f : Int → Bool) (i : Int) : ∀ n, 0 ≤ lnC f i n ∧ lnC f i n ≤ n
  | 0 => by rw [lnC]; omega
  | n + 1 => by have := lnC_rg f i n; have := b2i_01 (decide (cntC f (n + 1) = i)); rw [lnC]; omega
def byN (oz : Nat → Bool) (i : Int) : Nat → Int
  | 0 => 0
  | n + 1 => 2 * byN oz i n + b2i (oz (8 * i + (n : Nat) : Int).toNat)
theorem byN_rg (oz : Nat → Bool) (i : Int) : ∀ n, 0 ≤ byN oz i n ∧ byN oz i n < 2 ^ n
  | 0 => by rw [byN]; omega
  | n + 1 => by have := byN_rg oz i n; have := b2i_01 (oz (8 * i + (n : Nat) : Int).toNat); rw [byN, Int.pow_succ]; omega
theorem kn_X8_setting : zKn yX8_setting wsX8_setting cX8_setting 3 (none) 2 := ⟨⟨_, rfl⟩, by decide +kernel, by decide +kernel, by decide +kernel⟩
set_option maxHeartbeats 400000 in
set_option maxRecDepth 100000 in
theorem c_X8_setting (l : Launch) (D : va_G) (cy : Nat → ClassId) (tw : Nat → Nat) (b : Nat → Nat) (kd : Int) (co : Int) (th : Int) (rw : Int) (cl : Int) (wr : Int) (po : Int) (dm : Int) (sx : Int) (aa : Int) (dk : Bool) (fi : Bool) (bb : Int) (cz : Int) (hm : Bool) (se : Nat → Bool) (da : Nat → Bool) (sa : Nat → Int) (bt : Nat → Int) (oz : Nat → Bool) (z : Int) (d : Bool)  (hyz : -2147483648 ≤ z ∧ z ≤ 2147483647) : zMet l yX8_setting wsX8_setting { frames := 0, cells := 0, slots := 0, locals := 0 } D (zT cy) tw (MW cy b kd co th rw cl wr po dm sx aa dk fi bb cz hm se da sa bt oz) [.ref (b 0), vI z, vI (b2i d)] 0 0 (S := Unit) (fun _ => none) (fun _ => MW cy b kd co (if 0 ≤ z ∧ z ≤ 3 then 0 else 1) rw cl wr po dm sx aa dk fi bb cz hm (if 0 ≤ z ∧ z ≤ 3 then va_up se (z : Int).toNat d else se) da sa bt oz) (fun _ => True) := by
  refine z_met (cc := cX8_setting) (nL := 3) (ret := none) (by decide +kernel) rfl (Nat.le_of_ble_eq_true rfl) (lv := [(0, .ref (b 0)), (1, vI z), (2, vI (b2i d))]) rfl ?_
  intro V p_ e_ s_ m_ args_ below_ meth_ c_ A_ C hmn
  have hinX8 : ∀ w ∈ u_ws RX8 TX8 22, w ∈ wsX8_setting := by decide +kernel
  have k0 : Cond.fieldLink RX8 44 "FaxFilterModel" "thrown" "I" ∈ wsX8_setting := List.mem_of_getElem? (i := 1) rfl
  have k1 : Cond.fieldLink RX8 16 "FaxFilterModel" "settings" "[Z" ∈ wsX8_setting := List.mem_of_getElem? (i := 2) rfl
  refine z_aload_n C dX8_setting_0 0 rfl ?_
  refine z_iload_n C dX8_setting_1 1 rfl ?_
  refine z_if_lt C (by omega) (tgt := 10) dX8_setting_2 (by decide) (fun hc_1 => ?_) (fun hc_1 => ?_)
  · refine z_iconst C (z := 1) dX8_setting_10 ?_
    refine z_goto C (tgt := 15) dX8_setting_11 (by decide) ?_
    refine z_put C hinX8 tyX8 tyX8_ok nmX8 (ci := 10) rfl 0 rfl 0 (by decide) k0 rfl rfl rfl rfl (Nat.le_of_ble_eq_true rfl) dX8_setting_15 (ws' := MW cy b kd co 1 rw cl wr po dm sx aa dk fi bb cz hm se da sa bt oz) rfl ?_
    refine z_aload_n C dX8_setting_18 0 rfl ?_
    refine z_get C hinX8 (ci := 10) rfl 0 rfl 0 (by decide) k0 rfl (v := vI 1) rfl dX8_setting_19 ?_
    refine z_if_ne C (by decide) (tgt := 32) dX8_setting_22 (by decide) (fun hc_2 => ?_) (fun hc_2 => ?_)
    rotate_left; · exact absurd hc_2 (by decide)
    refine z_vret C dX8_setting_32 () ?_ ?_ ?_ (by decide) (by decide)
    · exact rfl
    · exact trivial
    · rw [if_neg (by omega), if_neg (by omega)]
  · refine z_iload_n C dX8_setting_5 1 rfl ?_
    refine z_iconst C (z := 3) dX8_setting_6 ?_
    refine z_icmp_le C (by omega) (by decide) (tgt := 14) dX8_setting_7 (by decide) (fun hc_3 => ?_) (fun hc_3 => ?_)
    · refine z_iconst C (z := 0) dX8_setting_14 ?_
      refine z_put C hinX8 tyX8 tyX8_ok nmX8 (ci := 10) rfl 0 rfl 0 (by decide) k0 rfl rfl rfl rfl (Nat.le_of_ble_eq_true rfl) dX8_setting_15 (ws' := MW cy b kd co 0 rw cl wr po dm sx aa dk fi bb cz hm se da sa bt oz) rfl ?_
      refine z_aload_n C dX8_setting_18 0 rfl ?_
      refine z_get C hinX8 (ci := 10) rfl 0 rfl 0 (by decide) k0 rfl (v := vI 0) rfl dX8_setting_19 ?_
      refine z_if_ne C (by decide) (tgt := 32) dX8_setting_22 (by decide) (fun hc_4 => ?_) (fun hc_4 => ?_)
      · exact absurd hc_4 (by decide)
      refine z_aload_n C dX8_setting_25 0 rfl ?_
      refine z_get C hinX8 (ci := 10) rfl 0 rfl 5 (by decide) k1 rfl (v := .ref (b 3)) rfl dX8_setting_26 ?_
      refine z_iload_n C dX8_setting_29 1 rfl ?_
      refine z_iload_n C dX8_setting_30 2 rfl ?_
      refine z_zast C 3 3 (g := se) rfl rfl (by omega) (by omega) (by decide) dX8_setting_31 (ws' := MW cy b kd co 0 rw cl wr po dm sx aa dk fi bb cz hm (va_up se (z : Int).toNat d) da sa bt oz) rfl ?_
      refine z_vret C dX8_setting_32 () ?_ ?_ ?_ (by decide) (by decide)
      · exact rfl
      · exact trivial
      · rw [if_pos (by omega), if_pos (by omega)]
    · refine z_iconst C (z := 1) dX8_setting_10 ?_
      refine z_goto C (tgt := 15) dX8_setting_11 (by decide) ?_
      refine z_put C hinX8 tyX8 tyX8_ok nmX8 (ci := 10) rfl 0 rfl 0 (by decide) k0 rfl rfl rfl rfl (Nat.le_of_ble_eq_true rfl) dX8_setting_15 (ws' := MW cy b kd co 1 rw cl wr po dm sx aa dk fi bb cz hm se da sa bt oz) rfl ?_
      refine z_aload_n C dX8_setting_18 0 rfl ?_
      refine z_get C hinX8 (ci := 10) rfl 0 rfl 0 (by decide) k0 rfl (v := vI 1) rfl dX8_setting_19 ?_
      refine z_if_ne C (by decide) (tgt := 32) dX8_setting_22 (by decide) (fun hc_5 => ?_) (fun hc_5 => ?_)
      rotate_left; · exact absurd hc_5 (by decide)
      refine z_vret C dX8_setting_32 () ?_ ?_ ?_ (by decide) (by decide)
      · exact rfl
      · exact trivial
      · rw [if_neg (by omega), if_neg (by omega)]
theorem kn_X8_isRow : zKn yX8_isRow wsX8_isRow cX8_isRow 2 (some .boolean) 1 := ⟨⟨_, rfl⟩, by decide +kernel, by decide +kernel, by decide +kernel⟩
set_option maxHeartbeats 400000 in
set_option maxRecDepth 100000 in
theorem c_X8_isRow (l : Launch) (D : va_G) (cy : Nat → ClassId) (tw : Nat → Nat) (b : Nat → Nat) (kd : Int) (co : Int) (th : Int) (rw : Int) (cl : Int) (wr : Int) (po : Int) (dm : Int) (sx : Int) (aa : Int) (dk : Bool) (fi : Bool) (bb : Int) (cz : Int) (hm : Bool) (se : Nat → Bool) (da : Nat → Bool) (sa : Nat → Int) (bt : Nat → Int) (oz : Nat → Bool) (z : Int)  (hyz : -2147483648 ≤ z ∧ z ≤ 2147483647) (hrw : 0 ≤ rw ∧ rw ≤ 24) : zMet l yX8_isRow wsX8_isRow { frames := 0, cells := 0, slots := 0, locals := 0 } D (zT cy) tw (MW cy b kd co th rw cl wr po dm sx aa dk fi bb cz hm se da sa bt oz) [.ref (b 0), vI z] 0 0 (S := Unit) (fun _ => some (vI (b2i (decide (0 ≤ z ∧ z < rw))))) (fun _ => MW cy b kd co th rw cl wr po dm sx aa dk fi bb cz hm se da sa bt oz) (fun _ => True) := by
  refine z_met (cc := cX8_isRow) (nL := 2) (ret := some .boolean) (by decide +kernel) rfl (Nat.le_of_ble_eq_true rfl) (lv := [(0, .ref (b 0)), (1, vI z)]) rfl ?_
  intro V p_ e_ s_ m_ args_ below_ meth_ c_ A_ C hmn
  have hinX8 : ∀ w ∈ u_ws RX8 TX8 22, w ∈ wsX8_isRow := by decide +kernel
  have k0 : Cond.fieldLink RX8 60 "FaxFilterModel" "rows" "I" ∈ wsX8_isRow := List.mem_of_getElem? (i := 1) rfl
  refine z_iload_n C dX8_isRow_0 1 rfl ?_
  refine z_if_lt C (by omega) (tgt := 16) dX8_isRow_1 (by decide) (fun hc_1 => ?_) (fun hc_1 => ?_)
  · refine z_iconst C (z := 0) dX8_isRow_16 ?_
    refine z_zret (b := false) C dX8_isRow_17 () ?_ ?_ ?_ (by decide) (by decide)
    · rw [decide_eq_false (by omega)]
    · exact trivial
    · exact rfl
  · refine z_iload_n C dX8_isRow_4 1 rfl ?_
    refine z_aload_n C dX8_isRow_5 0 rfl ?_
    refine z_get C hinX8 (ci := 10) rfl 0 rfl 6 (by decide) k0 rfl (v := vI rw) rfl dX8_isRow_6 ?_
    refine z_icmp_ge C (by omega) (by omega) (tgt := 16) dX8_isRow_9 (by decide) (fun hc_2 => ?_) (fun hc_2 => ?_)
    · refine z_iconst C (z := 0) dX8_isRow_16 ?_
      refine z_zret (b := false) C dX8_isRow_17 () ?_ ?_ ?_ (by decide) (by decide)
      · rw [decide_eq_false (by omega)]
      · exact trivial
      · exact rfl
    · refine z_iconst C (z := 1) dX8_isRow_12 ?_
      refine z_goto C (tgt := 17) dX8_isRow_13 (by decide) ?_
      refine z_zret (b := true) C dX8_isRow_17 () ?_ ?_ ?_ (by decide) (by decide)
      · rw [decide_eq_true (by omega)]
      · exact trivial
      · exact rfl
theorem kn_X8_state : zKn yX8_state wsX8_state cX8_state 2 (some .int) 1 := ⟨⟨_, rfl⟩, by decide +kernel, by decide +kernel, by decide +kernel⟩
set_option maxHeartbeats 400000 in
set_option maxRecDepth 100000 in
theorem c_X8_state (l : Launch) (D : va_G) (cy : Nat → ClassId) (tw : Nat → Nat) (b : Nat → Nat) (kd : Int) (co : Int) (th : Int) (rw : Int) (cl : Int) (wr : Int) (po : Int) (dm : Int) (sx : Int) (aa : Int) (dk : Bool) (fi : Bool) (bb : Int) (cz : Int) (hm : Bool) (se : Nat → Bool) (da : Nat → Bool) (sa : Nat → Int) (bt : Nat → Int) (oz : Nat → Bool) (z : Int)  (hyz : -2147483648 ≤ z ∧ z ≤ 2147483647) (hrw : 0 ≤ rw ∧ rw ≤ 24) : zMet l yX8_state wsX8_state { frames := 1, cells := 0, slots := 0, locals := 21 } D (zT cy) tw (MW cy b kd co th rw cl wr po dm sx aa dk fi bb cz hm se da sa bt oz) [.ref (b 0), vI z] 0 0 (S := Unit) (fun _ => some (vI (if 0 ≤ z ∧ z < rw then sa (z : Int).toNat else 0))) (fun _ => MW cy b kd co (if 0 ≤ z ∧ z < rw then 0 else 1) rw cl wr po dm sx aa dk fi bb cz hm se da sa bt oz) (fun _ => True) := by
  refine z_met (cc := cX8_state) (nL := 2) (ret := some .int) (by decide +kernel) rfl (Nat.le_of_ble_eq_true rfl) (lv := [(0, .ref (b 0)), (1, vI z)]) rfl ?_
  intro V p_ e_ s_ m_ args_ below_ meth_ c_ A_ C hmn
  have hinX8 : ∀ w ∈ u_ws RX8 TX8 22, w ∈ wsX8_state := by decide +kernel
  have k0 : Cond.fieldLink RX8 44 "FaxFilterModel" "thrown" "I" ∈ wsX8_state := List.mem_of_getElem? (i := 1) rfl
  have k1 : Cond.fieldLink RX8 23 "FaxFilterModel" "states" "[I" ∈ wsX8_state := List.mem_of_getElem? (i := 2) rfl
  refine z_aload_n C dX8_state_0 0 rfl ?_
  refine z_aload_n C dX8_state_1 0 rfl ?_
  refine z_iload_n C dX8_state_2 1 rfl ?_
  refine z_callV C (As := [vI z]) (st := [.ref (b 0)]) (c_X8_isRow l D cy tw b kd co th rw cl wr po dm sx aa dk fi bb cz hm se da sa bt oz z  (by omega) (by omega)) gX8_state_X8_isRow kn_X8_isRow rfl ⟨rfl, rfl, Nat.le_of_ble_eq_true rfl, Nat.le_of_ble_eq_true rfl⟩ 0 rfl (ci := 10) rfl rfl (Nat.le_of_ble_eq_true rfl) ⟨Nat.le_of_ble_eq_true rfl, Nat.le_of_ble_eq_true rfl⟩ dX8_state_3 (fun u1 hu1 => ?_)
  clear hu1; clear u1
  show V 0 0 (MW cy b kd co th rw cl wr po dm sx aa dk fi bb cz hm se da sa bt oz) [(0, .ref (b 0)), (1, vI z)] [vI (b2i (decide (0 ≤ z ∧ z < rw))), .ref (b 0)] 6
  refine z_ifz C (tgt := 13) dX8_state_6 (by decide) (fun ci => ?_) (fun ci => ?_)
  · have hi := of_decide_eq_false ci
    refine z_iconst C (z := 1) dX8_state_13 ?_
    refine z_put C hinX8 tyX8 tyX8_ok nmX8 (ci := 10) rfl 0 rfl 0 (by decide) k0 rfl rfl rfl rfl (Nat.le_of_ble_eq_true rfl) dX8_state_14 (ws' := MW cy b kd co 1 rw cl wr po dm sx aa dk fi bb cz hm se da sa bt oz) rfl ?_
    refine z_aload_n C dX8_state_17 0 rfl ?_
    refine z_get C hinX8 (ci := 10) rfl 0 rfl 0 (by decide) k0 rfl (v := vI 1) rfl dX8_state_18 ?_
    refine z_if_le C (by decide) (tgt := 28) dX8_state_21 (by decide) (fun hc_2 => ?_) (fun hc_2 => ?_)
    · exact absurd hc_2 (by decide)
    refine z_iconst C (z := 0) dX8_state_24 ?_
    refine z_goto C (tgt := 34) dX8_state_25 (by decide) ?_
    refine z_iret (x := 0) C dX8_state_34 () ?_ ?_ ?_ (by decide) (by decide)
    · rw [if_neg (by omega)]
    · exact trivial
    · rw [if_neg (by omega)]
  · have hi := of_decide_eq_true ci
    refine z_iconst C (z := 0) dX8_state_9 ?_
    refine z_goto C (tgt := 14) dX8_state_10 (by decide) ?_
    refine z_put C hinX8 tyX8 tyX8_ok nmX8 (ci := 10) rfl 0 rfl 0 (by decide) k0 rfl rfl rfl rfl (Nat.le_of_ble_eq_true rfl) dX8_state_14 (ws' := MW cy b kd co 0 rw cl wr po dm sx aa dk fi bb cz hm se da sa bt oz) rfl ?_
    refine z_aload_n C dX8_state_17 0 rfl ?_
    refine z_get C hinX8 (ci := 10) rfl 0 rfl 0 (by decide) k0 rfl (v := vI 0) rfl dX8_state_18 ?_
    refine z_if_le C (by decide) (tgt := 28) dX8_state_21 (by decide) (fun hc_3 => ?_) (fun hc_3 => ?_)
    rotate_left; · exact absurd hc_3 (by decide)
    refine z_aload_n C dX8_state_28 0 rfl ?_
    refine z_get C hinX8 (ci := 10) rfl 0 rfl 8 (by decide) k1 rfl (v := .ref (b 5)) rfl dX8_state_29 ?_
    refine z_iload_n C dX8_state_32 1 rfl ?_
    refine z_iald C 5 1 (g := sa) rfl rfl (by omega) (by omega) (by decide) dX8_state_33 ?_
    refine z_iret (x := (sa (z : Int).toNat)) C dX8_state_34 () ?_ ?_ ?_ (by decide) (by decide)
    · rw [if_pos (by omega)]
    · exact trivial
    · rw [if_pos (by omega)]
theorem kn_X8_paint : zKn yX8_paint wsX8_paint cX8_paint 6 (none) 4 := ⟨⟨_, rfl⟩, by decide +kernel, by decide +kernel, by decide +kernel⟩
set_option maxHeartbeats 400000 in
set_option maxRecDepth 100000 in
theorem c_X8_paint (l : Launch) (D : va_G) (cy : Nat → ClassId) (tw : Nat → Nat) (b : Nat → Nat) (kd : Int) (co : Int) (th : Int) (rw : Int) (cl : Int) (wr : Int) (po : Int) (dm : Int) (sx : Int) (aa : Int) (dk : Bool) (fi : Bool) (bb : Int) (cz : Int) (hm : Bool) (se : Nat → Bool) (da : Nat → Bool) (sa : Nat → Int) (bt : Nat → Int) (oz : Nat → Bool) (r : Int) (q : Int) (t : Int) (d : Bool)  (hr : 0 ≤ r ∧ r < 24) (hf : 0 ≤ q) (ht : t ≤ 700) (hft : q ≤ 10000 ∧ -10000 ≤ t) : zMet l yX8_paint wsX8_paint { frames := 0, cells := 0, slots := 0, locals := 0 } D (zT cy) tw (MW cy b kd co th rw cl wr po dm sx aa dk fi bb cz hm se da sa bt oz) [.ref (b 0), vI r, vI q, vI t, vI (b2i d)] 0 0 (S := Unit) (fun _ => none) (fun _ => MW cy b kd co th rw cl wr po dm sx aa dk fi bb cz hm se (pnM da r q t d) sa bt oz) (fun _ => True) := by
  refine z_met (cc := cX8_paint) (nL := 6) (ret := none) (by decide +kernel) rfl (Nat.le_of_ble_eq_true rfl) (lv := [(0, .ref (b 0)), (1, vI r), (2, vI q), (3, vI t), (4, vI (b2i d))]) rfl ?_
  intro V p_ e_ s_ m_ args_ below_ meth_ c_ A_ C hmn
  have hinX8 : ∀ w ∈ u_ws RX8 TX8 22, w ∈ wsX8_paint := by decide +kernel
  have k0 : Cond.fieldLink RX8 20 "FaxFilterModel" "dark" "[Z" ∈ wsX8_paint := List.mem_of_getElem? (i := 1) rfl
  refine z_iload_n C dX8_paint_0 2 rfl ?_
  refine z_istore C (lv' := [(5, vI q), (0, .ref (b 0)), (1, vI r), (2, vI q), (3, vI t), (4, vI (b2i d))]) dX8_paint_1 (by decide) rfl ?_
  have J3 : ∀ (f : Nat) (i : Int) (da2 : Nat → Bool), (q ≤ i ∧ (i ≤ t ∨ i = q)) → (da2 = pnM da r q i d) → (t - i).toNat < f → V 0 0 (MW cy b kd co th rw cl wr po dm sx aa dk fi bb cz hm se da2 sa bt oz) [(0, .ref (b 0)), (1, vI r), (2, vI q), (3, vI t), (4, vI (b2i d)), (5, vI i)] [] 3 := by
    intro f
    induction f with
    | zero => intro i da2 i0 i1 hf; exact absurd hf (Nat.not_lt_zero _)
    | succ f ih =>
      intro i da2 i0 i1 hf
      refine z_iload C dX8_paint_3 5 rfl ?_
      refine z_iload_n C dX8_paint_5 3 rfl ?_
      refine z_icmp_ge C (by omega) (by omega) (tgt := 30) dX8_paint_6 (by decide) (fun hc_1 => ?_) (fun hc_1 => ?_)
      · refine z_vret C dX8_paint_30 () ?_ ?_ ?_ (by decide) (by decide)
        · exact rfl
        · exact trivial
        · rw [i1]; rcases i0.2 with z | z
          · rw [show i = t by omega]
          · rw [pnM_0 _ _ _ _ _ (by omega), pnM_0 _ _ _ _ _ (by omega)]
      · refine z_aload_n C dX8_paint_9 0 rfl ?_
        refine z_get C hinX8 (ci := 10) rfl 0 rfl 7 (by decide) k0 rfl (v := .ref (b 4)) rfl dX8_paint_10 ?_
        refine z_sipush C (z := 700) dX8_paint_13 (by decide) ?_
        refine z_iload_n C dX8_paint_16 1 rfl ?_
        refine z_imul C dX8_paint_17 ?_
        refine z_iload C dX8_paint_18 5 rfl ?_
        refine z_iadd C dX8_paint_20 ?_
        refine z_iload C dX8_paint_21 4 rfl ?_
        refine z_zast C 4 3 (g := da2) rfl rfl (by omega) (by omega) (by decide) dX8_paint_23 (ws' := MW cy b kd co th rw cl wr po dm sx aa dk fi bb cz hm se (va_up da2 ((700 * r) + i : Int).toNat d) sa bt oz) rfl ?_
        refine z_iinc C (lv' := [(5, vI (i + 1)), (0, .ref (b 0)), (1, vI r), (2, vI q), (3, vI t), (4, vI (b2i d))]) dX8_paint_24 5 rfl (by decide) rfl ?_
        refine z_goto C (tgt := 3) dX8_paint_27 (by decide) ?_
        refine z_lsub C [1, 2, 3, 4, 5, 0] rfl ?_
        exact ih (i + 1) (va_up da2 ((700 * r) + i : Int).toNat d) (by omega) (by rw [i1, pnM_s _ _ _ _ _ (by omega) (by omega)]) (by omega)
  refine z_lsub C [1, 2, 3, 4, 5, 0] rfl ?_
  exact J3 _ q da (by omega) ((pnM_0 _ _ _ _ _ (by omega)).symm) (Nat.lt_succ_self _)
theorem kn_X8_row : zKn yX8_row wsX8_row cX8_row 1 (some .int) 0 := ⟨⟨_, rfl⟩, by decide +kernel, by decide +kernel, by decide +kernel⟩
set_option maxHeartbeats 400000 in
set_option maxRecDepth 100000 in
theorem c_X8_row (l : Launch) (D : va_G) (cy : Nat → ClassId) (tw : Nat → Nat) (b : Nat → Nat) (kd : Int) (co : Int) (th : Int) (rw : Int) (cl : Int) (wr : Int) (po : Int) (dm : Int) (sx : Int) (aa : Int) (dk : Bool) (fi : Bool) (bb : Int) (cz : Int) (hm : Bool) (se : Nat → Bool) (da : Nat → Bool) (sa : Nat → Int) (bt : Nat → Int) (oz : Nat → Bool)   (hrw : 0 ≤ rw ∧ rw ≤ 24) : zMet l yX8_row wsX8_row { frames := 1, cells := 0, slots := 0, locals := 25 } D (zT cy) tw (MW cy b kd co th rw cl wr po dm sx aa dk fi bb cz hm se da sa bt oz) [.ref (b 0)] 0 0 (S := Unit) (fun _ => some (vI (if rw = 24 then 0 else rw))) (fun _ => MW cy b kd co (if rw = 24 then 1 else 0) (if rw = 24 then 24 else rw + 1) cl wr po dm sx aa dk fi bb cz hm se (if rw = 24 then da else pnM da rw 0 700 false) (if rw = 24 then sa else va_up sa (rw : Int).toNat 0) bt oz) (fun _ => True) := by
  refine z_met (cc := cX8_row) (nL := 1) (ret := some .int) (by decide +kernel) rfl (Nat.le_of_ble_eq_true rfl) (lv := [(0, .ref (b 0))]) rfl ?_
  intro V p_ e_ s_ m_ args_ below_ meth_ c_ A_ C hmn
  have hinX8 : ∀ w ∈ u_ws RX8 TX8 22, w ∈ wsX8_row := by decide +kernel
  have k0 : Cond.fieldLink RX8 60 "FaxFilterModel" "rows" "I" ∈ wsX8_row := List.mem_of_getElem? (i := 1) rfl
  have k1 : Cond.fieldLink RX8 44 "FaxFilterModel" "thrown" "I" ∈ wsX8_row := List.mem_of_getElem? (i := 2) rfl
  have k2 : Cond.fieldLink RX8 23 "FaxFilterModel" "states" "[I" ∈ wsX8_row := List.mem_of_getElem? (i := 3) rfl
  refine z_aload_n C dX8_row_0 0 rfl ?_
  refine z_aload_n C dX8_row_1 0 rfl ?_
  refine z_get C hinX8 (ci := 10) rfl 0 rfl 6 (by decide) k0 rfl (v := vI rw) rfl dX8_row_2 ?_
  refine z_bipush C (z := 24) dX8_row_5 (by decide) ?_
  refine z_icmp_ne C (by omega) (by decide) (tgt := 14) dX8_row_7 (by decide) (fun hc_1 => ?_) (fun hc_1 => ?_)
  · refine z_iconst C (z := 0) dX8_row_14 ?_
    refine z_put C hinX8 tyX8 tyX8_ok nmX8 (ci := 10) rfl 0 rfl 0 (by decide) k1 rfl rfl rfl rfl (Nat.le_of_ble_eq_true rfl) dX8_row_15 (ws' := MW cy b kd co 0 rw cl wr po dm sx aa dk fi bb cz hm se da sa bt oz) rfl ?_
    refine z_aload_n C dX8_row_18 0 rfl ?_
    refine z_get C hinX8 (ci := 10) rfl 0 rfl 0 (by decide) k1 rfl (v := vI 0) rfl dX8_row_19 ?_
    refine z_if_le C (by decide) (tgt := 27) dX8_row_22 (by decide) (fun hc_2 => ?_) (fun hc_2 => ?_)
    rotate_left; · exact absurd hc_2 (by decide)
    refine z_aload_n C dX8_row_27 0 rfl ?_
    refine z_aload_n C dX8_row_28 0 rfl ?_
    refine z_get C hinX8 (ci := 10) rfl 0 rfl 6 (by decide) k0 rfl (v := vI rw) rfl dX8_row_29 ?_
    refine z_iconst C (z := 0) dX8_row_32 ?_
    refine z_sipush C (z := 700) dX8_row_33 (by decide) ?_
    refine z_iconst C (z := 0) dX8_row_36 ?_
    refine z_callV C (As := [vI rw, vI 0, vI 700, vI 0]) (st := []) (c_X8_paint l D cy tw b kd co 0 rw cl wr po dm sx aa dk fi bb cz hm se da sa bt oz rw 0 700 false  (by omega) (by omega) (by omega) (by omega)) gX8_row_X8_paint kn_X8_paint rfl ⟨rfl, rfl, Nat.le_of_ble_eq_true rfl, Nat.le_of_ble_eq_true rfl⟩ 0 rfl (ci := 10) rfl rfl (Nat.le_of_ble_eq_true rfl) ⟨Nat.le_of_ble_eq_true rfl, Nat.le_of_ble_eq_true rfl⟩ dX8_row_37 (fun u3 hu3 => ?_)
    clear hu3; clear u3
    show V 0 0 (MW cy b kd co 0 rw cl wr po dm sx aa dk fi bb cz hm se (pnM da rw 0 700 false) sa bt oz) [(0, .ref (b 0))] [] 40
    refine z_aload_n C dX8_row_40 0 rfl ?_
    refine z_get C hinX8 (ci := 10) rfl 0 rfl 8 (by decide) k2 rfl (v := .ref (b 5)) rfl dX8_row_41 ?_
    refine z_aload_n C dX8_row_44 0 rfl ?_
    refine z_get C hinX8 (ci := 10) rfl 0 rfl 6 (by decide) k0 rfl (v := vI rw) rfl dX8_row_45 ?_
    refine z_iconst C (z := 0) dX8_row_48 ?_
    refine z_iast C 5 1 (g := sa) rfl rfl (by omega) (by omega) (by decide) dX8_row_49 (ws' := MW cy b kd co 0 rw cl wr po dm sx aa dk fi bb cz hm se (pnM da rw 0 700 false) (va_up sa (rw : Int).toNat 0) bt oz) rfl ?_
    refine z_aload_n C dX8_row_50 0 rfl ?_
    refine z_dup C dX8_row_51 rfl ?_
    refine z_get C hinX8 (ci := 10) rfl 0 rfl 6 (by decide) k0 rfl (v := vI rw) rfl dX8_row_52 ?_
    refine z_iconst C (z := 1) dX8_row_55 ?_
    refine z_iadd C dX8_row_56 ?_
    refine z_put C hinX8 tyX8 tyX8_ok nmX8 (ci := 10) rfl 0 rfl 6 (by decide) k0 rfl rfl rfl rfl (Nat.le_of_ble_eq_true rfl) dX8_row_57 (ws' := MW cy b kd co 0 (rw + 1) cl wr po dm sx aa dk fi bb cz hm se (pnM da rw 0 700 false) (va_up sa (rw : Int).toNat 0) bt oz) rfl ?_
    refine z_aload_n C dX8_row_60 0 rfl ?_
    refine z_get C hinX8 (ci := 10) rfl 0 rfl 6 (by decide) k0 rfl (v := vI (rw + 1)) rfl dX8_row_61 ?_
    refine z_iconst C (z := 1) dX8_row_64 ?_
    refine z_isub C dX8_row_65 ?_
    refine z_iret (x := ((rw + 1) - 1)) C dX8_row_66 () ?_ ?_ ?_ (by decide) (by decide)
    · rw [if_neg (by omega)]; first | rfl | (congr 2; omega)
    · exact trivial
    · rw [if_neg (by omega), if_neg (by omega), if_neg (by omega), if_neg (by omega)]
  · refine z_iconst C (z := 1) dX8_row_10 ?_
    refine z_goto C (tgt := 15) dX8_row_11 (by decide) ?_
    refine z_put C hinX8 tyX8 tyX8_ok nmX8 (ci := 10) rfl 0 rfl 0 (by decide) k1 rfl rfl rfl rfl (Nat.le_of_ble_eq_true rfl) dX8_row_15 (ws' := MW cy b kd co 1 rw cl wr po dm sx aa dk fi bb cz hm se da sa bt oz) rfl ?_
    refine z_aload_n C dX8_row_18 0 rfl ?_
    refine z_get C hinX8 (ci := 10) rfl 0 rfl 0 (by decide) k1 rfl (v := vI 1) rfl dX8_row_19 ?_
    refine z_if_le C (by decide) (tgt := 27) dX8_row_22 (by decide) (fun hc_4 => ?_) (fun hc_4 => ?_)
    · exact absurd hc_4 (by decide)
    refine z_iconst C (z := 0) dX8_row_25 ?_
    refine z_iret (x := 0) C dX8_row_26 () ?_ ?_ ?_ (by decide) (by decide)
    · rw [if_pos (by omega)]
    · exact trivial
    · rw [if_pos (by omega), if_pos (by omega), if_pos (by omega), if_pos (by omega), show rw = 24 by omega]
theorem kn_X8_clear : zKn yX8_clear wsX8_clear cX8_clear 1 (none) 0 := ⟨⟨_, rfl⟩, by decide +kernel, by decide +kernel, by decide +kernel⟩
set_option maxHeartbeats 400000 in
set_option maxRecDepth 100000 in
theorem c_X8_clear (l : Launch) (D : va_G) (cy : Nat → ClassId) (tw : Nat → Nat) (b : Nat → Nat) (kd : Int) (co : Int) (th : Int) (rw : Int) (cl : Int) (wr : Int) (po : Int) (dm : Int) (sx : Int) (aa : Int) (dk : Bool) (fi : Bool) (bb : Int) (cz : Int) (hm : Bool) (se : Nat → Bool) (da : Nat → Bool) (sa : Nat → Int) (bt : Nat → Int) (oz : Nat → Bool)    : zMet l yX8_clear wsX8_clear { frames := 0, cells := 0, slots := 0, locals := 0 } D (zT cy) tw (MW cy b kd co th rw cl wr po dm sx aa dk fi bb cz hm se da sa bt oz) [.ref (b 0)] 0 0 (S := Unit) (fun _ => none) (fun _ => MW cy b kd co 0 0 cl wr po dm sx aa dk fi bb cz hm se da sa bt oz) (fun _ => True) := by
  refine z_met (cc := cX8_clear) (nL := 1) (ret := none) (by decide +kernel) rfl (Nat.le_of_ble_eq_true rfl) (lv := [(0, .ref (b 0))]) rfl ?_
  intro V p_ e_ s_ m_ args_ below_ meth_ c_ A_ C hmn
  have hinX8 : ∀ w ∈ u_ws RX8 TX8 22, w ∈ wsX8_clear := by decide +kernel
  have k0 : Cond.fieldLink RX8 44 "FaxFilterModel" "thrown" "I" ∈ wsX8_clear := List.mem_of_getElem? (i := 1) rfl
  have k1 : Cond.fieldLink RX8 60 "FaxFilterModel" "rows" "I" ∈ wsX8_clear := List.mem_of_getElem? (i := 2) rfl
  refine z_aload_n C dX8_clear_0 0 rfl ?_
  refine z_iconst C (z := 0) dX8_clear_1 ?_
  refine z_put C hinX8 tyX8 tyX8_ok nmX8 (ci := 10) rfl 0 rfl 0 (by decide) k0 rfl rfl rfl rfl (Nat.le_of_ble_eq_true rfl) dX8_clear_2 (ws' := MW cy b kd co 0 rw cl wr po dm sx aa dk fi bb cz hm se da sa bt oz) rfl ?_
  refine z_aload_n C dX8_clear_5 0 rfl ?_
  refine z_iconst C (z := 0) dX8_clear_6 ?_
  refine z_put C hinX8 tyX8 tyX8_ok nmX8 (ci := 10) rfl 0 rfl 6 (by decide) k1 rfl rfl rfl rfl (Nat.le_of_ble_eq_true rfl) dX8_clear_7 (ws' := MW cy b kd co 0 0 cl wr po dm sx aa dk fi bb cz hm se da sa bt oz) rfl ?_
  refine z_vret C dX8_clear_10 () ?_ ?_ ?_ (by decide) (by decide)
  · exact rfl
  · exact trivial
  · exact rfl
theorem kn_X8_drop : zKn yX8_drop wsX8_drop cX8_drop 1 (none) 0 := ⟨⟨_, rfl⟩, by decide +kernel, by decide +kernel, by decide +kernel⟩
set_option maxHeartbeats 400000 in
set_option maxRecDepth 100000 in
theorem c_X8_drop (l : Launch) (D : va_G) (cy : Nat → ClassId) (tw : Nat → Nat) (b : Nat → Nat) (kd : Int) (co : Int) (th : Int) (rw : Int) (cl : Int) (wr : Int) (po : Int) (dm : Int) (sx : Int) (aa : Int) (dk : Bool) (fi : Bool) (bb : Int) (cz : Int) (hm : Bool) (se : Nat → Bool) (da : Nat → Bool) (sa : Nat → Int) (bt : Nat → Int) (oz : Nat → Bool)    : zMet l yX8_drop wsX8_drop { frames := 0, cells := 0, slots := 0, locals := 0 } D (zT cy) tw (MW cy b kd co th rw cl wr po dm sx aa dk fi bb cz hm se da sa bt oz) [.ref (b 0)] 0 0 (S := Unit) (fun _ => none) (fun _ => MW cy b kd co 0 rw 0 wr po dm sx aa dk fi bb cz hm se da sa bt oz) (fun _ => True) := by
  refine z_met (cc := cX8_drop) (nL := 1) (ret := none) (by decide +kernel) rfl (Nat.le_of_ble_eq_true rfl) (lv := [(0, .ref (b 0))]) rfl ?_
  intro V p_ e_ s_ m_ args_ below_ meth_ c_ A_ C hmn
  have hinX8 : ∀ w ∈ u_ws RX8 TX8 22, w ∈ wsX8_drop := by decide +kernel
  have k0 : Cond.fieldLink RX8 44 "FaxFilterModel" "thrown" "I" ∈ wsX8_drop := List.mem_of_getElem? (i := 1) rfl
  have k1 : Cond.fieldLink RX8 63 "FaxFilterModel" "collected" "I" ∈ wsX8_drop := List.mem_of_getElem? (i := 2) rfl
  refine z_aload_n C dX8_drop_0 0 rfl ?_
  refine z_iconst C (z := 0) dX8_drop_1 ?_
  refine z_put C hinX8 tyX8 tyX8_ok nmX8 (ci := 10) rfl 0 rfl 0 (by decide) k0 rfl rfl rfl rfl (Nat.le_of_ble_eq_true rfl) dX8_drop_2 (ws' := MW cy b kd co 0 rw cl wr po dm sx aa dk fi bb cz hm se da sa bt oz) rfl ?_
  refine z_aload_n C dX8_drop_5 0 rfl ?_
  refine z_iconst C (z := 0) dX8_drop_6 ?_
  refine z_put C hinX8 tyX8 tyX8_ok nmX8 (ci := 10) rfl 0 rfl 9 (by decide) k1 rfl rfl rfl rfl (Nat.le_of_ble_eq_true rfl) dX8_drop_7 (ws' := MW cy b kd co 0 rw 0 wr po dm sx aa dk fi bb cz hm se da sa bt oz) rfl ?_
  refine z_vret C dX8_drop_10 () ?_ ?_ ?_ (by decide) (by decide)
  · exact rfl
  · exact trivial
  · exact rfl
theorem kn_X8_put : zKn yX8_put wsX8_put cX8_put 5 (none) 4 := ⟨⟨_, rfl⟩, by decide +kernel, by decide +kernel, by decide +kernel⟩
set_option maxHeartbeats 400000 in
set_option maxRecDepth 100000 in
theorem c_X8_put (l : Launch) (D : va_G) (cy : Nat → ClassId) (tw : Nat → Nat) (b : Nat → Nat) (kd : Int) (co : Int) (th : Int) (rw : Int) (cl : Int) (wr : Int) (po : Int) (dm : Int) (sx : Int) (aa : Int) (dk : Bool) (fi : Bool) (bb : Int) (cz : Int) (hm : Bool) (se : Nat → Bool) (da : Nat → Bool) (sa : Nat → Int) (bt : Nat → Int) (oz : Nat → Bool) (r : Int) (x : Int) (t : Int) (d : Bool)  (hco : 1 ≤ co ∧ co ≤ 700) (hrw : 0 ≤ rw ∧ rw ≤ 24) (hyr : -2147483648 ≤ r ∧ r ≤ 2147483647) (hyx : -2147483648 ≤ x ∧ x ≤ 2147483647) (hyt : -2147483648 ≤ t ∧ t ≤ 2147483647) : zMet l yX8_put wsX8_put { frames := 1, cells := 0, slots := 0, locals := 25 } D (zT cy) tw (MW cy b kd co th rw cl wr po dm sx aa dk fi bb cz hm se da sa bt oz) [.ref (b 0), vI r, vI x, vI t, vI (b2i d)] 0 0 (S := Unit) (fun _ => none) (fun _ => MW cy b kd co (if 0 ≤ r ∧ r < rw then (if 0 ≤ x ∧ x < t ∧ t ≤ co then 0 else 2) else 1) rw cl wr po dm sx aa dk fi bb cz hm se (if (0 ≤ r ∧ r < rw) ∧ 0 ≤ x ∧ x < t ∧ t ≤ co then pnM da r x t d else da) (if (0 ≤ r ∧ r < rw) ∧ 0 ≤ x ∧ x < t ∧ t ≤ co then va_up sa (r : Int).toNat 0 else sa) bt oz) (fun _ => True) := by
  refine z_met (cc := cX8_put) (nL := 5) (ret := none) (by decide +kernel) rfl (Nat.le_of_ble_eq_true rfl) (lv := [(0, .ref (b 0)), (1, vI r), (2, vI x), (3, vI t), (4, vI (b2i d))]) rfl ?_
  intro V p_ e_ s_ m_ args_ below_ meth_ c_ A_ C hmn
  have hinX8 : ∀ w ∈ u_ws RX8 TX8 22, w ∈ wsX8_put := by decide +kernel
  have k0 : Cond.fieldLink RX8 44 "FaxFilterModel" "thrown" "I" ∈ wsX8_put := List.mem_of_getElem? (i := 2) rfl
  have k1 : Cond.fieldLink RX8 37 "FaxFilterModel" "columns" "I" ∈ wsX8_put := List.mem_of_getElem? (i := 1) rfl
  have k2 : Cond.fieldLink RX8 23 "FaxFilterModel" "states" "[I" ∈ wsX8_put := List.mem_of_getElem? (i := 3) rfl
  refine z_aload_n C dX8_put_0 0 rfl ?_
  refine z_aload_n C dX8_put_1 0 rfl ?_
  refine z_iload_n C dX8_put_2 1 rfl ?_
  refine z_callV C (As := [vI r]) (st := [.ref (b 0)]) (c_X8_isRow l D cy tw b kd co th rw cl wr po dm sx aa dk fi bb cz hm se da sa bt oz r  (by omega) (by omega)) gX8_put_X8_isRow kn_X8_isRow rfl ⟨rfl, rfl, Nat.le_of_ble_eq_true rfl, Nat.le_of_ble_eq_true rfl⟩ 0 rfl (ci := 10) rfl rfl (Nat.le_of_ble_eq_true rfl) ⟨Nat.le_of_ble_eq_true rfl, Nat.le_of_ble_eq_true rfl⟩ dX8_put_3 (fun u1 hu1 => ?_)
  clear hu1; clear u1
  show V 0 0 (MW cy b kd co th rw cl wr po dm sx aa dk fi bb cz hm se da sa bt oz) [(0, .ref (b 0)), (1, vI r), (2, vI x), (3, vI t), (4, vI (b2i d))] [vI (b2i (decide (0 ≤ r ∧ r < rw))), .ref (b 0)] 6
  refine z_ifnz C (tgt := 13) dX8_put_6 (by decide) (fun ci => ?_) (fun ci => ?_)
  · have hi := of_decide_eq_true ci
    refine z_iload_n C dX8_put_13 2 rfl ?_
    refine z_if_lt C (by omega) (tgt := 30) dX8_put_14 (by decide) (fun hc_2 => ?_) (fun hc_2 => ?_)
    · refine z_iconst C (z := 2) dX8_put_30 ?_
      refine z_goto C (tgt := 35) dX8_put_31 (by decide) ?_
      refine z_put C hinX8 tyX8 tyX8_ok nmX8 (ci := 10) rfl 0 rfl 0 (by decide) k0 rfl rfl rfl rfl (Nat.le_of_ble_eq_true rfl) dX8_put_35 (ws' := MW cy b kd co 2 rw cl wr po dm sx aa dk fi bb cz hm se da sa bt oz) rfl ?_
      refine z_aload_n C dX8_put_38 0 rfl ?_
      refine z_get C hinX8 (ci := 10) rfl 0 rfl 0 (by decide) k0 rfl (v := vI 2) rfl dX8_put_39 ?_
      refine z_if_ne C (by decide) (tgt := 61) dX8_put_42 (by decide) (fun hc_3 => ?_) (fun hc_3 => ?_)
      rotate_left; · exact absurd hc_3 (by decide)
      refine z_vret C dX8_put_61 () ?_ ?_ ?_ (by decide) (by decide)
      · exact rfl
      · exact trivial
      · rw [if_pos (by omega), if_neg (by omega), if_neg (by omega), if_neg (by omega)]
    · refine z_iload_n C dX8_put_17 2 rfl ?_
      refine z_iload_n C dX8_put_18 3 rfl ?_
      refine z_icmp_ge C (by omega) (by omega) (tgt := 30) dX8_put_19 (by decide) (fun hc_4 => ?_) (fun hc_4 => ?_)
      · refine z_iconst C (z := 2) dX8_put_30 ?_
        refine z_goto C (tgt := 35) dX8_put_31 (by decide) ?_
        refine z_put C hinX8 tyX8 tyX8_ok nmX8 (ci := 10) rfl 0 rfl 0 (by decide) k0 rfl rfl rfl rfl (Nat.le_of_ble_eq_true rfl) dX8_put_35 (ws' := MW cy b kd co 2 rw cl wr po dm sx aa dk fi bb cz hm se da sa bt oz) rfl ?_
        refine z_aload_n C dX8_put_38 0 rfl ?_
        refine z_get C hinX8 (ci := 10) rfl 0 rfl 0 (by decide) k0 rfl (v := vI 2) rfl dX8_put_39 ?_
        refine z_if_ne C (by decide) (tgt := 61) dX8_put_42 (by decide) (fun hc_5 => ?_) (fun hc_5 => ?_)
        rotate_left; · exact absurd hc_5 (by decide)
        refine z_vret C dX8_put_61 () ?_ ?_ ?_ (by decide) (by decide)
        · exact rfl
        · exact trivial
        · rw [if_pos (by omega), if_neg (by omega), if_neg (by omega), if_neg (by omega)]
      · refine z_iload_n C dX8_put_22 3 rfl ?_
        refine z_aload_n C dX8_put_23 0 rfl ?_
        refine z_get C hinX8 (ci := 10) rfl 0 rfl 2 (by decide) k1 rfl (v := vI co) rfl dX8_put_24 ?_
        refine z_icmp_le C (by omega) (by omega) (tgt := 34) dX8_put_27 (by decide) (fun hc_6 => ?_) (fun hc_6 => ?_)
        · refine z_iconst C (z := 0) dX8_put_34 ?_
          refine z_put C hinX8 tyX8 tyX8_ok nmX8 (ci := 10) rfl 0 rfl 0 (by decide) k0 rfl rfl rfl rfl (Nat.le_of_ble_eq_true rfl) dX8_put_35 (ws' := MW cy b kd co 0 rw cl wr po dm sx aa dk fi bb cz hm se da sa bt oz) rfl ?_
          refine z_aload_n C dX8_put_38 0 rfl ?_
          refine z_get C hinX8 (ci := 10) rfl 0 rfl 0 (by decide) k0 rfl (v := vI 0) rfl dX8_put_39 ?_
          refine z_if_ne C (by decide) (tgt := 61) dX8_put_42 (by decide) (fun hc_7 => ?_) (fun hc_7 => ?_)
          · exact absurd hc_7 (by decide)
          refine z_aload_n C dX8_put_45 0 rfl ?_
          refine z_iload_n C dX8_put_46 1 rfl ?_
          refine z_iload_n C dX8_put_47 2 rfl ?_
          refine z_iload_n C dX8_put_48 3 rfl ?_
          refine z_iload C dX8_put_49 4 rfl ?_
          refine z_callV C (As := [vI r, vI x, vI t, vI (b2i d)]) (st := []) (c_X8_paint l D cy tw b kd co 0 rw cl wr po dm sx aa dk fi bb cz hm se da sa bt oz r x t d  (by omega) (by omega) (by omega) (by omega)) gX8_put_X8_paint kn_X8_paint rfl ⟨rfl, rfl, Nat.le_of_ble_eq_true rfl, Nat.le_of_ble_eq_true rfl⟩ 0 rfl (ci := 10) rfl rfl (Nat.le_of_ble_eq_true rfl) ⟨Nat.le_of_ble_eq_true rfl, Nat.le_of_ble_eq_true rfl⟩ dX8_put_51 (fun u8 hu8 => ?_)
          clear hu8; clear u8
          show V 0 0 (MW cy b kd co 0 rw cl wr po dm sx aa dk fi bb cz hm se (pnM da r x t d) sa bt oz) [(0, .ref (b 0)), (1, vI r), (2, vI x), (3, vI t), (4, vI (b2i d))] [] 54
          refine z_aload_n C dX8_put_54 0 rfl ?_
          refine z_get C hinX8 (ci := 10) rfl 0 rfl 8 (by decide) k2 rfl (v := .ref (b 5)) rfl dX8_put_55 ?_
          refine z_iload_n C dX8_put_58 1 rfl ?_
          refine z_iconst C (z := 0) dX8_put_59 ?_
          refine z_iast C 5 1 (g := sa) rfl rfl (by omega) (by omega) (by decide) dX8_put_60 (ws' := MW cy b kd co 0 rw cl wr po dm sx aa dk fi bb cz hm se (pnM da r x t d) (va_up sa (r : Int).toNat 0) bt oz) rfl ?_
          refine z_vret C dX8_put_61 () ?_ ?_ ?_ (by decide) (by decide)
          · exact rfl
          · exact trivial
          · rw [if_pos (by omega), if_pos (by omega), if_pos (by omega), if_pos (by omega)]
        · refine z_iconst C (z := 2) dX8_put_30 ?_
          refine z_goto C (tgt := 35) dX8_put_31 (by decide) ?_
          refine z_put C hinX8 tyX8 tyX8_ok nmX8 (ci := 10) rfl 0 rfl 0 (by decide) k0 rfl rfl rfl rfl (Nat.le_of_ble_eq_true rfl) dX8_put_35 (ws' := MW cy b kd co 2 rw cl wr po dm sx aa dk fi bb cz hm se da sa bt oz) rfl ?_
          refine z_aload_n C dX8_put_38 0 rfl ?_
          refine z_get C hinX8 (ci := 10) rfl 0 rfl 0 (by decide) k0 rfl (v := vI 2) rfl dX8_put_39 ?_
          refine z_if_ne C (by decide) (tgt := 61) dX8_put_42 (by decide) (fun hc_9 => ?_) (fun hc_9 => ?_)
          rotate_left; · exact absurd hc_9 (by decide)
          refine z_vret C dX8_put_61 () ?_ ?_ ?_ (by decide) (by decide)
          · exact rfl
          · exact trivial
          · rw [if_pos (by omega), if_neg (by omega), if_neg (by omega), if_neg (by omega)]
  · have hi := of_decide_eq_false ci
    refine z_iconst C (z := 1) dX8_put_9 ?_
    refine z_goto C (tgt := 35) dX8_put_10 (by decide) ?_
    refine z_put C hinX8 tyX8 tyX8_ok nmX8 (ci := 10) rfl 0 rfl 0 (by decide) k0 rfl rfl rfl rfl (Nat.le_of_ble_eq_true rfl) dX8_put_35 (ws' := MW cy b kd co 1 rw cl wr po dm sx aa dk fi bb cz hm se da sa bt oz) rfl ?_
    refine z_aload_n C dX8_put_38 0 rfl ?_
    refine z_get C hinX8 (ci := 10) rfl 0 rfl 0 (by decide) k0 rfl (v := vI 1) rfl dX8_put_39 ?_
    refine z_if_ne C (by decide) (tgt := 61) dX8_put_42 (by decide) (fun hc_10 => ?_) (fun hc_10 => ?_)
    rotate_left; · exact absurd hc_10 (by decide)
    refine z_vret C dX8_put_61 () ?_ ?_ ?_ (by decide) (by decide)
    · exact rfl
    · exact trivial
    · rw [if_neg (by omega), if_neg (by omega), if_neg (by omega)]
theorem kn_X8_bit : zKn yX8_bit wsX8_bit cX8_bit 3 (some .int) 2 := ⟨⟨_, rfl⟩, by decide +kernel, by decide +kernel, by decide +kernel⟩
set_option maxHeartbeats 400000 in
set_option maxRecDepth 100000 in
theorem c_X8_bit (l : Launch) (D : va_G) (cy : Nat → ClassId) (tw : Nat → Nat) (b : Nat → Nat) (kd : Int) (co : Int) (th : Int) (rw : Int) (cl : Int) (wr : Int) (po : Int) (dm : Int) (sx : Int) (aa : Int) (dk : Bool) (fi : Bool) (bb : Int) (cz : Int) (hm : Bool) (se : Nat → Bool) (da : Nat → Bool) (sa : Nat → Int) (bt : Nat → Int) (oz : Nat → Bool) (r : Int) (x : Int)  (hco : 1 ≤ co ∧ co ≤ 700) (hrw : 0 ≤ rw ∧ rw ≤ 24) (hyr : -2147483648 ≤ r ∧ r ≤ 2147483647) (hyx : -2147483648 ≤ x ∧ x ≤ 2147483647) : zMet l yX8_bit wsX8_bit { frames := 1, cells := 0, slots := 0, locals := 21 } D (zT cy) tw (MW cy b kd co th rw cl wr po dm sx aa dk fi bb cz hm se da sa bt oz) [.ref (b 0), vI r, vI x] 0 0 (S := Unit) (fun _ => some (vI (if 0 ≤ r ∧ r < rw ∧ 0 ≤ x ∧ x < co then b2i (!(da (700 * r + x).toNat == se 2)) else 0))) (fun _ => MW cy b kd co (if 0 ≤ r ∧ r < rw ∧ 0 ≤ x ∧ x < co then 0 else 1) rw cl wr po dm sx aa dk fi bb cz hm se da sa bt oz) (fun _ => True) := by
  refine z_met (cc := cX8_bit) (nL := 3) (ret := some .int) (by decide +kernel) rfl (Nat.le_of_ble_eq_true rfl) (lv := [(0, .ref (b 0)), (1, vI r), (2, vI x)]) rfl ?_
  intro V p_ e_ s_ m_ args_ below_ meth_ c_ A_ C hmn
  have hinX8 : ∀ w ∈ u_ws RX8 TX8 22, w ∈ wsX8_bit := by decide +kernel
  have k0 : Cond.fieldLink RX8 44 "FaxFilterModel" "thrown" "I" ∈ wsX8_bit := List.mem_of_getElem? (i := 2) rfl
  have k1 : Cond.fieldLink RX8 37 "FaxFilterModel" "columns" "I" ∈ wsX8_bit := List.mem_of_getElem? (i := 1) rfl
  have k2 : Cond.fieldLink RX8 20 "FaxFilterModel" "dark" "[Z" ∈ wsX8_bit := List.mem_of_getElem? (i := 3) rfl
  have k3 : Cond.fieldLink RX8 16 "FaxFilterModel" "settings" "[Z" ∈ wsX8_bit := List.mem_of_getElem? (i := 4) rfl
  refine z_aload_n C dX8_bit_0 0 rfl ?_
  refine z_aload_n C dX8_bit_1 0 rfl ?_
  refine z_iload_n C dX8_bit_2 1 rfl ?_
  refine z_callV C (As := [vI r]) (st := [.ref (b 0)]) (c_X8_isRow l D cy tw b kd co th rw cl wr po dm sx aa dk fi bb cz hm se da sa bt oz r  (by omega) (by omega)) gX8_bit_X8_isRow kn_X8_isRow rfl ⟨rfl, rfl, Nat.le_of_ble_eq_true rfl, Nat.le_of_ble_eq_true rfl⟩ 0 rfl (ci := 10) rfl rfl (Nat.le_of_ble_eq_true rfl) ⟨Nat.le_of_ble_eq_true rfl, Nat.le_of_ble_eq_true rfl⟩ dX8_bit_3 (fun u1 hu1 => ?_)
  clear hu1; clear u1
  show V 0 0 (MW cy b kd co th rw cl wr po dm sx aa dk fi bb cz hm se da sa bt oz) [(0, .ref (b 0)), (1, vI r), (2, vI x)] [vI (b2i (decide (0 ≤ r ∧ r < rw))), .ref (b 0)] 6
  refine z_ifz C (tgt := 25) dX8_bit_6 (by decide) (fun ci => ?_) (fun ci => ?_)
  · have hi := of_decide_eq_false ci
    refine z_iconst C (z := 1) dX8_bit_25 ?_
    refine z_put C hinX8 tyX8 tyX8_ok nmX8 (ci := 10) rfl 0 rfl 0 (by decide) k0 rfl rfl rfl rfl (Nat.le_of_ble_eq_true rfl) dX8_bit_26 (ws' := MW cy b kd co 1 rw cl wr po dm sx aa dk fi bb cz hm se da sa bt oz) rfl ?_
    refine z_aload_n C dX8_bit_29 0 rfl ?_
    refine z_get C hinX8 (ci := 10) rfl 0 rfl 0 (by decide) k0 rfl (v := vI 1) rfl dX8_bit_30 ?_
    refine z_if_le C (by decide) (tgt := 40) dX8_bit_33 (by decide) (fun hc_2 => ?_) (fun hc_2 => ?_)
    · exact absurd hc_2 (by decide)
    refine z_iconst C (z := 0) dX8_bit_36 ?_
    refine z_goto C (tgt := 66) dX8_bit_37 (by decide) ?_
    refine z_iret (x := 0) C dX8_bit_66 () ?_ ?_ ?_ (by decide) (by decide)
    · rw [if_neg (by omega)]
    · exact trivial
    · rw [if_neg (by omega)]
  · have hi := of_decide_eq_true ci
    refine z_iload_n C dX8_bit_9 2 rfl ?_
    refine z_if_lt C (by omega) (tgt := 25) dX8_bit_10 (by decide) (fun hc_3 => ?_) (fun hc_3 => ?_)
    · refine z_iconst C (z := 1) dX8_bit_25 ?_
      refine z_put C hinX8 tyX8 tyX8_ok nmX8 (ci := 10) rfl 0 rfl 0 (by decide) k0 rfl rfl rfl rfl (Nat.le_of_ble_eq_true rfl) dX8_bit_26 (ws' := MW cy b kd co 1 rw cl wr po dm sx aa dk fi bb cz hm se da sa bt oz) rfl ?_
      refine z_aload_n C dX8_bit_29 0 rfl ?_
      refine z_get C hinX8 (ci := 10) rfl 0 rfl 0 (by decide) k0 rfl (v := vI 1) rfl dX8_bit_30 ?_
      refine z_if_le C (by decide) (tgt := 40) dX8_bit_33 (by decide) (fun hc_4 => ?_) (fun hc_4 => ?_)
      · exact absurd hc_4 (by decide)
      refine z_iconst C (z := 0) dX8_bit_36 ?_
      refine z_goto C (tgt := 66) dX8_bit_37 (by decide) ?_
      refine z_iret (x := 0) C dX8_bit_66 () ?_ ?_ ?_ (by decide) (by decide)
      · rw [if_neg (by omega)]
      · exact trivial
      · rw [if_neg (by omega)]
    · refine z_iload_n C dX8_bit_13 2 rfl ?_
      refine z_aload_n C dX8_bit_14 0 rfl ?_
      refine z_get C hinX8 (ci := 10) rfl 0 rfl 2 (by decide) k1 rfl (v := vI co) rfl dX8_bit_15 ?_
      refine z_icmp_ge C (by omega) (by omega) (tgt := 25) dX8_bit_18 (by decide) (fun hc_5 => ?_) (fun hc_5 => ?_)
      · refine z_iconst C (z := 1) dX8_bit_25 ?_
        refine z_put C hinX8 tyX8 tyX8_ok nmX8 (ci := 10) rfl 0 rfl 0 (by decide) k0 rfl rfl rfl rfl (Nat.le_of_ble_eq_true rfl) dX8_bit_26 (ws' := MW cy b kd co 1 rw cl wr po dm sx aa dk fi bb cz hm se da sa bt oz) rfl ?_
        refine z_aload_n C dX8_bit_29 0 rfl ?_
        refine z_get C hinX8 (ci := 10) rfl 0 rfl 0 (by decide) k0 rfl (v := vI 1) rfl dX8_bit_30 ?_
        refine z_if_le C (by decide) (tgt := 40) dX8_bit_33 (by decide) (fun hc_6 => ?_) (fun hc_6 => ?_)
        · exact absurd hc_6 (by decide)
        refine z_iconst C (z := 0) dX8_bit_36 ?_
        refine z_goto C (tgt := 66) dX8_bit_37 (by decide) ?_
        refine z_iret (x := 0) C dX8_bit_66 () ?_ ?_ ?_ (by decide) (by decide)
        · rw [if_neg (by omega)]
        · exact trivial
        · rw [if_neg (by omega)]
      · refine z_iconst C (z := 0) dX8_bit_21 ?_
        refine z_goto C (tgt := 26) dX8_bit_22 (by decide) ?_
        refine z_put C hinX8 tyX8 tyX8_ok nmX8 (ci := 10) rfl 0 rfl 0 (by decide) k0 rfl rfl rfl rfl (Nat.le_of_ble_eq_true rfl) dX8_bit_26 (ws' := MW cy b kd co 0 rw cl wr po dm sx aa dk fi bb cz hm se da sa bt oz) rfl ?_
        refine z_aload_n C dX8_bit_29 0 rfl ?_
        refine z_get C hinX8 (ci := 10) rfl 0 rfl 0 (by decide) k0 rfl (v := vI 0) rfl dX8_bit_30 ?_
        refine z_if_le C (by decide) (tgt := 40) dX8_bit_33 (by decide) (fun hc_7 => ?_) (fun hc_7 => ?_)
        rotate_left; · exact absurd hc_7 (by decide)
        refine z_aload_n C dX8_bit_40 0 rfl ?_
        refine z_get C hinX8 (ci := 10) rfl 0 rfl 7 (by decide) k2 rfl (v := .ref (b 4)) rfl dX8_bit_41 ?_
        refine z_sipush C (z := 700) dX8_bit_44 (by decide) ?_
        refine z_iload_n C dX8_bit_47 1 rfl ?_
        refine z_imul C dX8_bit_48 ?_
        refine z_iload_n C dX8_bit_49 2 rfl ?_
        refine z_iadd C dX8_bit_50 ?_
        refine z_zald C 4 3 (g := da) rfl rfl (by omega) (by omega) (by decide) dX8_bit_51 ?_
        refine z_aload_n C dX8_bit_52 0 rfl ?_
        refine z_get C hinX8 (ci := 10) rfl 0 rfl 5 (by decide) k3 rfl (v := .ref (b 3)) rfl dX8_bit_53 ?_
        refine z_iconst C (z := 2) dX8_bit_56 ?_
        refine z_zald C 3 3 (g := se) rfl rfl (by omega) (by omega) (by decide) dX8_bit_57 ?_
        have h01 := b2i_01 (da (700 * r + x).toNat)
        have h02 := b2i_01 (se (2 : Int).toNat)
        refine z_icmp_eq C (by omega) (by omega) (tgt := 65) dX8_bit_58 (by decide) (fun cb => ?_) (fun cb => ?_)
        · refine z_iconst C (z := 0) dX8_bit_65 ?_
          refine z_iret (x := 0) C dX8_bit_66 () ?_ ?_ ?_ (by decide) (by decide)
          · rw [if_pos (by omega), show da (700 * r + x).toNat = se 2 from b2i_inj.mp cb, beq_self_eq_true]; rfl
          · exact trivial
          · rw [if_pos (by omega)]
        · refine z_iconst C (z := 1) dX8_bit_61 ?_
          refine z_goto C (tgt := 66) dX8_bit_62 (by decide) ?_
          refine z_iret (x := 1) C dX8_bit_66 () ?_ ?_ ?_ (by decide) (by decide)
          · rw [if_pos (by omega), show (da (700 * r + x).toNat == se 2) = false from beq_eq_false_iff_ne.mpr (fun z => cb (b2i_inj.mpr z))]; rfl
          · exact trivial
          · rw [if_pos (by omega)]
theorem kn_X8_at : zKn yX8_at wsX8_at cX8_at 3 (some .boolean) 2 := ⟨⟨_, rfl⟩, by decide +kernel, by decide +kernel, by decide +kernel⟩
set_option maxHeartbeats 400000 in
set_option maxRecDepth 100000 in
theorem c_X8_at (l : Launch) (D : va_G) (cy : Nat → ClassId) (tw : Nat → Nat) (b : Nat → Nat) (kd : Int) (co : Int) (th : Int) (rw : Int) (cl : Int) (wr : Int) (po : Int) (dm : Int) (sx : Int) (aa : Int) (dk : Bool) (fi : Bool) (bb : Int) (cz : Int) (hm : Bool) (se : Nat → Bool) (da : Nat → Bool) (sa : Nat → Int) (bt : Nat → Int) (oz : Nat → Bool) (r : Int) (x : Int)  (hr : -50 ≤ r ∧ r < 24) (hx : -50 ≤ x ∧ x < 700) : zMet l yX8_at wsX8_at { frames := 0, cells := 0, slots := 0, locals := 0 } D (zT cy) tw (MW cy b kd co th rw cl wr po dm sx aa dk fi bb cz hm se da sa bt oz) [.ref (b 0), vI r, vI x] 0 0 (S := Unit) (fun _ => some (vI (b2i (pd da r x)))) (fun _ => MW cy b kd co th rw cl wr po dm sx aa dk fi bb cz hm se da sa bt oz) (fun _ => True) := by
  refine z_met (cc := cX8_at) (nL := 3) (ret := some .boolean) (by decide +kernel) rfl (Nat.le_of_ble_eq_true rfl) (lv := [(0, .ref (b 0)), (1, vI r), (2, vI x)]) rfl ?_
  intro V p_ e_ s_ m_ args_ below_ meth_ c_ A_ C hmn
  have hinX8 : ∀ w ∈ u_ws RX8 TX8 22, w ∈ wsX8_at := by decide +kernel
  have k0 : Cond.fieldLink RX8 20 "FaxFilterModel" "dark" "[Z" ∈ wsX8_at := List.mem_of_getElem? (i := 1) rfl
  refine z_iload_n C dX8_at_0 1 rfl ?_
  refine z_if_lt C (by omega) (tgt := 27) dX8_at_1 (by decide) (fun hc_1 => ?_) (fun hc_1 => ?_)
  · refine z_iconst C (z := 0) dX8_at_27 ?_
    refine z_zret (b := false) C dX8_at_28 () ?_ ?_ ?_ (by decide) (by decide)
    · rw [pd_out (by omega)]
    · exact trivial
    · exact rfl
  · refine z_iload_n C dX8_at_4 2 rfl ?_
    refine z_if_lt C (by omega) (tgt := 27) dX8_at_5 (by decide) (fun hc_2 => ?_) (fun hc_2 => ?_)
    · refine z_iconst C (z := 0) dX8_at_27 ?_
      refine z_zret (b := false) C dX8_at_28 () ?_ ?_ ?_ (by decide) (by decide)
      · rw [pd_out (by omega)]
      · exact trivial
      · exact rfl
    · refine z_aload_n C dX8_at_8 0 rfl ?_
      refine z_get C hinX8 (ci := 10) rfl 0 rfl 7 (by decide) k0 rfl (v := .ref (b 4)) rfl dX8_at_9 ?_
      refine z_sipush C (z := 700) dX8_at_12 (by decide) ?_
      refine z_iload_n C dX8_at_15 1 rfl ?_
      refine z_imul C dX8_at_16 ?_
      refine z_iload_n C dX8_at_17 2 rfl ?_
      refine z_iadd C dX8_at_18 ?_
      refine z_zald C 4 3 (g := da) rfl rfl (by omega) (by omega) (by decide) dX8_at_19 ?_
      refine z_ifz C (tgt := 27) dX8_at_20 (by decide) (fun cb => ?_) (fun cb => ?_)
      · refine z_iconst C (z := 0) dX8_at_27 ?_
        refine z_zret (b := false) C dX8_at_28 () ?_ ?_ ?_ (by decide) (by decide)
        · rw [pd_in (by omega), cb]
        · exact trivial
        · exact rfl
      · refine z_iconst C (z := 1) dX8_at_23 ?_
        refine z_goto C (tgt := 28) dX8_at_24 (by decide) ?_
        refine z_zret (b := true) C dX8_at_28 () ?_ ?_ ?_ (by decide) (by decide)
        · rw [pd_in (by omega), cb]
        · exact trivial
        · exact rfl
theorem kn_X8_isChange : zKn yX8_isChange wsX8_isChange cX8_isChange 3 (some .boolean) 2 := ⟨⟨_, rfl⟩, by decide +kernel, by decide +kernel, by decide +kernel⟩
set_option maxHeartbeats 400000 in
set_option maxRecDepth 100000 in
theorem c_X8_isChange (l : Launch) (D : va_G) (cy : Nat → ClassId) (tw : Nat → Nat) (b : Nat → Nat) (kd : Int) (co : Int) (th : Int) (rw : Int) (cl : Int) (wr : Int) (po : Int) (dm : Int) (sx : Int) (aa : Int) (dk : Bool) (fi : Bool) (bb : Int) (cz : Int) (hm : Bool) (se : Nat → Bool) (da : Nat → Bool) (sa : Nat → Int) (bt : Nat → Int) (oz : Nat → Bool) (r : Int) (x : Int)  (hr : -50 ≤ r ∧ r < 24) (hx : -40 ≤ x ∧ x < 700) : zMet l yX8_isChange wsX8_isChange { frames := 1, cells := 0, slots := 0, locals := 22 } D (zT cy) tw (MW cy b kd co th rw cl wr po dm sx aa dk fi bb cz hm se da sa bt oz) [.ref (b 0), vI r, vI x] 0 0 (S := Unit) (fun _ => some (vI (b2i (chg (pd da r) x)))) (fun _ => MW cy b kd co th rw cl wr po dm sx aa dk fi bb cz hm se da sa bt oz) (fun _ => True) := by
  refine z_met (cc := cX8_isChange) (nL := 3) (ret := some .boolean) (by decide +kernel) rfl (Nat.le_of_ble_eq_true rfl) (lv := [(0, .ref (b 0)), (1, vI r), (2, vI x)]) rfl ?_
  intro V p_ e_ s_ m_ args_ below_ meth_ c_ A_ C hmn
  refine z_aload_n C dX8_isChange_0 0 rfl ?_
  refine z_iload_n C dX8_isChange_1 1 rfl ?_
  refine z_iload_n C dX8_isChange_2 2 rfl ?_
  refine z_callV C (As := [vI r, vI x]) (st := []) (c_X8_at l D cy tw b kd co th rw cl wr po dm sx aa dk fi bb cz hm se da sa bt oz r x  (by omega) (by omega)) gX8_isChange_X8_at kn_X8_at rfl ⟨rfl, rfl, Nat.le_of_ble_eq_true rfl, Nat.le_of_ble_eq_true rfl⟩ 0 rfl (ci := 10) rfl rfl (Nat.le_of_ble_eq_true rfl) ⟨Nat.le_of_ble_eq_true rfl, Nat.le_of_ble_eq_true rfl⟩ dX8_isChange_3 (fun u1 hu1 => ?_)
  clear hu1; clear u1
  show V 0 0 (MW cy b kd co th rw cl wr po dm sx aa dk fi bb cz hm se da sa bt oz) [(0, .ref (b 0)), (1, vI r), (2, vI x)] [vI (b2i (pd da r x))] 6
  refine z_aload_n C dX8_isChange_6 0 rfl ?_
  refine z_iload_n C dX8_isChange_7 1 rfl ?_
  refine z_iload_n C dX8_isChange_8 2 rfl ?_
  refine z_iconst C (z := 1) dX8_isChange_9 ?_
  refine z_isub C dX8_isChange_10 ?_
  refine z_callV C (As := [vI r, vI (x - 1)]) (st := [vI (b2i (pd da r x))]) (c_X8_at l D cy tw b kd co th rw cl wr po dm sx aa dk fi bb cz hm se da sa bt oz r (x - 1)  (by omega) (by omega)) gX8_isChange_X8_at kn_X8_at rfl ⟨rfl, rfl, Nat.le_of_ble_eq_true rfl, Nat.le_of_ble_eq_true rfl⟩ 0 rfl (ci := 10) rfl rfl (Nat.le_of_ble_eq_true rfl) ⟨Nat.le_of_ble_eq_true rfl, Nat.le_of_ble_eq_true rfl⟩ dX8_isChange_11 (fun u2 hu2 => ?_)
  clear hu2; clear u2
  show V 0 0 (MW cy b kd co th rw cl wr po dm sx aa dk fi bb cz hm se da sa bt oz) [(0, .ref (b 0)), (1, vI r), (2, vI x)] [vI (b2i (pd da r (x - 1))), vI (b2i (pd da r x))] 14
  have h01 := b2i_01 (pd da r x)
  have h02 := b2i_01 (pd da r (x - 1))
  refine z_icmp_eq C (by omega) (by omega) (tgt := 21) dX8_isChange_14 (by decide) (fun cb => ?_) (fun cb => ?_)
  · refine z_iconst C (z := 0) dX8_isChange_21 ?_
    refine z_zret (b := false) C dX8_isChange_22 () ?_ ?_ ?_ (by decide) (by decide)
    · rw [chg, show pd da r x = pd da r (x - 1) from b2i_inj.mp cb, beq_self_eq_true]; rfl
    · exact trivial
    · exact rfl
  · refine z_iconst C (z := 1) dX8_isChange_17 ?_
    refine z_goto C (tgt := 22) dX8_isChange_18 (by decide) ?_
    refine z_zret (b := true) C dX8_isChange_22 () ?_ ?_ ?_ (by decide) (by decide)
    · rw [chg, show (pd da r x == pd da r (x - 1)) = false from beq_eq_false_iff_ne.mpr (fun z => cb (b2i_inj.mpr z))]; rfl
    · exact trivial
    · exact rfl
theorem kn_X8_runsOf : zKn yX8_runsOf wsX8_runsOf cX8_runsOf 4 (some .int) 1 := ⟨⟨_, rfl⟩, by decide +kernel, by decide +kernel, by decide +kernel⟩
set_option maxHeartbeats 400000 in
set_option maxRecDepth 100000 in
theorem c_X8_runsOf (l : Launch) (D : va_G) (cy : Nat → ClassId) (tw : Nat → Nat) (b : Nat → Nat) (kd : Int) (co : Int) (th : Int) (rw : Int) (cl : Int) (wr : Int) (po : Int) (dm : Int) (sx : Int) (aa : Int) (dk : Bool) (fi : Bool) (bb : Int) (cz : Int) (hm : Bool) (se : Nat → Bool) (da : Nat → Bool) (sa : Nat → Int) (bt : Nat → Int) (oz : Nat → Bool) (r : Int)  (hco : 1 ≤ co ∧ co ≤ 700) (hr : 0 ≤ r ∧ r < 24) : zMet l yX8_runsOf wsX8_runsOf { frames := 2, cells := 0, slots := 0, locals := 44 } D (zT cy) tw (MW cy b kd co th rw cl wr po dm sx aa dk fi bb cz hm se da sa bt oz) [.ref (b 0), vI r] 0 0 (S := Unit) (fun _ => some (vI (1 + cntC (pd da r) (co : Int).toNat))) (fun _ => MW cy b kd co th rw cl wr po dm sx aa dk fi bb cz hm se da sa bt oz) (fun _ => True) := by
  refine z_met (cc := cX8_runsOf) (nL := 4) (ret := some .int) (by decide +kernel) rfl (Nat.le_of_ble_eq_true rfl) (lv := [(0, .ref (b 0)), (1, vI r)]) rfl ?_
  intro V p_ e_ s_ m_ args_ below_ meth_ c_ A_ C hmn
  have hinX8 : ∀ w ∈ u_ws RX8 TX8 22, w ∈ wsX8_runsOf := by decide +kernel
  have k0 : Cond.fieldLink RX8 37 "FaxFilterModel" "columns" "I" ∈ wsX8_runsOf := List.mem_of_getElem? (i := 1) rfl
  refine z_iconst C (z := 1) dX8_runsOf_0 ?_
  refine z_istore_n C (lv' := [(2, vI 1), (0, .ref (b 0)), (1, vI r)]) dX8_runsOf_1 rfl (by decide) rfl ?_
  refine z_iconst C (z := 0) dX8_runsOf_2 ?_
  refine z_istore_n C (lv' := [(3, vI 0), (2, vI 1), (0, .ref (b 0)), (1, vI r)]) dX8_runsOf_3 rfl (by decide) rfl ?_
  have J4 : ∀ (f : Nat) (n : Int) (i : Int), (0 ≤ i ∧ i ≤ co) → (n = 1 + cntC (pd da r) i.toNat) → (co - i).toNat < f → V 0 0 (MW cy b kd co th rw cl wr po dm sx aa dk fi bb cz hm se da sa bt oz) [(0, .ref (b 0)), (1, vI r), (2, vI n), (3, vI i)] [] 4 := by
    intro f
    induction f with
    | zero => intro n i i0 i1 hf; exact absurd hf (Nat.not_lt_zero _)
    | succ f ih =>
      intro n i i0 i1 hf
      have hc := cntC_rg (pd da r) i.toNat
      refine z_iload_n C dX8_runsOf_4 3 rfl ?_
      refine z_aload_n C dX8_runsOf_5 0 rfl ?_
      refine z_get C hinX8 (ci := 10) rfl 0 rfl 2 (by decide) k0 rfl (v := vI co) rfl dX8_runsOf_6 ?_
      refine z_icmp_ge C (by omega) (by omega) (tgt := 35) dX8_runsOf_9 (by decide) (fun hc_1 => ?_) (fun hc_1 => ?_)
      · refine z_iload_n C dX8_runsOf_35 2 rfl ?_
        refine z_iret (x := n) C dX8_runsOf_36 () ?_ ?_ ?_ (by decide) (by decide)
        · rw [i1, show i = co by omega]
        · exact trivial
        · exact rfl
      · refine z_iload_n C dX8_runsOf_12 2 rfl ?_
        refine z_aload_n C dX8_runsOf_13 0 rfl ?_
        refine z_iload_n C dX8_runsOf_14 1 rfl ?_
        refine z_iload_n C dX8_runsOf_15 3 rfl ?_
        refine z_callV C (As := [vI r, vI i]) (st := [vI n]) (c_X8_isChange l D cy tw b kd co th rw cl wr po dm sx aa dk fi bb cz hm se da sa bt oz r i  (by omega) (by omega)) gX8_runsOf_X8_isChange kn_X8_isChange rfl ⟨rfl, rfl, Nat.le_of_ble_eq_true rfl, Nat.le_of_ble_eq_true rfl⟩ 0 rfl (ci := 10) rfl rfl (Nat.le_of_ble_eq_true rfl) ⟨Nat.le_of_ble_eq_true rfl, Nat.le_of_ble_eq_true rfl⟩ dX8_runsOf_16 (fun u2 hu2 => ?_)
        clear hu2; clear u2
        show V 0 0 (MW cy b kd co th rw cl wr po dm sx aa dk fi bb cz hm se da sa bt oz) [(0, .ref (b 0)), (1, vI r), (2, vI n), (3, vI i)] [vI (b2i (chg (pd da r) i)), vI n] 19
        refine z_ifz C (tgt := 26) dX8_runsOf_19 (by decide) (fun cb => ?_) (fun cb => ?_)
        · refine z_iconst C (z := 0) dX8_runsOf_26 ?_
          refine z_iadd C dX8_runsOf_27 ?_
          refine z_istore_n C (lv' := [(2, vI (n + 0)), (0, .ref (b 0)), (1, vI r), (3, vI i)]) dX8_runsOf_28 rfl (by decide) rfl ?_
          refine z_iinc C (lv' := [(3, vI (i + 1)), (2, vI (n + 0)), (0, .ref (b 0)), (1, vI r)]) dX8_runsOf_29 3 rfl (by decide) rfl ?_
          refine z_goto C (tgt := 4) dX8_runsOf_32 (by decide) ?_
          refine z_lsub C [2, 3, 1, 0] rfl ?_
          exact ih (n + 0) (i + 1) (by omega) (by rw [show (i + 1).toNat = i.toNat + 1 by omega, cntC, show ((i.toNat : Nat) : Int) = i by omega, cb]; first | (rw [b2i_t]; omega) | (rw [b2i_f]; omega)) (by omega)
        · refine z_iconst C (z := 1) dX8_runsOf_22 ?_
          refine z_goto C (tgt := 27) dX8_runsOf_23 (by decide) ?_
          refine z_iadd C dX8_runsOf_27 ?_
          refine z_istore_n C (lv' := [(2, vI (n + 1)), (0, .ref (b 0)), (1, vI r), (3, vI i)]) dX8_runsOf_28 rfl (by decide) rfl ?_
          refine z_iinc C (lv' := [(3, vI (i + 1)), (2, vI (n + 1)), (0, .ref (b 0)), (1, vI r)]) dX8_runsOf_29 3 rfl (by decide) rfl ?_
          refine z_goto C (tgt := 4) dX8_runsOf_32 (by decide) ?_
          refine z_lsub C [2, 3, 1, 0] rfl ?_
          exact ih (n + 1) (i + 1) (by omega) (by rw [show (i + 1).toNat = i.toNat + 1 by omega, cntC, show ((i.toNat : Nat) : Int) = i by omega, cb]; first | (rw [b2i_t]; omega) | (rw [b2i_f]; omega)) (by omega)
  refine z_lsub C [2, 3, 1, 0] rfl ?_
  exact J4 _ 1 0 (by omega) (rfl) (Nat.lt_succ_self _)
