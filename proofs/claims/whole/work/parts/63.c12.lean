theorem ne_not {a b : Bool} (h : ¬ b2i a = b2i b) : a = !b := by cases a <;> cases b <;> first | rfl | exact absurd rfl h
theorem eq_not {a b : Bool} (h : b2i a = b2i b) : ¬ a = !b := by cases a <;> cases b <;> first | decide | exact absurd h (by decide)
theorem dec_b2i {a b : Int} : b2i (decide (a = b)) = if a = b then 1 else 0 := by by_cases h : a = b <;> simp [b2i, h]
theorem kn_X8_hasMarks : zKn yX8_hasMarks wsX8_hasMarks cX8_hasMarks 1 (some .boolean) 0 := ⟨⟨_, rfl⟩, by decide +kernel, by decide +kernel, by decide +kernel⟩
set_option maxHeartbeats 400000 in
set_option maxRecDepth 100000 in
theorem c_X8_hasMarks (l : Launch) (D : va_G) (cy : Nat → ClassId) (tw : Nat → Nat) (b : Nat → Nat) (kd : Int) (co : Int) (th : Int) (rw : Int) (cl : Int) (wr : Int) (po : Int) (dm : Int) (sx : Int) (aa : Int) (dk : Bool) (fi : Bool) (bb : Int) (cz : Int) (hm : Bool) (se : Nat → Bool) (da : Nat → Bool) (sa : Nat → Int) (bt : Nat → Int) (oz : Nat → Bool)   (hk : 0 ≤ kd ∧ kd ≤ 2) : zMet l yX8_hasMarks wsX8_hasMarks { frames := 0, cells := 0, slots := 0, locals := 0 } D (zT cy) tw (MW cy b kd co th rw cl wr po dm sx aa dk fi bb cz hm se da sa bt oz) [.ref (b 0)] 0 0 (S := Unit) (fun _ => some (vI (b2i (hasMk kd (se 0))))) (fun _ => MW cy b kd co th rw cl wr po dm sx aa dk fi bb cz hm se da sa bt oz) (fun _ => True) := by
  refine z_met (cc := cX8_hasMarks) (nL := 1) (ret := some .boolean) (by decide +kernel) rfl (Nat.le_of_ble_eq_true rfl) (lv := [(0, .ref (b 0))]) rfl ?_
  intro V p_ e_ s_ m_ args_ below_ meth_ c_ A_ C hmn
  have hinX8 : ∀ w ∈ u_ws RX8 TX8 22, w ∈ wsX8_hasMarks := by decide +kernel
  have k0 : Cond.fieldLink RX8 33 "FaxFilterModel" "kind" "I" ∈ wsX8_hasMarks := List.mem_of_getElem? (i := 1) rfl
  have k1 : Cond.fieldLink RX8 16 "FaxFilterModel" "settings" "[Z" ∈ wsX8_hasMarks := List.mem_of_getElem? (i := 2) rfl
  refine z_aload_n C dX8_hasMarks_0 0 rfl ?_
  refine z_get C hinX8 (ci := 10) rfl 0 rfl 1 (by decide) k0 rfl (v := vI kd) rfl dX8_hasMarks_1 ?_
  refine z_iconst C (z := 1) dX8_hasMarks_4 ?_
  refine z_icmp_eq C (by omega) (by decide) (tgt := 24) dX8_hasMarks_5 (by decide) (fun hc_1 => ?_) (fun hc_1 => ?_)
  · refine z_iconst C (z := 1) dX8_hasMarks_24 ?_
    refine z_goto C (tgt := 29) dX8_hasMarks_25 (by decide) ?_
    refine z_zret (b := true) C dX8_hasMarks_29 () ?_ ?_ ?_ (by decide) (by decide)
    · rw [hasMk, decide_eq_true (by omega)]; rfl
    · exact trivial
    · exact rfl
  · refine z_aload_n C dX8_hasMarks_8 0 rfl ?_
    refine z_get C hinX8 (ci := 10) rfl 0 rfl 1 (by decide) k0 rfl (v := vI kd) rfl dX8_hasMarks_9 ?_
    refine z_if_ne C (by omega) (tgt := 28) dX8_hasMarks_12 (by decide) (fun hc_2 => ?_) (fun hc_2 => ?_)
    · refine z_iconst C (z := 0) dX8_hasMarks_28 ?_
      refine z_zret (b := false) C dX8_hasMarks_29 () ?_ ?_ ?_ (by decide) (by decide)
      · rw [hasMk, decide_eq_false (by omega), decide_eq_false (by omega)]; rfl
      · exact trivial
      · exact rfl
    · refine z_aload_n C dX8_hasMarks_15 0 rfl ?_
      refine z_get C hinX8 (ci := 10) rfl 0 rfl 5 (by decide) k1 rfl (v := .ref (b 3)) rfl dX8_hasMarks_16 ?_
      refine z_iconst C (z := 0) dX8_hasMarks_19 ?_
      refine z_zald C 3 3 (g := se) rfl rfl (by omega) (by omega) (by decide) dX8_hasMarks_20 ?_
      refine z_ifz C (tgt := 28) dX8_hasMarks_21 (by decide) (fun cb => ?_) (fun cb => ?_)
      · refine z_iconst C (z := 0) dX8_hasMarks_28 ?_
        refine z_zret (b := false) C dX8_hasMarks_29 () ?_ ?_ ?_ (by decide) (by decide)
        · rw [hasMk, decide_eq_false (by omega), decide_eq_true (by omega), show se 0 = _ from cb]; rfl
        · exact trivial
        · exact rfl
      · refine z_iconst C (z := 1) dX8_hasMarks_24 ?_
        refine z_goto C (tgt := 29) dX8_hasMarks_25 (by decide) ?_
        refine z_zret (b := true) C dX8_hasMarks_29 () ?_ ?_ ?_ (by decide) (by decide)
        · rw [hasMk, decide_eq_false (by omega), decide_eq_true (by omega), show se 0 = _ from cb]; rfl
        · exact trivial
        · exact rfl
theorem kn_X8_isPlain : zKn yX8_isPlain wsX8_isPlain cX8_isPlain 2 (some .boolean) 1 := ⟨⟨_, rfl⟩, by decide +kernel, by decide +kernel, by decide +kernel⟩
set_option maxHeartbeats 400000 in
set_option maxRecDepth 100000 in
theorem c_X8_isPlain (l : Launch) (D : va_G) (cy : Nat → ClassId) (tw : Nat → Nat) (b : Nat → Nat) (kd : Int) (co : Int) (th : Int) (rw : Int) (cl : Int) (wr : Int) (po : Int) (dm : Int) (sx : Int) (aa : Int) (dk : Bool) (fi : Bool) (bb : Int) (cz : Int) (hm : Bool) (se : Nat → Bool) (da : Nat → Bool) (sa : Nat → Int) (bt : Nat → Int) (oz : Nat → Bool) (r : Int)  (hk : 0 ≤ kd ∧ kd ≤ 2) (hr : 0 ≤ r ∧ r < 24) : zMet l yX8_isPlain wsX8_isPlain { frames := 0, cells := 0, slots := 0, locals := 0 } D (zT cy) tw (MW cy b kd co th rw cl wr po dm sx aa dk fi bb cz hm se da sa bt oz) [.ref (b 0), vI r] 0 0 (S := Unit) (fun _ => some (vI (b2i (isPl kd r)))) (fun _ => MW cy b kd co th rw cl wr po dm sx aa dk fi bb cz hm se da sa bt oz) (fun _ => True) := by
  refine z_met (cc := cX8_isPlain) (nL := 2) (ret := some .boolean) (by decide +kernel) rfl (Nat.le_of_ble_eq_true rfl) (lv := [(0, .ref (b 0)), (1, vI r)]) rfl ?_
  intro V p_ e_ s_ m_ args_ below_ meth_ c_ A_ C hmn
  have hinX8 : ∀ w ∈ u_ws RX8 TX8 22, w ∈ wsX8_isPlain := by decide +kernel
  have k0 : Cond.fieldLink RX8 33 "FaxFilterModel" "kind" "I" ∈ wsX8_isPlain := List.mem_of_getElem? (i := 1) rfl
  refine z_aload_n C dX8_isPlain_0 0 rfl ?_
  refine z_get C hinX8 (ci := 10) rfl 0 rfl 1 (by decide) k0 rfl (v := vI kd) rfl dX8_isPlain_1 ?_
  refine z_if_eq C (by omega) (tgt := 21) dX8_isPlain_4 (by decide) (fun hc_1 => ?_) (fun hc_1 => ?_)
  · refine z_iconst C (z := 1) dX8_isPlain_21 ?_
    refine z_goto C (tgt := 26) dX8_isPlain_22 (by decide) ?_
    refine z_zret (b := true) C dX8_isPlain_26 () ?_ ?_ ?_ (by decide) (by decide)
    · rw [isPl, decide_eq_true (by omega)]; rfl
    · exact trivial
    · exact rfl
  · refine z_aload_n C dX8_isPlain_7 0 rfl ?_
    refine z_get C hinX8 (ci := 10) rfl 0 rfl 1 (by decide) k0 rfl (v := vI kd) rfl dX8_isPlain_8 ?_
    refine z_iconst C (z := 1) dX8_isPlain_11 ?_
    refine z_icmp_ne C (by omega) (by decide) (tgt := 25) dX8_isPlain_12 (by decide) (fun hc_2 => ?_) (fun hc_2 => ?_)
    · refine z_iconst C (z := 0) dX8_isPlain_25 ?_
      refine z_zret (b := false) C dX8_isPlain_26 () ?_ ?_ ?_ (by decide) (by decide)
      · rw [isPl, decide_eq_false (by omega), decide_eq_false (by omega)]; rfl
      · exact trivial
      · exact rfl
    · refine z_iload_n C dX8_isPlain_15 1 rfl ?_
      refine z_iconst C (z := 4) dX8_isPlain_16 ?_
      refine z_irem C dX8_isPlain_17 (by omega) (by decide) ?_
      refine z_if_ne C (by omega) (tgt := 25) dX8_isPlain_18 (by decide) (fun hc_3 => ?_) (fun hc_3 => ?_)
      · refine z_iconst C (z := 0) dX8_isPlain_25 ?_
        refine z_zret (b := false) C dX8_isPlain_26 () ?_ ?_ ?_ (by decide) (by decide)
        · rw [isPl, decide_eq_false (by omega), decide_eq_true (by omega), decide_eq_false (by omega)]; rfl
        · exact trivial
        · exact rfl
      · refine z_iconst C (z := 1) dX8_isPlain_21 ?_
        refine z_goto C (tgt := 26) dX8_isPlain_22 (by decide) ?_
        refine z_zret (b := true) C dX8_isPlain_26 () ?_ ?_ ?_ (by decide) (by decide)
        · rw [isPl, decide_eq_false (by omega), decide_eq_true (by omega), decide_eq_true (by omega)]; rfl
        · exact trivial
        · exact rfl
theorem kn_X8_begin : zKn yX8_begin wsX8_begin cX8_begin 1 (none) 0 := ⟨⟨_, rfl⟩, by decide +kernel, by decide +kernel, by decide +kernel⟩
set_option maxHeartbeats 400000 in
set_option maxRecDepth 100000 in
theorem c_X8_begin (l : Launch) (D : va_G) (cy : Nat → ClassId) (tw : Nat → Nat) (b : Nat → Nat) (kd : Int) (co : Int) (th : Int) (rw : Int) (cl : Int) (wr : Int) (po : Int) (dm : Int) (sx : Int) (aa : Int) (dk : Bool) (fi : Bool) (bb : Int) (cz : Int) (hm : Bool) (se : Nat → Bool) (da : Nat → Bool) (sa : Nat → Int) (bt : Nat → Int) (oz : Nat → Bool)    : zMet l yX8_begin wsX8_begin { frames := 0, cells := 0, slots := 0, locals := 0 } D (zT cy) tw (MW cy b kd co th rw cl wr po dm sx aa dk fi bb cz hm se da sa bt oz) [.ref (b 0)] 0 0 (S := Unit) (fun _ => none) (fun _ => MW cy b kd co th rw cl wr po dm sx 0 false true bb cz hm se da sa bt oz) (fun _ => True) := by
  refine z_met (cc := cX8_begin) (nL := 1) (ret := none) (by decide +kernel) rfl (Nat.le_of_ble_eq_true rfl) (lv := [(0, .ref (b 0))]) rfl ?_
  intro V p_ e_ s_ m_ args_ below_ meth_ c_ A_ C hmn
  have hinX8 : ∀ w ∈ u_ws RX8 TX8 22, w ∈ wsX8_begin := by decide +kernel
  have k0 : Cond.fieldLink RX8 121 "FaxFilterModel" "a" "I" ∈ wsX8_begin := List.mem_of_getElem? (i := 1) rfl
  have k1 : Cond.fieldLink RX8 127 "FaxFilterModel" "isDark" "Z" ∈ wsX8_begin := List.mem_of_getElem? (i := 2) rfl
  have k2 : Cond.fieldLink RX8 117 "FaxFilterModel" "isFirst" "Z" ∈ wsX8_begin := List.mem_of_getElem? (i := 3) rfl
  refine z_aload_n C dX8_begin_0 0 rfl ?_
  refine z_iconst C (z := 0) dX8_begin_1 ?_
  refine z_put C hinX8 tyX8 tyX8_ok nmX8 (ci := 10) rfl 0 rfl 16 (by decide) k0 rfl rfl rfl rfl (Nat.le_of_ble_eq_true rfl) dX8_begin_2 (ws' := MW cy b kd co th rw cl wr po dm sx 0 dk fi bb cz hm se da sa bt oz) rfl ?_
  refine z_aload_n C dX8_begin_5 0 rfl ?_
  refine z_iconst C (z := 0) dX8_begin_6 ?_
  refine z_put C hinX8 tyX8 tyX8_ok nmX8 (ci := 10) rfl 0 rfl 17 (by decide) k1 rfl rfl (z_narZ false).1 (z_narZ false).2 (Nat.le_of_ble_eq_true rfl) dX8_begin_7 (ws' := MW cy b kd co th rw cl wr po dm sx 0 false fi bb cz hm se da sa bt oz) rfl ?_
  refine z_aload_n C dX8_begin_10 0 rfl ?_
  refine z_iconst C (z := 1) dX8_begin_11 ?_
  refine z_put C hinX8 tyX8 tyX8_ok nmX8 (ci := 10) rfl 0 rfl 18 (by decide) k2 rfl rfl (z_narZ true).1 (z_narZ true).2 (Nat.le_of_ble_eq_true rfl) dX8_begin_12 (ws' := MW cy b kd co th rw cl wr po dm sx 0 false true bb cz hm se da sa bt oz) rfl ?_
  refine z_vret C dX8_begin_15 () ?_ ?_ ?_ (by decide) (by decide)
  · exact rfl
  · exact trivial
  · exact rfl
theorem kn_X8_otherFrom : zKn yX8_otherFrom wsX8_otherFrom cX8_otherFrom 5 (some .int) 3 := ⟨⟨_, rfl⟩, by decide +kernel, by decide +kernel, by decide +kernel⟩
set_option maxHeartbeats 400000 in
set_option maxRecDepth 100000 in
theorem c_X8_otherFrom (l : Launch) (D : va_G) (cy : Nat → ClassId) (tw : Nat → Nat) (b : Nat → Nat) (kd : Int) (co : Int) (th : Int) (rw : Int) (cl : Int) (wr : Int) (po : Int) (dm : Int) (sx : Int) (aa : Int) (dk : Bool) (fi : Bool) (bb : Int) (cz : Int) (hm : Bool) (se : Nat → Bool) (da : Nat → Bool) (sa : Nat → Int) (bt : Nat → Int) (oz : Nat → Bool) (r : Int) (q : Int) (d : Bool)  (hco : 1 ≤ co ∧ co ≤ 700) (hr : -50 ≤ r ∧ r < 24) (hq : 0 ≤ q ∧ q ≤ co) : zMet l yX8_otherFrom wsX8_otherFrom { frames := 1, cells := 0, slots := 0, locals := 22 } D (zT cy) tw (MW cy b kd co th rw cl wr po dm sx aa dk fi bb cz hm se da sa bt oz) [.ref (b 0), vI r, vI q, vI (b2i d)] 0 0 (S := Unit) (fun _ => some (vI (nxt (pd da r) co q (!d)))) (fun _ => MW cy b kd co th rw cl wr po dm sx aa dk fi bb cz hm se da sa bt oz) (fun _ => True) := by
  refine z_met (cc := cX8_otherFrom) (nL := 5) (ret := some .int) (by decide +kernel) rfl (Nat.le_of_ble_eq_true rfl) (lv := [(0, .ref (b 0)), (1, vI r), (2, vI q), (3, vI (b2i d))]) rfl ?_
  intro V p_ e_ s_ m_ args_ below_ meth_ c_ A_ C hmn
  have hinX8 : ∀ w ∈ u_ws RX8 TX8 22, w ∈ wsX8_otherFrom := by decide +kernel
  have k0 : Cond.fieldLink RX8 37 "FaxFilterModel" "columns" "I" ∈ wsX8_otherFrom := List.mem_of_getElem? (i := 1) rfl
  refine z_iload_n C dX8_otherFrom_0 2 rfl ?_
  refine z_istore C (lv' := [(4, vI q), (0, .ref (b 0)), (1, vI r), (2, vI q), (3, vI (b2i d))]) dX8_otherFrom_1 (by decide) rfl ?_
  have J3 : ∀ (f : Nat) (x : Int), (q ≤ x ∧ x ≤ co) → (nxt (pd da r) co q (!d) = nxt (pd da r) co x (!d)) → (co - x).toNat < f → V 0 0 (MW cy b kd co th rw cl wr po dm sx aa dk fi bb cz hm se da sa bt oz) [(0, .ref (b 0)), (1, vI r), (2, vI q), (3, vI (b2i d)), (4, vI x)] [] 3 := by
    intro f
    induction f with
    | zero => intro x i0 i1 hf; exact absurd hf (Nat.not_lt_zero _)
    | succ f ih =>
      intro x i0 i1 hf
      refine z_iload C dX8_otherFrom_3 4 rfl ?_
      refine z_aload_n C dX8_otherFrom_5 0 rfl ?_
      refine z_get C hinX8 (ci := 10) rfl 0 rfl 2 (by decide) k0 rfl (v := vI co) rfl dX8_otherFrom_6 ?_
      refine z_icmp_ge C (by omega) (by omega) (tgt := 29) dX8_otherFrom_9 (by decide) (fun hc_1 => ?_) (fun hc_1 => ?_)
      · refine z_iload C dX8_otherFrom_29 4 rfl ?_
        refine z_iret (x := x) C dX8_otherFrom_31 () ?_ ?_ ?_ (by decide) (by decide)
        · rw [i1, nxt_ge (by omega), show x = co by omega]
        · exact trivial
        · exact rfl
      · refine z_aload_n C dX8_otherFrom_12 0 rfl ?_
        refine z_iload_n C dX8_otherFrom_13 1 rfl ?_
        refine z_iload C dX8_otherFrom_14 4 rfl ?_
        refine z_callV C (As := [vI r, vI x]) (st := []) (c_X8_at l D cy tw b kd co th rw cl wr po dm sx aa dk fi bb cz hm se da sa bt oz r x  (by omega) (by omega)) gX8_otherFrom_X8_at kn_X8_at rfl ⟨rfl, rfl, Nat.le_of_ble_eq_true rfl, Nat.le_of_ble_eq_true rfl⟩ 0 rfl (ci := 10) rfl rfl (Nat.le_of_ble_eq_true rfl) ⟨Nat.le_of_ble_eq_true rfl, Nat.le_of_ble_eq_true rfl⟩ dX8_otherFrom_16 (fun u2 hu2 => ?_)
        clear hu2; clear u2
        show V 0 0 (MW cy b kd co th rw cl wr po dm sx aa dk fi bb cz hm se da sa bt oz) [(0, .ref (b 0)), (1, vI r), (2, vI q), (3, vI (b2i d)), (4, vI x)] [vI (b2i (pd da r x))] 19
        refine z_iload_n C dX8_otherFrom_19 3 rfl ?_
        have h01 := b2i_01 (pd da r x)
        have h02 := b2i_01 d
        refine z_icmp_ne C (by omega) (by omega) (tgt := 29) dX8_otherFrom_20 (by decide) (fun cb => ?_) (fun cb => ?_)
        · refine z_iload C dX8_otherFrom_29 4 rfl ?_
          refine z_iret (x := x) C dX8_otherFrom_31 () ?_ ?_ ?_ (by decide) (by decide)
          · rw [i1, nxt_at (by omega) (ne_not cb)]
          · exact trivial
          · exact rfl
        · refine z_iinc C (lv' := [(4, vI (x + 1)), (0, .ref (b 0)), (1, vI r), (2, vI q), (3, vI (b2i d))]) dX8_otherFrom_23 4 rfl (by decide) rfl ?_
          refine z_goto C (tgt := 3) dX8_otherFrom_26 (by decide) ?_
          refine z_lsub C [1, 2, 3, 4, 0] rfl ?_
          exact ih (x + 1) (by omega) (by rw [i1, nxt_ne (by omega) (eq_not cb)]) (by omega)
  refine z_lsub C [1, 2, 3, 4, 0] rfl ?_
  exact J3 _ q (by omega) (rfl) (Nat.lt_succ_self _)
theorem kn_X8_byteOf : zKn yX8_byteOf wsX8_byteOf cX8_byteOf 4 (some .int) 1 := ⟨⟨_, rfl⟩, by decide +kernel, by decide +kernel, by decide +kernel⟩
set_option maxHeartbeats 400000 in
set_option maxRecDepth 100000 in
theorem c_X8_byteOf (l : Launch) (D : va_G) (cy : Nat → ClassId) (tw : Nat → Nat) (b : Nat → Nat) (kd : Int) (co : Int) (th : Int) (rw : Int) (cl : Int) (wr : Int) (po : Int) (dm : Int) (sx : Int) (aa : Int) (dk : Bool) (fi : Bool) (bb : Int) (cz : Int) (hm : Bool) (se : Nat → Bool) (da : Nat → Bool) (sa : Nat → Int) (bt : Nat → Int) (oz : Nat → Bool) (i : Int)  (hi : 0 ≤ i ∧ 8 * i + 7 < 140000) : zMet l yX8_byteOf wsX8_byteOf { frames := 0, cells := 0, slots := 0, locals := 0 } D (zT cy) tw (MW cy b kd co th rw cl wr po dm sx aa dk fi bb cz hm se da sa bt oz) [.ref (b 0), vI i] 0 0 (S := Unit) (fun _ => some (vI (byN oz i 8))) (fun _ => MW cy b kd co th rw cl wr po dm sx aa dk fi bb cz hm se da sa bt oz) (fun _ => True) := by
  refine z_met (cc := cX8_byteOf) (nL := 4) (ret := some .int) (by decide +kernel) rfl (Nat.le_of_ble_eq_true rfl) (lv := [(0, .ref (b 0)), (1, vI i)]) rfl ?_
  intro V p_ e_ s_ m_ args_ below_ meth_ c_ A_ C hmn
  have hinX8 : ∀ w ∈ u_ws RX8 TX8 22, w ∈ wsX8_byteOf := by decide +kernel
  have k0 : Cond.fieldLink RX8 30 "FaxFilterModel" "out" "[Z" ∈ wsX8_byteOf := List.mem_of_getElem? (i := 1) rfl
  refine z_iconst C (z := 0) dX8_byteOf_0 ?_
  refine z_istore_n C (lv' := [(2, vI 0), (0, .ref (b 0)), (1, vI i)]) dX8_byteOf_1 rfl (by decide) rfl ?_
  refine z_iconst C (z := 0) dX8_byteOf_2 ?_
  refine z_istore_n C (lv' := [(3, vI 0), (2, vI 0), (0, .ref (b 0)), (1, vI i)]) dX8_byteOf_3 rfl (by decide) rfl ?_
  have J4 : ∀ (f : Nat) (y : Int) (j : Int), (0 ≤ j ∧ j ≤ 8) → (y = byN oz i j.toNat) → (8 - j).toNat < f → V 0 0 (MW cy b kd co th rw cl wr po dm sx aa dk fi bb cz hm se da sa bt oz) [(0, .ref (b 0)), (1, vI i), (2, vI y), (3, vI j)] [] 4 := by
    intro f
    induction f with
    | zero => intro y j i0 i1 hf; exact absurd hf (Nat.not_lt_zero _)
    | succ f ih =>
      intro y j i0 i1 hf
      refine z_iload_n C dX8_byteOf_4 3 rfl ?_
      refine z_bipush C (z := 8) dX8_byteOf_5 (by decide) ?_
      refine z_icmp_ge C (by omega) (by decide) (tgt := 40) dX8_byteOf_7 (by decide) (fun hc_1 => ?_) (fun hc_1 => ?_)
      · refine z_iload_n C dX8_byteOf_40 2 rfl ?_
        refine z_iret (x := y) C dX8_byteOf_41 () ?_ ?_ ?_ (by decide) (by decide)
        · rw [i1, show j = 8 by omega]; rfl
        · exact trivial
        · exact rfl
      · refine z_iconst C (z := 2) dX8_byteOf_10 ?_
        refine z_iload_n C dX8_byteOf_11 2 rfl ?_
        refine z_imul C dX8_byteOf_12 ?_
        refine z_aload_n C dX8_byteOf_13 0 rfl ?_
        refine z_get C hinX8 (ci := 10) rfl 0 rfl 12 (by decide) k0 rfl (v := .ref (b 7)) rfl dX8_byteOf_14 ?_
        refine z_bipush C (z := 8) dX8_byteOf_17 (by decide) ?_
        refine z_iload_n C dX8_byteOf_19 1 rfl ?_
        refine z_imul C dX8_byteOf_20 ?_
        refine z_iload_n C dX8_byteOf_21 3 rfl ?_
        refine z_iadd C dX8_byteOf_22 ?_
        refine z_zald C 7 3 (g := oz) rfl rfl (by omega) (by omega) (by decide) dX8_byteOf_23 ?_
        refine z_ifz C (tgt := 31) dX8_byteOf_24 (by decide) (fun cb => ?_) (fun cb => ?_)
        · refine z_iconst C (z := 0) dX8_byteOf_31 ?_
          refine z_iadd C dX8_byteOf_32 ?_
          refine z_istore_n C (lv' := [(2, vI ((2 * y) + 0)), (0, .ref (b 0)), (1, vI i), (3, vI j)]) dX8_byteOf_33 rfl (by decide) rfl ?_
          refine z_iinc C (lv' := [(3, vI (j + 1)), (2, vI ((2 * y) + 0)), (0, .ref (b 0)), (1, vI i)]) dX8_byteOf_34 3 rfl (by decide) rfl ?_
          refine z_goto C (tgt := 4) dX8_byteOf_37 (by decide) ?_
          refine z_lsub C [2, 3, 1, 0] rfl ?_
          exact ih ((2 * y) + 0) (j + 1) (by omega) (by rw [show (j + 1).toNat = j.toNat + 1 by omega, byN, show ((j.toNat : Nat) : Int) = j by omega, ← i1, cb]; first | (rw [b2i_t]) | (rw [b2i_f])) (by omega)
        · refine z_iconst C (z := 1) dX8_byteOf_27 ?_
          refine z_goto C (tgt := 32) dX8_byteOf_28 (by decide) ?_
          refine z_iadd C dX8_byteOf_32 ?_
          refine z_istore_n C (lv' := [(2, vI ((2 * y) + 1)), (0, .ref (b 0)), (1, vI i), (3, vI j)]) dX8_byteOf_33 rfl (by decide) rfl ?_
          refine z_iinc C (lv' := [(3, vI (j + 1)), (2, vI ((2 * y) + 1)), (0, .ref (b 0)), (1, vI i)]) dX8_byteOf_34 3 rfl (by decide) rfl ?_
          refine z_goto C (tgt := 4) dX8_byteOf_37 (by decide) ?_
          refine z_lsub C [2, 3, 1, 0] rfl ?_
          exact ih ((2 * y) + 1) (j + 1) (by omega) (by rw [show (j + 1).toNat = j.toNat + 1 by omega, byN, show ((j.toNat : Nat) : Int) = j by omega, ← i1, cb]; first | (rw [b2i_t]) | (rw [b2i_f])) (by omega)
  refine z_lsub C [2, 3, 1, 0] rfl ?_
  exact J4 _ 0 0 (by omega) (rfl) (Nat.lt_succ_self _)
theorem kn_X8_octet : zKn yX8_octet wsX8_octet cX8_octet 2 (some .int) 1 := ⟨⟨_, rfl⟩, by decide +kernel, by decide +kernel, by decide +kernel⟩
set_option maxHeartbeats 400000 in
set_option maxRecDepth 100000 in
theorem c_X8_octet (l : Launch) (D : va_G) (cy : Nat → ClassId) (tw : Nat → Nat) (b : Nat → Nat) (kd : Int) (co : Int) (th : Int) (rw : Int) (cl : Int) (wr : Int) (po : Int) (dm : Int) (sx : Int) (aa : Int) (dk : Bool) (fi : Bool) (bb : Int) (cz : Int) (hm : Bool) (se : Nat → Bool) (da : Nat → Bool) (sa : Nat → Int) (bt : Nat → Int) (oz : Nat → Bool) (z : Int)  (hyz : -2147483648 ≤ z ∧ z ≤ 2147483647) (hw : 0 ≤ wr ∧ wr ≤ 140000) : zMet l yX8_octet wsX8_octet { frames := 1, cells := 0, slots := 0, locals := 23 } D (zT cy) tw (MW cy b kd co th rw cl wr po dm sx aa dk fi bb cz hm se da sa bt oz) [.ref (b 0), vI z] 0 0 (S := Unit) (fun _ => some (vI (if 0 ≤ z ∧ z < wr / 8 then byN oz z 8 else 0))) (fun _ => MW cy b kd co (if 0 ≤ z ∧ z < wr / 8 then 0 else 1) rw cl wr po dm sx aa dk fi bb cz hm se da sa bt oz) (fun _ => True) := by
  refine z_met (cc := cX8_octet) (nL := 2) (ret := some .int) (by decide +kernel) rfl (Nat.le_of_ble_eq_true rfl) (lv := [(0, .ref (b 0)), (1, vI z)]) rfl ?_
  intro V p_ e_ s_ m_ args_ below_ meth_ c_ A_ C hmn
  have hinX8 : ∀ w ∈ u_ws RX8 TX8 22, w ∈ wsX8_octet := by decide +kernel
  have k0 : Cond.fieldLink RX8 44 "FaxFilterModel" "thrown" "I" ∈ wsX8_octet := List.mem_of_getElem? (i := 2) rfl
  have k1 : Cond.fieldLink RX8 66 "FaxFilterModel" "written" "I" ∈ wsX8_octet := List.mem_of_getElem? (i := 1) rfl
  refine z_aload_n C dX8_octet_0 0 rfl ?_
  refine z_iload_n C dX8_octet_1 1 rfl ?_
  refine z_if_lt C (by omega) (tgt := 16) dX8_octet_2 (by decide) (fun hc_1 => ?_) (fun hc_1 => ?_)
  · refine z_iconst C (z := 1) dX8_octet_16 ?_
    refine z_goto C (tgt := 21) dX8_octet_17 (by decide) ?_
    refine z_put C hinX8 tyX8 tyX8_ok nmX8 (ci := 10) rfl 0 rfl 0 (by decide) k0 rfl rfl rfl rfl (Nat.le_of_ble_eq_true rfl) dX8_octet_21 (ws' := MW cy b kd co 1 rw cl wr po dm sx aa dk fi bb cz hm se da sa bt oz) rfl ?_
    refine z_aload_n C dX8_octet_24 0 rfl ?_
    refine z_get C hinX8 (ci := 10) rfl 0 rfl 0 (by decide) k0 rfl (v := vI 1) rfl dX8_octet_25 ?_
    refine z_if_le C (by decide) (tgt := 35) dX8_octet_28 (by decide) (fun hc_2 => ?_) (fun hc_2 => ?_)
    · exact absurd hc_2 (by decide)
    refine z_iconst C (z := 0) dX8_octet_31 ?_
    refine z_goto C (tgt := 40) dX8_octet_32 (by decide) ?_
    refine z_iret (x := 0) C dX8_octet_40 () ?_ ?_ ?_ (by decide) (by decide)
    · rw [if_neg (by omega)]
    · exact trivial
    · rw [if_neg (by omega)]
  · refine z_iload_n C dX8_octet_5 1 rfl ?_
    refine z_aload_n C dX8_octet_6 0 rfl ?_
    refine z_get C hinX8 (ci := 10) rfl 0 rfl 11 (by decide) k1 rfl (v := vI wr) rfl dX8_octet_7 ?_
    refine z_bipush C (z := 8) dX8_octet_10 (by decide) ?_
    refine z_idiv C dX8_octet_12 (by omega) (by decide) ?_
    refine z_icmp_lt C (by omega) (by omega) (tgt := 20) dX8_octet_13 (by decide) (fun hc_3 => ?_) (fun hc_3 => ?_)
    · refine z_iconst C (z := 0) dX8_octet_20 ?_
      refine z_put C hinX8 tyX8 tyX8_ok nmX8 (ci := 10) rfl 0 rfl 0 (by decide) k0 rfl rfl rfl rfl (Nat.le_of_ble_eq_true rfl) dX8_octet_21 (ws' := MW cy b kd co 0 rw cl wr po dm sx aa dk fi bb cz hm se da sa bt oz) rfl ?_
      refine z_aload_n C dX8_octet_24 0 rfl ?_
      refine z_get C hinX8 (ci := 10) rfl 0 rfl 0 (by decide) k0 rfl (v := vI 0) rfl dX8_octet_25 ?_
      refine z_if_le C (by decide) (tgt := 35) dX8_octet_28 (by decide) (fun hc_4 => ?_) (fun hc_4 => ?_)
      rotate_left; · exact absurd hc_4 (by decide)
      refine z_aload_n C dX8_octet_35 0 rfl ?_
      refine z_iload_n C dX8_octet_36 1 rfl ?_
      refine z_callV C (As := [vI z]) (st := []) (c_X8_byteOf l D cy tw b kd co 0 rw cl wr po dm sx aa dk fi bb cz hm se da sa bt oz z  (by omega)) gX8_octet_X8_byteOf kn_X8_byteOf rfl ⟨rfl, rfl, Nat.le_of_ble_eq_true rfl, Nat.le_of_ble_eq_true rfl⟩ 0 rfl (ci := 10) rfl rfl (Nat.le_of_ble_eq_true rfl) ⟨Nat.le_of_ble_eq_true rfl, Nat.le_of_ble_eq_true rfl⟩ dX8_octet_37 (fun u5 hu5 => ?_)
      clear hu5; clear u5
      show V 0 0 (MW cy b kd co 0 rw cl wr po dm sx aa dk fi bb cz hm se da sa bt oz) [(0, .ref (b 0)), (1, vI z)] [vI (byN oz z 8)] 40
      refine z_iret (x := (byN oz z 8)) C dX8_octet_40 () ?_ ?_ ?_ (by decide) (by decide)
      · rw [if_pos (by omega)]
      · exact trivial
      · rw [if_pos (by omega)]
    · refine z_iconst C (z := 1) dX8_octet_16 ?_
      refine z_goto C (tgt := 21) dX8_octet_17 (by decide) ?_
      refine z_put C hinX8 tyX8 tyX8_ok nmX8 (ci := 10) rfl 0 rfl 0 (by decide) k0 rfl rfl rfl rfl (Nat.le_of_ble_eq_true rfl) dX8_octet_21 (ws' := MW cy b kd co 1 rw cl wr po dm sx aa dk fi bb cz hm se da sa bt oz) rfl ?_
      refine z_aload_n C dX8_octet_24 0 rfl ?_
      refine z_get C hinX8 (ci := 10) rfl 0 rfl 0 (by decide) k0 rfl (v := vI 1) rfl dX8_octet_25 ?_
      refine z_if_le C (by decide) (tgt := 35) dX8_octet_28 (by decide) (fun hc_6 => ?_) (fun hc_6 => ?_)
      · exact absurd hc_6 (by decide)
      refine z_iconst C (z := 0) dX8_octet_31 ?_
      refine z_goto C (tgt := 40) dX8_octet_32 (by decide) ?_
      refine z_iret (x := 0) C dX8_octet_40 () ?_ ?_ ?_ (by decide) (by decide)
      · rw [if_neg (by omega)]
      · exact trivial
      · rw [if_neg (by omega)]
theorem kn_X8_take : zKn yX8_take wsX8_take cX8_take 2 (some .int) 0 := ⟨⟨_, rfl⟩, by decide +kernel, by decide +kernel, by decide +kernel⟩
set_option maxHeartbeats 400000 in
set_option maxRecDepth 100000 in
theorem c_X8_take (l : Launch) (D : va_G) (cy : Nat → ClassId) (tw : Nat → Nat) (b : Nat → Nat) (kd : Int) (co : Int) (th : Int) (rw : Int) (cl : Int) (wr : Int) (po : Int) (dm : Int) (sx : Int) (aa : Int) (dk : Bool) (fi : Bool) (bb : Int) (cz : Int) (hm : Bool) (se : Nat → Bool) (da : Nat → Bool) (sa : Nat → Int) (bt : Nat → Int) (oz : Nat → Bool)   (hw : 0 ≤ wr ∧ wr ≤ 140000) : zMet l yX8_take wsX8_take { frames := 1, cells := 0, slots := 0, locals := 23 } D (zT cy) tw (MW cy b kd co th rw cl wr po dm sx aa dk fi bb cz hm se da sa bt oz) [.ref (b 0)] 0 0 (S := Unit) (fun _ => some (vI (mn 400 (wr / 8)))) (fun _ => MW cy b kd co 0 rw (mn 400 (wr / 8)) wr po dm sx aa dk fi bb cz hm se da sa (apM bt 0 (fun i => byN oz (i : Nat) 8) (mn 400 (wr / 8)).toNat) oz) (fun _ => True) := by
  refine z_met (cc := cX8_take) (nL := 2) (ret := some .int) (by decide +kernel) rfl (Nat.le_of_ble_eq_true rfl) (lv := [(0, .ref (b 0))]) rfl ?_
  intro V p_ e_ s_ m_ args_ below_ meth_ c_ A_ C hmn
  have hinX8 : ∀ w ∈ u_ws RX8 TX8 22, w ∈ wsX8_take := by decide +kernel
  have k0 : Cond.fieldLink RX8 44 "FaxFilterModel" "thrown" "I" ∈ wsX8_take := List.mem_of_getElem? (i := 1) rfl
  have k1 : Cond.fieldLink RX8 66 "FaxFilterModel" "written" "I" ∈ wsX8_take := List.mem_of_getElem? (i := 2) rfl
  have k2 : Cond.fieldLink RX8 63 "FaxFilterModel" "collected" "I" ∈ wsX8_take := List.mem_of_getElem? (i := 3) rfl
  have k3 : Cond.fieldLink RX8 26 "FaxFilterModel" "bytes" "[I" ∈ wsX8_take := List.mem_of_getElem? (i := 4) rfl
  refine z_aload_n C dX8_take_0 0 rfl ?_
  refine z_iconst C (z := 0) dX8_take_1 ?_
  refine z_put C hinX8 tyX8 tyX8_ok nmX8 (ci := 10) rfl 0 rfl 0 (by decide) k0 rfl rfl rfl rfl (Nat.le_of_ble_eq_true rfl) dX8_take_2 (ws' := MW cy b kd co 0 rw cl wr po dm sx aa dk fi bb cz hm se da sa bt oz) rfl ?_
  refine z_aload_n C dX8_take_5 0 rfl ?_
  refine z_aload_n C dX8_take_6 0 rfl ?_
  refine z_get C hinX8 (ci := 10) rfl 0 rfl 11 (by decide) k1 rfl (v := vI wr) rfl dX8_take_7 ?_
  refine z_bipush C (z := 8) dX8_take_10 (by decide) ?_
  refine z_idiv C dX8_take_12 (by omega) (by decide) ?_
  refine z_sipush C (z := 400) dX8_take_13 (by decide) ?_
  refine z_icmp_ge C (by omega) (by decide) (tgt := 29) dX8_take_16 (by decide) (fun hc_1 => ?_) (fun hc_1 => ?_)
  · refine z_sipush C (z := 400) dX8_take_29 (by decide) ?_
    refine z_put C hinX8 tyX8 tyX8_ok nmX8 (ci := 10) rfl 0 rfl 9 (by decide) k2 rfl rfl rfl rfl (Nat.le_of_ble_eq_true rfl) dX8_take_32 (ws' := MW cy b kd co 0 rw 400 wr po dm sx aa dk fi bb cz hm se da sa bt oz) rfl ?_
    refine z_iconst C (z := 0) dX8_take_35 ?_
    refine z_istore_n C (lv' := [(1, vI 0), (0, .ref (b 0))]) dX8_take_36 rfl (by decide) rfl ?_
    have J37 : ∀ (f : Nat) (i : Int) (b2 : Nat → Int) (q : Int), (q = mn 400 (wr / 8)) → (0 ≤ i ∧ i ≤ q) → (b2 = apM bt 0 (fun i => byN oz (i : Nat) 8) i.toNat) → (q - i).toNat < f → V 0 0 (MW cy b kd co 0 rw q wr po dm sx aa dk fi bb cz hm se da sa b2 oz) [(0, .ref (b 0)), (1, vI i)] [] 37 := by
      intro f
      induction f with
      | zero => intro i b2 q iq i0 i1 hf; exact absurd hf (Nat.not_lt_zero _)
      | succ f ih =>
        intro i b2 q iq i0 i1 hf
        have hmn9 := mn_rg (a := 400) (b := wr / 8) (x := 0) (by omega) (by omega)
        refine z_iload_n C dX8_take_37 1 rfl ?_
        refine z_aload_n C dX8_take_38 0 rfl ?_
        refine z_get C hinX8 (ci := 10) rfl 0 rfl 9 (by decide) k2 rfl (v := vI q) rfl dX8_take_39 ?_
        refine z_icmp_ge C (by omega) (by omega) (tgt := 62) dX8_take_42 (by decide) (fun hc_2 => ?_) (fun hc_2 => ?_)
        · refine z_aload_n C dX8_take_62 0 rfl ?_
          refine z_get C hinX8 (ci := 10) rfl 0 rfl 9 (by decide) k2 rfl (v := vI q) rfl dX8_take_63 ?_
          refine z_iret (x := q) C dX8_take_66 () ?_ ?_ ?_ (by decide) (by decide)
          · rw [iq]
          · exact trivial
          · rw [i1, ← iq, show i = q by omega]
        · refine z_aload_n C dX8_take_45 0 rfl ?_
          refine z_get C hinX8 (ci := 10) rfl 0 rfl 10 (by decide) k3 rfl (v := .ref (b 6)) rfl dX8_take_46 ?_
          refine z_iload_n C dX8_take_49 1 rfl ?_
          refine z_aload_n C dX8_take_50 0 rfl ?_
          refine z_iload_n C dX8_take_51 1 rfl ?_
          refine z_callV C (As := [vI i]) (st := [vI i, .ref (b 6)]) (c_X8_byteOf l D cy tw b kd co 0 rw q wr po dm sx aa dk fi bb cz hm se da sa b2 oz i  (by omega)) gX8_take_X8_byteOf kn_X8_byteOf rfl ⟨rfl, rfl, Nat.le_of_ble_eq_true rfl, Nat.le_of_ble_eq_true rfl⟩ 0 rfl (ci := 10) rfl rfl (Nat.le_of_ble_eq_true rfl) ⟨Nat.le_of_ble_eq_true rfl, Nat.le_of_ble_eq_true rfl⟩ dX8_take_52 (fun u3 hu3 => ?_)
          clear hu3; clear u3
          show V 0 0 (MW cy b kd co 0 rw q wr po dm sx aa dk fi bb cz hm se da sa b2 oz) [(0, .ref (b 0)), (1, vI i)] [vI (byN oz i 8), vI i, .ref (b 6)] 55
          refine z_iast C 6 1 (g := b2) rfl rfl (by omega) (by omega) (by decide) dX8_take_55 (ws' := MW cy b kd co 0 rw q wr po dm sx aa dk fi bb cz hm se da sa (va_up b2 (i : Int).toNat (byN oz i 8)) oz) rfl ?_
          refine z_iinc C (lv' := [(1, vI (i + 1)), (0, .ref (b 0))]) dX8_take_56 1 rfl (by decide) rfl ?_
          refine z_goto C (tgt := 37) dX8_take_59 (by decide) ?_
          refine z_lsub C [1, 0] rfl ?_
          exact ih (i + 1) (va_up b2 (i : Int).toNat (byN oz i 8)) q (iq) (by omega) (by rw [show (i + 1).toNat = i.toNat + 1 by omega, apM, ← i1, show (0 + ((i.toNat : Nat) : Int)).toNat = (i : Int).toNat by omega, show ((i.toNat : Nat) : Int) = i by omega]) (by omega)
    refine z_lsub C [1, 0] rfl ?_
    exact J37 _ 0 bt 400 (by unfold mn; split <;> omega) (by omega) (rfl) (Nat.lt_succ_self _)
  · refine z_aload_n C dX8_take_19 0 rfl ?_
    refine z_get C hinX8 (ci := 10) rfl 0 rfl 11 (by decide) k1 rfl (v := vI wr) rfl dX8_take_20 ?_
    refine z_bipush C (z := 8) dX8_take_23 (by decide) ?_
    refine z_idiv C dX8_take_25 (by omega) (by decide) ?_
    refine z_goto C (tgt := 32) dX8_take_26 (by decide) ?_
    refine z_put C hinX8 tyX8 tyX8_ok nmX8 (ci := 10) rfl 0 rfl 9 (by decide) k2 rfl rfl rfl rfl (Nat.le_of_ble_eq_true rfl) dX8_take_32 (ws' := MW cy b kd co 0 rw (wr / 8) wr po dm sx aa dk fi bb cz hm se da sa bt oz) rfl ?_
    refine z_iconst C (z := 0) dX8_take_35 ?_
    refine z_istore_n C (lv' := [(1, vI 0), (0, .ref (b 0))]) dX8_take_36 rfl (by decide) rfl ?_
    have J37 : ∀ (f : Nat) (i : Int) (b2 : Nat → Int) (q : Int), (q = mn 400 (wr / 8)) → (0 ≤ i ∧ i ≤ q) → (b2 = apM bt 0 (fun i => byN oz (i : Nat) 8) i.toNat) → (q - i).toNat < f → V 0 0 (MW cy b kd co 0 rw q wr po dm sx aa dk fi bb cz hm se da sa b2 oz) [(0, .ref (b 0)), (1, vI i)] [] 37 := by
      intro f
      induction f with
      | zero => intro i b2 q iq i0 i1 hf; exact absurd hf (Nat.not_lt_zero _)
      | succ f ih =>
        intro i b2 q iq i0 i1 hf
        have hmn9 := mn_rg (a := 400) (b := wr / 8) (x := 0) (by omega) (by omega)
        refine z_iload_n C dX8_take_37 1 rfl ?_
        refine z_aload_n C dX8_take_38 0 rfl ?_
        refine z_get C hinX8 (ci := 10) rfl 0 rfl 9 (by decide) k2 rfl (v := vI q) rfl dX8_take_39 ?_
        refine z_icmp_ge C (by omega) (by omega) (tgt := 62) dX8_take_42 (by decide) (fun hc_4 => ?_) (fun hc_4 => ?_)
        · refine z_aload_n C dX8_take_62 0 rfl ?_
          refine z_get C hinX8 (ci := 10) rfl 0 rfl 9 (by decide) k2 rfl (v := vI q) rfl dX8_take_63 ?_
          refine z_iret (x := q) C dX8_take_66 () ?_ ?_ ?_ (by decide) (by decide)
          · rw [iq]
          · exact trivial
          · rw [i1, ← iq, show i = q by omega]
        · refine z_aload_n C dX8_take_45 0 rfl ?_
          refine z_get C hinX8 (ci := 10) rfl 0 rfl 10 (by decide) k3 rfl (v := .ref (b 6)) rfl dX8_take_46 ?_
          refine z_iload_n C dX8_take_49 1 rfl ?_
          refine z_aload_n C dX8_take_50 0 rfl ?_
          refine z_iload_n C dX8_take_51 1 rfl ?_
          refine z_callV C (As := [vI i]) (st := [vI i, .ref (b 6)]) (c_X8_byteOf l D cy tw b kd co 0 rw q wr po dm sx aa dk fi bb cz hm se da sa b2 oz i  (by omega)) gX8_take_X8_byteOf kn_X8_byteOf rfl ⟨rfl, rfl, Nat.le_of_ble_eq_true rfl, Nat.le_of_ble_eq_true rfl⟩ 0 rfl (ci := 10) rfl rfl (Nat.le_of_ble_eq_true rfl) ⟨Nat.le_of_ble_eq_true rfl, Nat.le_of_ble_eq_true rfl⟩ dX8_take_52 (fun u5 hu5 => ?_)
          clear hu5; clear u5
          show V 0 0 (MW cy b kd co 0 rw q wr po dm sx aa dk fi bb cz hm se da sa b2 oz) [(0, .ref (b 0)), (1, vI i)] [vI (byN oz i 8), vI i, .ref (b 6)] 55
          refine z_iast C 6 1 (g := b2) rfl rfl (by omega) (by omega) (by decide) dX8_take_55 (ws' := MW cy b kd co 0 rw q wr po dm sx aa dk fi bb cz hm se da sa (va_up b2 (i : Int).toNat (byN oz i 8)) oz) rfl ?_
          refine z_iinc C (lv' := [(1, vI (i + 1)), (0, .ref (b 0))]) dX8_take_56 1 rfl (by decide) rfl ?_
          refine z_goto C (tgt := 37) dX8_take_59 (by decide) ?_
          refine z_lsub C [1, 0] rfl ?_
          exact ih (i + 1) (va_up b2 (i : Int).toNat (byN oz i 8)) q (iq) (by omega) (by rw [show (i + 1).toNat = i.toNat + 1 by omega, apM, ← i1, show (0 + ((i.toNat : Nat) : Int)).toNat = (i : Int).toNat by omega, show ((i.toNat : Nat) : Int) = i by omega]) (by omega)
    refine z_lsub C [1, 0] rfl ?_
    exact J37 _ 0 bt (wr / 8) (by unfold mn; split <;> omega) (by omega) (rfl) (Nat.lt_succ_self _)
theorem kn_X8_add : zKn yX8_add wsX8_add cX8_add 5 (some .boolean) 2 := ⟨⟨_, rfl⟩, by decide +kernel, by decide +kernel, by decide +kernel⟩
set_option maxHeartbeats 400000 in
set_option maxRecDepth 100000 in
theorem c_X8_add (l : Launch) (D : va_G) (cy : Nat → ClassId) (tw : Nat → Nat) (b : Nat → Nat) (kd : Int) (co : Int) (th : Int) (rw : Int) (cl : Int) (wr : Int) (po : Int) (dm : Int) (sx : Int) (aa : Int) (dk : Bool) (fi : Bool) (bb : Int) (cz : Int) (hm : Bool) (se : Nat → Bool) (da : Nat → Bool) (sa : Nat → Int) (bt : Nat → Int) (oz : Nat → Bool) (y : BitVec 64) (z : Int)  (hs : 0 ≤ cl ∧ cl ≤ 400) (hyz : -2147483648 ≤ z ∧ z ≤ 2147483647) : zMet l yX8_add wsX8_add { frames := 0, cells := 0, slots := 0, locals := 0 } D (zT cy) tw (MW cy b kd co th rw cl wr po dm sx aa dk fi bb cz hm se da sa bt oz) [.ref (b 0), vJ y, vI z] 0 0 (S := Unit) (fun _ => some (vI (b2i (decide (1 ≤ z ∧ z ≤ 8 ∧ cl + z ≤ 400))))) (fun _ => MW cy b kd co 0 rw (if decide (1 ≤ z ∧ z ≤ 8 ∧ cl + z ≤ 400) = true then cl + z else cl) wr po dm sx aa dk fi bb cz hm se da sa (if decide (1 ≤ z ∧ z ≤ 8 ∧ cl + z ≤ 400) = true then apM bt cl (adM y) z.toNat else bt) oz) (fun _ => True) := by
  refine z_met (cc := cX8_add) (nL := 5) (ret := some .boolean) (by decide +kernel) rfl (Nat.le_of_ble_eq_true rfl) (lv := [(0, .ref (b 0)), (1, vJ y), (3, vI z)]) rfl ?_
  intro V p_ e_ s_ m_ args_ below_ meth_ c_ A_ C hmn
  have hinX8 : ∀ w ∈ u_ws RX8 TX8 22, w ∈ wsX8_add := by decide +kernel
  have k0 : Cond.fieldLink RX8 44 "FaxFilterModel" "thrown" "I" ∈ wsX8_add := List.mem_of_getElem? (i := 1) rfl
  have k1 : Cond.fieldLink RX8 63 "FaxFilterModel" "collected" "I" ∈ wsX8_add := List.mem_of_getElem? (i := 2) rfl
  have k2 : Cond.fieldLink RX8 26 "FaxFilterModel" "bytes" "[I" ∈ wsX8_add := List.mem_of_getElem? (i := 3) rfl
  have k3 : Cond.constantLong RX8 75 (255) ∈ wsX8_add := List.mem_of_getElem? (i := 4) rfl
  refine z_aload_n C dX8_add_0 0 rfl ?_
  refine z_iconst C (z := 0) dX8_add_1 ?_
  refine z_put C hinX8 tyX8 tyX8_ok nmX8 (ci := 10) rfl 0 rfl 0 (by decide) k0 rfl rfl rfl rfl (Nat.le_of_ble_eq_true rfl) dX8_add_2 (ws' := MW cy b kd co 0 rw cl wr po dm sx aa dk fi bb cz hm se da sa bt oz) rfl ?_
  refine z_iload_n C dX8_add_5 2 rfl ?_
  refine z_iconst C (z := 1) dX8_add_6 ?_
  refine z_icmp_lt C (by omega) (by decide) (tgt := 28) dX8_add_7 (by decide) (fun hc_1 => ?_) (fun hc_1 => ?_)
  · refine z_iconst C (z := 0) dX8_add_28 ?_
    refine z_zret (b := false) C dX8_add_29 () ?_ ?_ ?_ (by decide) (by decide)
    · rw [decide_eq_false (by omega)]
    · exact trivial
    · rw [decide_eq_false (by omega)]; rfl
  · refine z_iload_n C dX8_add_10 2 rfl ?_
    refine z_bipush C (z := 8) dX8_add_11 (by decide) ?_
    refine z_icmp_gt C (by omega) (by decide) (tgt := 28) dX8_add_13 (by decide) (fun hc_2 => ?_) (fun hc_2 => ?_)
    · refine z_iconst C (z := 0) dX8_add_28 ?_
      refine z_zret (b := false) C dX8_add_29 () ?_ ?_ ?_ (by decide) (by decide)
      · rw [decide_eq_false (by omega)]
      · exact trivial
      · rw [decide_eq_false (by omega)]; rfl
    · refine z_aload_n C dX8_add_16 0 rfl ?_
      refine z_get C hinX8 (ci := 10) rfl 0 rfl 9 (by decide) k1 rfl (v := vI cl) rfl dX8_add_17 ?_
      refine z_iload_n C dX8_add_20 2 rfl ?_
      refine z_iadd C dX8_add_21 ?_
      refine z_sipush C (z := 400) dX8_add_22 (by decide) ?_
      refine z_icmp_le C (by omega) (by decide) (tgt := 30) dX8_add_25 (by decide) (fun hc_3 => ?_) (fun hc_3 => ?_)
      · refine z_iconst C (z := 0) dX8_add_30 ?_
        refine z_istore C (lv' := [(4, vI 0), (0, .ref (b 0)), (1, vJ y), (3, vI z)]) dX8_add_31 (by decide) rfl ?_
        have J33 : ∀ (f : Nat) (i : Int) (b2 : Nat → Int) (q : Int), (0 ≤ i ∧ i ≤ z) → (b2 = apM bt cl (adM y) i.toNat) → (q = cl + i) → (z - i).toNat < f → V 0 0 (MW cy b kd co 0 rw q wr po dm sx aa dk fi bb cz hm se da sa b2 oz) [(0, .ref (b 0)), (1, vJ y), (3, vI z), (4, vI i)] [] 33 := by
          intro f
          induction f with
          | zero => intro i b2 q i0 i1 i2 hf; exact absurd hf (Nat.not_lt_zero _)
          | succ f ih =>
            intro i b2 q i0 i1 i2 hf
            refine z_iload C dX8_add_33 3 rfl ?_
            refine z_iload_n C dX8_add_35 2 rfl ?_
            refine z_icmp_ge C (by omega) (by omega) (tgt := 76) dX8_add_36 (by decide) (fun hc_4 => ?_) (fun hc_4 => ?_)
            · refine z_iconst C (z := 1) dX8_add_76 ?_
              refine z_zret (b := true) C dX8_add_77 () ?_ ?_ ?_ (by decide) (by decide)
              · rw [decide_eq_true (by omega)]
              · exact trivial
              · rw [decide_eq_true (by omega), if_pos rfl, if_pos rfl, i1, show i = z by omega, show q = cl + z by omega]
            · refine z_aload_n C dX8_add_39 0 rfl ?_
              refine z_get C hinX8 (ci := 10) rfl 0 rfl 10 (by decide) k2 rfl (v := .ref (b 6)) rfl dX8_add_40 ?_
              refine z_aload_n C dX8_add_43 0 rfl ?_
              refine z_get C hinX8 (ci := 10) rfl 0 rfl 9 (by decide) k1 rfl (v := vI q) rfl dX8_add_44 ?_
              refine z_lload_n C dX8_add_47 1 rfl ?_
              refine z_bipush C (z := 8) dX8_add_48 (by decide) ?_
              refine z_iload C dX8_add_50 3 rfl ?_
              refine z_imul C dX8_add_52 ?_
              refine z_lshr C (y := (8 * i)) (((8 * i) % 64).toNat) (by omega) (rfl) dX8_add_53 ?_
              refine z_ldc2 C (w := 255#64) k3 dX8_add_54 ?_
              refine z_land C dX8_add_57 ?_
              refine z_l2i C dX8_add_58 ?_
              refine z_iast C 6 1 (g := b2) rfl rfl (by omega) (by omega) (by decide) dX8_add_59 (ws' := MW cy b kd co 0 rw q wr po dm sx aa dk fi bb cz hm se da sa (va_up b2 (q : Int).toNat (((BitVec.sshiftRight y (((8 * i) % 64).toNat)) &&& (255#64) : BitVec 64).toInt)) oz) rfl ?_
              refine z_aload_n C dX8_add_60 0 rfl ?_
              refine z_dup C dX8_add_61 rfl ?_
              refine z_get C hinX8 (ci := 10) rfl 0 rfl 9 (by decide) k1 rfl (v := vI q) rfl dX8_add_62 ?_
              refine z_iconst C (z := 1) dX8_add_65 ?_
              refine z_iadd C dX8_add_66 ?_
              refine z_put C hinX8 tyX8 tyX8_ok nmX8 (ci := 10) rfl 0 rfl 9 (by decide) k1 rfl rfl rfl rfl (Nat.le_of_ble_eq_true rfl) dX8_add_67 (ws' := MW cy b kd co 0 rw (q + 1) wr po dm sx aa dk fi bb cz hm se da sa (va_up b2 (q : Int).toNat (((BitVec.sshiftRight y (((8 * i) % 64).toNat)) &&& (255#64) : BitVec 64).toInt)) oz) rfl ?_
              refine z_iinc C (lv' := [(4, vI (i + 1)), (0, .ref (b 0)), (1, vJ y), (3, vI z)]) dX8_add_70 3 rfl (by decide) rfl ?_
              refine z_goto C (tgt := 33) dX8_add_73 (by decide) ?_
              refine z_lsub C [1, 2, 3, 0] rfl ?_
              exact ih (i + 1) (va_up b2 (q : Int).toNat (((BitVec.sshiftRight y (((8 * i) % 64).toNat)) &&& (255#64) : BitVec 64).toInt)) (q + 1) (by omega) (by rw [show (i + 1).toNat = i.toNat + 1 by omega, apM, ← i1, ← show q = cl + ((i.toNat : Nat) : Int) by omega, adM, show (8 * i % 64).toNat = 8 * i.toNat by omega]) (by omega) (by omega)
        refine z_lsub C [1, 2, 3, 0] rfl ?_
        exact J33 _ 0 bt cl (by omega) (rfl) (by omega) (Nat.lt_succ_self _)
      · refine z_iconst C (z := 0) dX8_add_28 ?_
        refine z_zret (b := false) C dX8_add_29 () ?_ ?_ ?_ (by decide) (by decide)
        · rw [decide_eq_false (by omega)]
        · exact trivial
        · rw [decide_eq_false (by omega)]; rfl
theorem kn_X8_run : zKn yX8_run wsX8_run cX8_run 6 (some .int) 2 := ⟨⟨_, rfl⟩, by decide +kernel, by decide +kernel, by decide +kernel⟩
set_option maxHeartbeats 1000000 in
set_option maxRecDepth 100000 in
theorem c_X8_run (l : Launch) (D : va_G) (cy : Nat → ClassId) (tw : Nat → Nat) (b : Nat → Nat) (kd : Int) (co : Int) (th : Int) (rw : Int) (cl : Int) (wr : Int) (po : Int) (dm : Int) (sx : Int) (aa : Int) (dk : Bool) (fi : Bool) (bb : Int) (cz : Int) (hm : Bool) (se : Nat → Bool) (da : Nat → Bool) (sa : Nat → Int) (bt : Nat → Int) (oz : Nat → Bool) (r : Int) (i : Int)  (hco : 1 ≤ co ∧ co ≤ 700) (hrw : 0 ≤ rw ∧ rw ≤ 24) (hyr : -2147483648 ≤ r ∧ r ≤ 2147483647) (hyi : -2147483648 ≤ i ∧ i ≤ 2147483647) : zMet l yX8_run wsX8_run { frames := 3, cells := 0, slots := 0, locals := 67 } D (zT cy) tw (MW cy b kd co th rw cl wr po dm sx aa dk fi bb cz hm se da sa bt oz) [.ref (b 0), vI r, vI i] 0 0 (S := Unit) (fun _ => some (vI (if 0 ≤ r ∧ r < rw ∧ 0 ≤ i ∧ i < 1 + cntC (pd da r) (co : Int).toNat then lnC (pd da r) i (co : Int).toNat else 0))) (fun _ => MW cy b kd co (if 0 ≤ r ∧ r < rw ∧ 0 ≤ i ∧ i < 1 + cntC (pd da r) (co : Int).toNat then 0 else 1) rw cl wr po dm sx aa dk fi bb cz hm se da sa bt oz) (fun _ => True) := by
  refine z_met (cc := cX8_run) (nL := 6) (ret := some .int) (by decide +kernel) rfl (Nat.le_of_ble_eq_true rfl) (lv := [(0, .ref (b 0)), (1, vI r), (2, vI i)]) rfl ?_
  intro V p_ e_ s_ m_ args_ below_ meth_ c_ A_ C hmn
  have hinX8 : ∀ w ∈ u_ws RX8 TX8 22, w ∈ wsX8_run := by decide +kernel
  have k0 : Cond.fieldLink RX8 44 "FaxFilterModel" "thrown" "I" ∈ wsX8_run := List.mem_of_getElem? (i := 1) rfl
  have k1 : Cond.fieldLink RX8 37 "FaxFilterModel" "columns" "I" ∈ wsX8_run := List.mem_of_getElem? (i := 2) rfl
  refine z_aload_n C dX8_run_0 0 rfl ?_
  refine z_aload_n C dX8_run_1 0 rfl ?_
  refine z_iload_n C dX8_run_2 1 rfl ?_
  refine z_callV C (As := [vI r]) (st := [.ref (b 0)]) (c_X8_isRow l D cy tw b kd co th rw cl wr po dm sx aa dk fi bb cz hm se da sa bt oz r  (by omega) (by omega)) gX8_run_X8_isRow kn_X8_isRow rfl ⟨rfl, rfl, Nat.le_of_ble_eq_true rfl, Nat.le_of_ble_eq_true rfl⟩ 0 rfl (ci := 10) rfl rfl (Nat.le_of_ble_eq_true rfl) ⟨Nat.le_of_ble_eq_true rfl, Nat.le_of_ble_eq_true rfl⟩ dX8_run_3 (fun u1 hu1 => ?_)
  clear hu1; clear u1
  show V 0 0 (MW cy b kd co th rw cl wr po dm sx aa dk fi bb cz hm se da sa bt oz) [(0, .ref (b 0)), (1, vI r), (2, vI i)] [vI (b2i (decide (0 ≤ r ∧ r < rw))), .ref (b 0)] 6
  refine z_ifz C (tgt := 26) dX8_run_6 (by decide) (fun c6 => ?_) (fun c6 => ?_)
  · have hi := of_decide_eq_false c6
    refine z_iconst C (z := 1) dX8_run_26 ?_
    refine z_put C hinX8 tyX8 tyX8_ok nmX8 (ci := 10) rfl 0 rfl 0 (by decide) k0 rfl rfl rfl rfl (Nat.le_of_ble_eq_true rfl) dX8_run_27 (ws' := MW cy b kd co 1 rw cl wr po dm sx aa dk fi bb cz hm se da sa bt oz) rfl ?_
    refine z_iconst C (z := 0) dX8_run_30 ?_
    refine z_istore_n C (lv' := [(3, vI 0), (0, .ref (b 0)), (1, vI r), (2, vI i)]) dX8_run_31 rfl (by decide) rfl ?_
    refine z_iconst C (z := 0) dX8_run_32 ?_
    refine z_istore C (lv' := [(4, vI 0), (3, vI 0), (0, .ref (b 0)), (1, vI r), (2, vI i)]) dX8_run_33 (by decide) rfl ?_
    refine z_iconst C (z := 0) dX8_run_35 ?_
    refine z_istore C (lv' := [(5, vI 0), (4, vI 0), (3, vI 0), (0, .ref (b 0)), (1, vI r), (2, vI i)]) dX8_run_36 (by decide) rfl ?_
    have J38 : ∀ (f : Nat) (y : Int) (g : Int) (x : Int) (h : Int), ((h = 0 ∧ (0 ≤ r ∧ r < rw ∧ 0 ≤ i ∧ i < 1 + cntC (pd da r) (co : Int).toNat)) ∨ (h = 1 ∧ x = 0 ∧ ¬ (0 ≤ r ∧ r < rw ∧ 0 ≤ i ∧ i < 1 + cntC (pd da r) (co : Int).toNat))) → (0 ≤ x ∧ x ≤ co) → (y = cntC (pd da r) x.toNat) → (g = lnC (pd da r) i x.toNat) → (co - x).toNat < f → V 0 0 (MW cy b kd co h rw cl wr po dm sx aa dk fi bb cz hm se da sa bt oz) [(0, .ref (b 0)), (1, vI r), (2, vI i), (3, vI y), (4, vI g), (5, vI x)] [] 38 := by
      intro f
      induction f with
      | zero => intro y g x h hh i0 i1 i2 hf; exact absurd hf (Nat.not_lt_zero _)
      | succ f ih =>
        intro y g x h hh i0 i1 i2 hf
        have hcn := cntC_rg (pd da r) x.toNat
        have hcs := cntC_rg (pd da r) (x.toNat + 1)
        refine z_iload C dX8_run_38 5 rfl ?_
        refine z_aload_n C dX8_run_40 0 rfl ?_
        refine z_get C hinX8 (ci := 10) rfl 0 rfl 2 (by decide) k1 rfl (v := vI co) rfl dX8_run_41 ?_
        refine z_icmp_ge C (by omega) (by omega) (tgt := 93) dX8_run_44 (by decide) (fun hc_2 => ?_) (fun hc_2 => ?_)
        · refine z_iload C dX8_run_93 4 rfl ?_
          refine z_iret (x := g) C dX8_run_95 () ?_ ?_ ?_ (by decide) (by decide)
          · rw [i2]; rcases hh with ⟨z1, z2⟩ | ⟨z1, z2, z3⟩
            · rw [if_pos z2, show x = co by omega]
            · rw [if_neg z3, z2]; rfl
          · exact trivial
          · rcases hh with ⟨z1, z2⟩ | ⟨z1, z2, z3⟩
            · rw [if_pos z2, z1]
            · rw [if_neg z3, z1]
        · refine z_aload_n C dX8_run_47 0 rfl ?_
          refine z_get C hinX8 (ci := 10) rfl 0 rfl 0 (by decide) k0 rfl (v := vI h) rfl dX8_run_48 ?_
          refine z_if_ne C (by omega) (tgt := 93) dX8_run_51 (by decide) (fun hc_3 => ?_) (fun hc_3 => ?_)
          · refine z_iload C dX8_run_93 4 rfl ?_
            refine z_iret (x := g) C dX8_run_95 () ?_ ?_ ?_ (by decide) (by decide)
            · rw [i2]; rcases hh with ⟨z1, z2⟩ | ⟨z1, z2, z3⟩
              · rw [if_pos z2, show x = co by omega]
              · rw [if_neg z3, z2]; rfl
            · exact trivial
            · rcases hh with ⟨z1, z2⟩ | ⟨z1, z2, z3⟩
              · rw [if_pos z2, z1]
              · rw [if_neg z3, z1]
          · refine z_iload_n C dX8_run_54 3 rfl ?_
            refine z_aload_n C dX8_run_55 0 rfl ?_
            refine z_iload_n C dX8_run_56 1 rfl ?_
            refine z_iload C dX8_run_57 5 rfl ?_
            refine z_callV C (As := [vI r, vI x]) (st := [vI y]) (c_X8_isChange l D cy tw b kd co h rw cl wr po dm sx aa dk fi bb cz hm se da sa bt oz r x  (by omega) (by omega)) gX8_run_X8_isChange kn_X8_isChange rfl ⟨rfl, rfl, Nat.le_of_ble_eq_true rfl, Nat.le_of_ble_eq_true rfl⟩ 0 rfl (ci := 10) rfl rfl (Nat.le_of_ble_eq_true rfl) ⟨Nat.le_of_ble_eq_true rfl, Nat.le_of_ble_eq_true rfl⟩ dX8_run_59 (fun u4 hu4 => ?_)
            clear hu4; clear u4
            show V 0 0 (MW cy b kd co h rw cl wr po dm sx aa dk fi bb cz hm se da sa bt oz) [(0, .ref (b 0)), (1, vI r), (2, vI i), (3, vI y), (4, vI g), (5, vI x)] [vI (b2i (chg (pd da r) x)), vI y] 62
            refine z_ifz C (tgt := 69) dX8_run_62 (by decide) (fun cb => ?_) (fun cb => ?_)
            · have ie : y + b2i (chg (pd da r) x) = cntC (pd da r) (x.toNat + 1) := by rw [cntC, ← i1, show ((x.toNat : Nat) : Int) = x by omega]
              rw [cb] at ie
              first | rw [b2i_t] at ie | rw [b2i_f] at ie
              refine z_iconst C (z := 0) dX8_run_69 ?_
              refine z_iadd C dX8_run_70 ?_
              refine z_istore_n C (lv' := [(3, vI (y + 0)), (0, .ref (b 0)), (1, vI r), (2, vI i), (4, vI g), (5, vI x)]) dX8_run_71 rfl (by decide) rfl ?_
              refine z_iload C dX8_run_72 4 rfl ?_
              refine z_iload_n C dX8_run_74 0 rfl ?_
              refine z_iload_n C dX8_run_75 3 rfl ?_
              refine z_icmp_ne C (by omega) (by omega) (tgt := 83) dX8_run_76 (by decide) (fun cj => ?_) (fun cj => ?_)
              · refine z_iconst C (z := 0) dX8_run_83 ?_
                refine z_iadd C dX8_run_84 ?_
                refine z_istore C (lv' := [(4, vI (g + 0)), (3, vI (y + 0)), (0, .ref (b 0)), (1, vI r), (2, vI i), (5, vI x)]) dX8_run_85 (by decide) rfl ?_
                refine z_iinc C (lv' := [(5, vI (x + 1)), (4, vI (g + 0)), (3, vI (y + 0)), (0, .ref (b 0)), (1, vI r), (2, vI i)]) dX8_run_87 5 rfl (by decide) rfl ?_
                refine z_goto C (tgt := 38) dX8_run_90 (by decide) ?_
                refine z_lsub C [3, 4, 5, 2, 1, 0] rfl ?_
                exact ih (y + 0) (g + 0) (x + 1) h (by omega) (by omega) (by rw [show (x + 1).toNat = x.toNat + 1 by omega, ← ie]) (by rw [show (x + 1).toNat = x.toNat + 1 by omega, lnC, ← i2, dec_b2i, if_neg (by omega)]) (by omega)
              · refine z_iconst C (z := 1) dX8_run_79 ?_
                refine z_goto C (tgt := 84) dX8_run_80 (by decide) ?_
                refine z_iadd C dX8_run_84 ?_
                refine z_istore C (lv' := [(4, vI (g + 1)), (3, vI (y + 0)), (0, .ref (b 0)), (1, vI r), (2, vI i), (5, vI x)]) dX8_run_85 (by decide) rfl ?_
                refine z_iinc C (lv' := [(5, vI (x + 1)), (4, vI (g + 1)), (3, vI (y + 0)), (0, .ref (b 0)), (1, vI r), (2, vI i)]) dX8_run_87 5 rfl (by decide) rfl ?_
                refine z_goto C (tgt := 38) dX8_run_90 (by decide) ?_
                refine z_lsub C [3, 4, 5, 2, 1, 0] rfl ?_
                exact ih (y + 0) (g + 1) (x + 1) h (by omega) (by omega) (by rw [show (x + 1).toNat = x.toNat + 1 by omega, ← ie]) (by rw [show (x + 1).toNat = x.toNat + 1 by omega, lnC, ← i2, dec_b2i, if_pos (by omega)]) (by omega)
            · have ie : y + b2i (chg (pd da r) x) = cntC (pd da r) (x.toNat + 1) := by rw [cntC, ← i1, show ((x.toNat : Nat) : Int) = x by omega]
              rw [cb] at ie
              first | rw [b2i_t] at ie | rw [b2i_f] at ie
              refine z_iconst C (z := 1) dX8_run_65 ?_
              refine z_goto C (tgt := 70) dX8_run_66 (by decide) ?_
              refine z_iadd C dX8_run_70 ?_
              refine z_istore_n C (lv' := [(3, vI (y + 1)), (0, .ref (b 0)), (1, vI r), (2, vI i), (4, vI g), (5, vI x)]) dX8_run_71 rfl (by decide) rfl ?_
              refine z_iload C dX8_run_72 4 rfl ?_
              refine z_iload_n C dX8_run_74 0 rfl ?_
              refine z_iload_n C dX8_run_75 3 rfl ?_
              refine z_icmp_ne C (by omega) (by omega) (tgt := 83) dX8_run_76 (by decide) (fun cj => ?_) (fun cj => ?_)
              · refine z_iconst C (z := 0) dX8_run_83 ?_
                refine z_iadd C dX8_run_84 ?_
                refine z_istore C (lv' := [(4, vI (g + 0)), (3, vI (y + 1)), (0, .ref (b 0)), (1, vI r), (2, vI i), (5, vI x)]) dX8_run_85 (by decide) rfl ?_
                refine z_iinc C (lv' := [(5, vI (x + 1)), (4, vI (g + 0)), (3, vI (y + 1)), (0, .ref (b 0)), (1, vI r), (2, vI i)]) dX8_run_87 5 rfl (by decide) rfl ?_
                refine z_goto C (tgt := 38) dX8_run_90 (by decide) ?_
                refine z_lsub C [3, 4, 5, 2, 1, 0] rfl ?_
                exact ih (y + 1) (g + 0) (x + 1) h (by omega) (by omega) (by rw [show (x + 1).toNat = x.toNat + 1 by omega, ← ie]) (by rw [show (x + 1).toNat = x.toNat + 1 by omega, lnC, ← i2, dec_b2i, if_neg (by omega)]) (by omega)
              · refine z_iconst C (z := 1) dX8_run_79 ?_
                refine z_goto C (tgt := 84) dX8_run_80 (by decide) ?_
                refine z_iadd C dX8_run_84 ?_
                refine z_istore C (lv' := [(4, vI (g + 1)), (3, vI (y + 1)), (0, .ref (b 0)), (1, vI r), (2, vI i), (5, vI x)]) dX8_run_85 (by decide) rfl ?_
                refine z_iinc C (lv' := [(5, vI (x + 1)), (4, vI (g + 1)), (3, vI (y + 1)), (0, .ref (b 0)), (1, vI r), (2, vI i)]) dX8_run_87 5 rfl (by decide) rfl ?_
                refine z_goto C (tgt := 38) dX8_run_90 (by decide) ?_
                refine z_lsub C [3, 4, 5, 2, 1, 0] rfl ?_
                exact ih (y + 1) (g + 1) (x + 1) h (by omega) (by omega) (by rw [show (x + 1).toNat = x.toNat + 1 by omega, ← ie]) (by rw [show (x + 1).toNat = x.toNat + 1 by omega, lnC, ← i2, dec_b2i, if_pos (by omega)]) (by omega)
    refine z_lsub C [3, 4, 5, 2, 1, 0] rfl ?_
    exact J38 _ 0 0 0 1 (by omega) (by omega) (rfl) (rfl) (Nat.lt_succ_self _)
  · have hi := of_decide_eq_true c6
    refine z_iload_n C dX8_run_9 2 rfl ?_
    refine z_if_lt C (by omega) (tgt := 26) dX8_run_10 (by decide) (fun hc_5 => ?_) (fun hc_5 => ?_)
    · refine z_iconst C (z := 1) dX8_run_26 ?_
      refine z_put C hinX8 tyX8 tyX8_ok nmX8 (ci := 10) rfl 0 rfl 0 (by decide) k0 rfl rfl rfl rfl (Nat.le_of_ble_eq_true rfl) dX8_run_27 (ws' := MW cy b kd co 1 rw cl wr po dm sx aa dk fi bb cz hm se da sa bt oz) rfl ?_
      refine z_iconst C (z := 0) dX8_run_30 ?_
      refine z_istore_n C (lv' := [(3, vI 0), (0, .ref (b 0)), (1, vI r), (2, vI i)]) dX8_run_31 rfl (by decide) rfl ?_
      refine z_iconst C (z := 0) dX8_run_32 ?_
      refine z_istore C (lv' := [(4, vI 0), (3, vI 0), (0, .ref (b 0)), (1, vI r), (2, vI i)]) dX8_run_33 (by decide) rfl ?_
      refine z_iconst C (z := 0) dX8_run_35 ?_
      refine z_istore C (lv' := [(5, vI 0), (4, vI 0), (3, vI 0), (0, .ref (b 0)), (1, vI r), (2, vI i)]) dX8_run_36 (by decide) rfl ?_
      have J38 : ∀ (f : Nat) (y : Int) (g : Int) (x : Int) (h : Int), ((h = 0 ∧ (0 ≤ r ∧ r < rw ∧ 0 ≤ i ∧ i < 1 + cntC (pd da r) (co : Int).toNat)) ∨ (h = 1 ∧ x = 0 ∧ ¬ (0 ≤ r ∧ r < rw ∧ 0 ≤ i ∧ i < 1 + cntC (pd da r) (co : Int).toNat))) → (0 ≤ x ∧ x ≤ co) → (y = cntC (pd da r) x.toNat) → (g = lnC (pd da r) i x.toNat) → (co - x).toNat < f → V 0 0 (MW cy b kd co h rw cl wr po dm sx aa dk fi bb cz hm se da sa bt oz) [(0, .ref (b 0)), (1, vI r), (2, vI i), (3, vI y), (4, vI g), (5, vI x)] [] 38 := by
        intro f
        induction f with
        | zero => intro y g x h hh i0 i1 i2 hf; exact absurd hf (Nat.not_lt_zero _)
        | succ f ih =>
          intro y g x h hh i0 i1 i2 hf
          have hcn := cntC_rg (pd da r) x.toNat
          have hcs := cntC_rg (pd da r) (x.toNat + 1)
          refine z_iload C dX8_run_38 5 rfl ?_
          refine z_aload_n C dX8_run_40 0 rfl ?_
          refine z_get C hinX8 (ci := 10) rfl 0 rfl 2 (by decide) k1 rfl (v := vI co) rfl dX8_run_41 ?_
          refine z_icmp_ge C (by omega) (by omega) (tgt := 93) dX8_run_44 (by decide) (fun hc_6 => ?_) (fun hc_6 => ?_)
          · refine z_iload C dX8_run_93 4 rfl ?_
            refine z_iret (x := g) C dX8_run_95 () ?_ ?_ ?_ (by decide) (by decide)
            · rw [i2]; rcases hh with ⟨z1, z2⟩ | ⟨z1, z2, z3⟩
              · rw [if_pos z2, show x = co by omega]
              · rw [if_neg z3, z2]; rfl
            · exact trivial
            · rcases hh with ⟨z1, z2⟩ | ⟨z1, z2, z3⟩
              · rw [if_pos z2, z1]
              · rw [if_neg z3, z1]
          · refine z_aload_n C dX8_run_47 0 rfl ?_
            refine z_get C hinX8 (ci := 10) rfl 0 rfl 0 (by decide) k0 rfl (v := vI h) rfl dX8_run_48 ?_
            refine z_if_ne C (by omega) (tgt := 93) dX8_run_51 (by decide) (fun hc_7 => ?_) (fun hc_7 => ?_)
            · refine z_iload C dX8_run_93 4 rfl ?_
              refine z_iret (x := g) C dX8_run_95 () ?_ ?_ ?_ (by decide) (by decide)
              · rw [i2]; rcases hh with ⟨z1, z2⟩ | ⟨z1, z2, z3⟩
                · rw [if_pos z2, show x = co by omega]
                · rw [if_neg z3, z2]; rfl
              · exact trivial
              · rcases hh with ⟨z1, z2⟩ | ⟨z1, z2, z3⟩
                · rw [if_pos z2, z1]
                · rw [if_neg z3, z1]
            · refine z_iload_n C dX8_run_54 3 rfl ?_
              refine z_aload_n C dX8_run_55 0 rfl ?_
              refine z_iload_n C dX8_run_56 1 rfl ?_
              refine z_iload C dX8_run_57 5 rfl ?_
              refine z_callV C (As := [vI r, vI x]) (st := [vI y]) (c_X8_isChange l D cy tw b kd co h rw cl wr po dm sx aa dk fi bb cz hm se da sa bt oz r x  (by omega) (by omega)) gX8_run_X8_isChange kn_X8_isChange rfl ⟨rfl, rfl, Nat.le_of_ble_eq_true rfl, Nat.le_of_ble_eq_true rfl⟩ 0 rfl (ci := 10) rfl rfl (Nat.le_of_ble_eq_true rfl) ⟨Nat.le_of_ble_eq_true rfl, Nat.le_of_ble_eq_true rfl⟩ dX8_run_59 (fun u8 hu8 => ?_)
              clear hu8; clear u8
              show V 0 0 (MW cy b kd co h rw cl wr po dm sx aa dk fi bb cz hm se da sa bt oz) [(0, .ref (b 0)), (1, vI r), (2, vI i), (3, vI y), (4, vI g), (5, vI x)] [vI (b2i (chg (pd da r) x)), vI y] 62
              refine z_ifz C (tgt := 69) dX8_run_62 (by decide) (fun cb => ?_) (fun cb => ?_)
              · have ie : y + b2i (chg (pd da r) x) = cntC (pd da r) (x.toNat + 1) := by rw [cntC, ← i1, show ((x.toNat : Nat) : Int) = x by omega]
                rw [cb] at ie
                first | rw [b2i_t] at ie | rw [b2i_f] at ie
                refine z_iconst C (z := 0) dX8_run_69 ?_
                refine z_iadd C dX8_run_70 ?_
                refine z_istore_n C (lv' := [(3, vI (y + 0)), (0, .ref (b 0)), (1, vI r), (2, vI i), (4, vI g), (5, vI x)]) dX8_run_71 rfl (by decide) rfl ?_
                refine z_iload C dX8_run_72 4 rfl ?_
                refine z_iload_n C dX8_run_74 0 rfl ?_
                refine z_iload_n C dX8_run_75 3 rfl ?_
                refine z_icmp_ne C (by omega) (by omega) (tgt := 83) dX8_run_76 (by decide) (fun cj => ?_) (fun cj => ?_)
                · refine z_iconst C (z := 0) dX8_run_83 ?_
                  refine z_iadd C dX8_run_84 ?_
                  refine z_istore C (lv' := [(4, vI (g + 0)), (3, vI (y + 0)), (0, .ref (b 0)), (1, vI r), (2, vI i), (5, vI x)]) dX8_run_85 (by decide) rfl ?_
                  refine z_iinc C (lv' := [(5, vI (x + 1)), (4, vI (g + 0)), (3, vI (y + 0)), (0, .ref (b 0)), (1, vI r), (2, vI i)]) dX8_run_87 5 rfl (by decide) rfl ?_
                  refine z_goto C (tgt := 38) dX8_run_90 (by decide) ?_
                  refine z_lsub C [3, 4, 5, 2, 1, 0] rfl ?_
                  exact ih (y + 0) (g + 0) (x + 1) h (by omega) (by omega) (by rw [show (x + 1).toNat = x.toNat + 1 by omega, ← ie]) (by rw [show (x + 1).toNat = x.toNat + 1 by omega, lnC, ← i2, dec_b2i, if_neg (by omega)]) (by omega)
                · refine z_iconst C (z := 1) dX8_run_79 ?_
                  refine z_goto C (tgt := 84) dX8_run_80 (by decide) ?_
                  refine z_iadd C dX8_run_84 ?_
                  refine z_istore C (lv' := [(4, vI (g + 1)), (3, vI (y + 0)), (0, .ref (b 0)), (1, vI r), (2, vI i), (5, vI x)]) dX8_run_85 (by decide) rfl ?_
                  refine z_iinc C (lv' := [(5, vI (x + 1)), (4, vI (g + 1)), (3, vI (y + 0)), (0, .ref (b 0)), (1, vI r), (2, vI i)]) dX8_run_87 5 rfl (by decide) rfl ?_
                  refine z_goto C (tgt := 38) dX8_run_90 (by decide) ?_
                  refine z_lsub C [3, 4, 5, 2, 1, 0] rfl ?_
                  exact ih (y + 0) (g + 1) (x + 1) h (by omega) (by omega) (by rw [show (x + 1).toNat = x.toNat + 1 by omega, ← ie]) (by rw [show (x + 1).toNat = x.toNat + 1 by omega, lnC, ← i2, dec_b2i, if_pos (by omega)]) (by omega)
              · have ie : y + b2i (chg (pd da r) x) = cntC (pd da r) (x.toNat + 1) := by rw [cntC, ← i1, show ((x.toNat : Nat) : Int) = x by omega]
                rw [cb] at ie
                first | rw [b2i_t] at ie | rw [b2i_f] at ie
                refine z_iconst C (z := 1) dX8_run_65 ?_
                refine z_goto C (tgt := 70) dX8_run_66 (by decide) ?_
                refine z_iadd C dX8_run_70 ?_
                refine z_istore_n C (lv' := [(3, vI (y + 1)), (0, .ref (b 0)), (1, vI r), (2, vI i), (4, vI g), (5, vI x)]) dX8_run_71 rfl (by decide) rfl ?_
                refine z_iload C dX8_run_72 4 rfl ?_
                refine z_iload_n C dX8_run_74 0 rfl ?_
                refine z_iload_n C dX8_run_75 3 rfl ?_
                refine z_icmp_ne C (by omega) (by omega) (tgt := 83) dX8_run_76 (by decide) (fun cj => ?_) (fun cj => ?_)
                · refine z_iconst C (z := 0) dX8_run_83 ?_
                  refine z_iadd C dX8_run_84 ?_
                  refine z_istore C (lv' := [(4, vI (g + 0)), (3, vI (y + 1)), (0, .ref (b 0)), (1, vI r), (2, vI i), (5, vI x)]) dX8_run_85 (by decide) rfl ?_
                  refine z_iinc C (lv' := [(5, vI (x + 1)), (4, vI (g + 0)), (3, vI (y + 1)), (0, .ref (b 0)), (1, vI r), (2, vI i)]) dX8_run_87 5 rfl (by decide) rfl ?_
                  refine z_goto C (tgt := 38) dX8_run_90 (by decide) ?_
                  refine z_lsub C [3, 4, 5, 2, 1, 0] rfl ?_
                  exact ih (y + 1) (g + 0) (x + 1) h (by omega) (by omega) (by rw [show (x + 1).toNat = x.toNat + 1 by omega, ← ie]) (by rw [show (x + 1).toNat = x.toNat + 1 by omega, lnC, ← i2, dec_b2i, if_neg (by omega)]) (by omega)
                · refine z_iconst C (z := 1) dX8_run_79 ?_
                  refine z_goto C (tgt := 84) dX8_run_80 (by decide) ?_
                  refine z_iadd C dX8_run_84 ?_
                  refine z_istore C (lv' := [(4, vI (g + 1)), (3, vI (y + 1)), (0, .ref (b 0)), (1, vI r), (2, vI i), (5, vI x)]) dX8_run_85 (by decide) rfl ?_
                  refine z_iinc C (lv' := [(5, vI (x + 1)), (4, vI (g + 1)), (3, vI (y + 1)), (0, .ref (b 0)), (1, vI r), (2, vI i)]) dX8_run_87 5 rfl (by decide) rfl ?_
                  refine z_goto C (tgt := 38) dX8_run_90 (by decide) ?_
                  refine z_lsub C [3, 4, 5, 2, 1, 0] rfl ?_
                  exact ih (y + 1) (g + 1) (x + 1) h (by omega) (by omega) (by rw [show (x + 1).toNat = x.toNat + 1 by omega, ← ie]) (by rw [show (x + 1).toNat = x.toNat + 1 by omega, lnC, ← i2, dec_b2i, if_pos (by omega)]) (by omega)
      refine z_lsub C [3, 4, 5, 2, 1, 0] rfl ?_
      exact J38 _ 0 0 0 1 (by omega) (by omega) (rfl) (rfl) (Nat.lt_succ_self _)
    · refine z_iload_n C dX8_run_13 2 rfl ?_
      refine z_aload_n C dX8_run_14 0 rfl ?_
      refine z_iload_n C dX8_run_15 1 rfl ?_
      refine z_callV C (As := [vI r]) (st := [vI i, .ref (b 0)]) (c_X8_runsOf l D cy tw b kd co th rw cl wr po dm sx aa dk fi bb cz hm se da sa bt oz r  (by omega) (by omega)) gX8_run_X8_runsOf kn_X8_runsOf rfl ⟨rfl, rfl, Nat.le_of_ble_eq_true rfl, Nat.le_of_ble_eq_true rfl⟩ 0 rfl (ci := 10) rfl rfl (Nat.le_of_ble_eq_true rfl) ⟨Nat.le_of_ble_eq_true rfl, Nat.le_of_ble_eq_true rfl⟩ dX8_run_16 (fun u9 hu9 => ?_)
      clear hu9; clear u9
      show V 0 0 (MW cy b kd co th rw cl wr po dm sx aa dk fi bb cz hm se da sa bt oz) [(0, .ref (b 0)), (1, vI r), (2, vI i)] [vI (1 + cntC (pd da r) (co : Int).toNat), vI i, .ref (b 0)] 19
      have hr1 := cntC_rg (pd da r) (co : Int).toNat
      refine z_icmp_ge C (by omega) (by omega) (tgt := 26) dX8_run_19 (by decide) (fun hc_10 => ?_) (fun hc_10 => ?_)
      · refine z_iconst C (z := 1) dX8_run_26 ?_
        refine z_put C hinX8 tyX8 tyX8_ok nmX8 (ci := 10) rfl 0 rfl 0 (by decide) k0 rfl rfl rfl rfl (Nat.le_of_ble_eq_true rfl) dX8_run_27 (ws' := MW cy b kd co 1 rw cl wr po dm sx aa dk fi bb cz hm se da sa bt oz) rfl ?_
        refine z_iconst C (z := 0) dX8_run_30 ?_
        refine z_istore_n C (lv' := [(3, vI 0), (0, .ref (b 0)), (1, vI r), (2, vI i)]) dX8_run_31 rfl (by decide) rfl ?_
        refine z_iconst C (z := 0) dX8_run_32 ?_
        refine z_istore C (lv' := [(4, vI 0), (3, vI 0), (0, .ref (b 0)), (1, vI r), (2, vI i)]) dX8_run_33 (by decide) rfl ?_
        refine z_iconst C (z := 0) dX8_run_35 ?_
        refine z_istore C (lv' := [(5, vI 0), (4, vI 0), (3, vI 0), (0, .ref (b 0)), (1, vI r), (2, vI i)]) dX8_run_36 (by decide) rfl ?_
        have J38 : ∀ (f : Nat) (y : Int) (g : Int) (x : Int) (h : Int), ((h = 0 ∧ (0 ≤ r ∧ r < rw ∧ 0 ≤ i ∧ i < 1 + cntC (pd da r) (co : Int).toNat)) ∨ (h = 1 ∧ x = 0 ∧ ¬ (0 ≤ r ∧ r < rw ∧ 0 ≤ i ∧ i < 1 + cntC (pd da r) (co : Int).toNat))) → (0 ≤ x ∧ x ≤ co) → (y = cntC (pd da r) x.toNat) → (g = lnC (pd da r) i x.toNat) → (co - x).toNat < f → V 0 0 (MW cy b kd co h rw cl wr po dm sx aa dk fi bb cz hm se da sa bt oz) [(0, .ref (b 0)), (1, vI r), (2, vI i), (3, vI y), (4, vI g), (5, vI x)] [] 38 := by
          intro f
          induction f with
          | zero => intro y g x h hh i0 i1 i2 hf; exact absurd hf (Nat.not_lt_zero _)
          | succ f ih =>
            intro y g x h hh i0 i1 i2 hf
            have hcn := cntC_rg (pd da r) x.toNat
            have hcs := cntC_rg (pd da r) (x.toNat + 1)
            refine z_iload C dX8_run_38 5 rfl ?_
            refine z_aload_n C dX8_run_40 0 rfl ?_
            refine z_get C hinX8 (ci := 10) rfl 0 rfl 2 (by decide) k1 rfl (v := vI co) rfl dX8_run_41 ?_
            refine z_icmp_ge C (by omega) (by omega) (tgt := 93) dX8_run_44 (by decide) (fun hc_11 => ?_) (fun hc_11 => ?_)
            · refine z_iload C dX8_run_93 4 rfl ?_
              refine z_iret (x := g) C dX8_run_95 () ?_ ?_ ?_ (by decide) (by decide)
              · rw [i2]; rcases hh with ⟨z1, z2⟩ | ⟨z1, z2, z3⟩
                · rw [if_pos z2, show x = co by omega]
                · rw [if_neg z3, z2]; rfl
              · exact trivial
              · rcases hh with ⟨z1, z2⟩ | ⟨z1, z2, z3⟩
                · rw [if_pos z2, z1]
                · rw [if_neg z3, z1]
            · refine z_aload_n C dX8_run_47 0 rfl ?_
              refine z_get C hinX8 (ci := 10) rfl 0 rfl 0 (by decide) k0 rfl (v := vI h) rfl dX8_run_48 ?_
              refine z_if_ne C (by omega) (tgt := 93) dX8_run_51 (by decide) (fun hc_12 => ?_) (fun hc_12 => ?_)
              · refine z_iload C dX8_run_93 4 rfl ?_
                refine z_iret (x := g) C dX8_run_95 () ?_ ?_ ?_ (by decide) (by decide)
                · rw [i2]; rcases hh with ⟨z1, z2⟩ | ⟨z1, z2, z3⟩
                  · rw [if_pos z2, show x = co by omega]
                  · rw [if_neg z3, z2]; rfl
                · exact trivial
                · rcases hh with ⟨z1, z2⟩ | ⟨z1, z2, z3⟩
                  · rw [if_pos z2, z1]
                  · rw [if_neg z3, z1]
              · refine z_iload_n C dX8_run_54 3 rfl ?_
                refine z_aload_n C dX8_run_55 0 rfl ?_
                refine z_iload_n C dX8_run_56 1 rfl ?_
                refine z_iload C dX8_run_57 5 rfl ?_
                refine z_callV C (As := [vI r, vI x]) (st := [vI y]) (c_X8_isChange l D cy tw b kd co h rw cl wr po dm sx aa dk fi bb cz hm se da sa bt oz r x  (by omega) (by omega)) gX8_run_X8_isChange kn_X8_isChange rfl ⟨rfl, rfl, Nat.le_of_ble_eq_true rfl, Nat.le_of_ble_eq_true rfl⟩ 0 rfl (ci := 10) rfl rfl (Nat.le_of_ble_eq_true rfl) ⟨Nat.le_of_ble_eq_true rfl, Nat.le_of_ble_eq_true rfl⟩ dX8_run_59 (fun u13 hu13 => ?_)
                clear hu13; clear u13
                show V 0 0 (MW cy b kd co h rw cl wr po dm sx aa dk fi bb cz hm se da sa bt oz) [(0, .ref (b 0)), (1, vI r), (2, vI i), (3, vI y), (4, vI g), (5, vI x)] [vI (b2i (chg (pd da r) x)), vI y] 62
                refine z_ifz C (tgt := 69) dX8_run_62 (by decide) (fun cb => ?_) (fun cb => ?_)
                · have ie : y + b2i (chg (pd da r) x) = cntC (pd da r) (x.toNat + 1) := by rw [cntC, ← i1, show ((x.toNat : Nat) : Int) = x by omega]
                  rw [cb] at ie
                  first | rw [b2i_t] at ie | rw [b2i_f] at ie
                  refine z_iconst C (z := 0) dX8_run_69 ?_
                  refine z_iadd C dX8_run_70 ?_
                  refine z_istore_n C (lv' := [(3, vI (y + 0)), (0, .ref (b 0)), (1, vI r), (2, vI i), (4, vI g), (5, vI x)]) dX8_run_71 rfl (by decide) rfl ?_
                  refine z_iload C dX8_run_72 4 rfl ?_
                  refine z_iload_n C dX8_run_74 0 rfl ?_
                  refine z_iload_n C dX8_run_75 3 rfl ?_
                  refine z_icmp_ne C (by omega) (by omega) (tgt := 83) dX8_run_76 (by decide) (fun cj => ?_) (fun cj => ?_)
                  · refine z_iconst C (z := 0) dX8_run_83 ?_
                    refine z_iadd C dX8_run_84 ?_
                    refine z_istore C (lv' := [(4, vI (g + 0)), (3, vI (y + 0)), (0, .ref (b 0)), (1, vI r), (2, vI i), (5, vI x)]) dX8_run_85 (by decide) rfl ?_
                    refine z_iinc C (lv' := [(5, vI (x + 1)), (4, vI (g + 0)), (3, vI (y + 0)), (0, .ref (b 0)), (1, vI r), (2, vI i)]) dX8_run_87 5 rfl (by decide) rfl ?_
                    refine z_goto C (tgt := 38) dX8_run_90 (by decide) ?_
                    refine z_lsub C [3, 4, 5, 2, 1, 0] rfl ?_
                    exact ih (y + 0) (g + 0) (x + 1) h (by omega) (by omega) (by rw [show (x + 1).toNat = x.toNat + 1 by omega, ← ie]) (by rw [show (x + 1).toNat = x.toNat + 1 by omega, lnC, ← i2, dec_b2i, if_neg (by omega)]) (by omega)
                  · refine z_iconst C (z := 1) dX8_run_79 ?_
                    refine z_goto C (tgt := 84) dX8_run_80 (by decide) ?_
                    refine z_iadd C dX8_run_84 ?_
                    refine z_istore C (lv' := [(4, vI (g + 1)), (3, vI (y + 0)), (0, .ref (b 0)), (1, vI r), (2, vI i), (5, vI x)]) dX8_run_85 (by decide) rfl ?_
                    refine z_iinc C (lv' := [(5, vI (x + 1)), (4, vI (g + 1)), (3, vI (y + 0)), (0, .ref (b 0)), (1, vI r), (2, vI i)]) dX8_run_87 5 rfl (by decide) rfl ?_
                    refine z_goto C (tgt := 38) dX8_run_90 (by decide) ?_
                    refine z_lsub C [3, 4, 5, 2, 1, 0] rfl ?_
                    exact ih (y + 0) (g + 1) (x + 1) h (by omega) (by omega) (by rw [show (x + 1).toNat = x.toNat + 1 by omega, ← ie]) (by rw [show (x + 1).toNat = x.toNat + 1 by omega, lnC, ← i2, dec_b2i, if_pos (by omega)]) (by omega)
                · have ie : y + b2i (chg (pd da r) x) = cntC (pd da r) (x.toNat + 1) := by rw [cntC, ← i1, show ((x.toNat : Nat) : Int) = x by omega]
                  rw [cb] at ie
                  first | rw [b2i_t] at ie | rw [b2i_f] at ie
                  refine z_iconst C (z := 1) dX8_run_65 ?_
                  refine z_goto C (tgt := 70) dX8_run_66 (by decide) ?_
                  refine z_iadd C dX8_run_70 ?_
                  refine z_istore_n C (lv' := [(3, vI (y + 1)), (0, .ref (b 0)), (1, vI r), (2, vI i), (4, vI g), (5, vI x)]) dX8_run_71 rfl (by decide) rfl ?_
                  refine z_iload C dX8_run_72 4 rfl ?_
                  refine z_iload_n C dX8_run_74 0 rfl ?_
                  refine z_iload_n C dX8_run_75 3 rfl ?_
                  refine z_icmp_ne C (by omega) (by omega) (tgt := 83) dX8_run_76 (by decide) (fun cj => ?_) (fun cj => ?_)
                  · refine z_iconst C (z := 0) dX8_run_83 ?_
                    refine z_iadd C dX8_run_84 ?_
                    refine z_istore C (lv' := [(4, vI (g + 0)), (3, vI (y + 1)), (0, .ref (b 0)), (1, vI r), (2, vI i), (5, vI x)]) dX8_run_85 (by decide) rfl ?_
                    refine z_iinc C (lv' := [(5, vI (x + 1)), (4, vI (g + 0)), (3, vI (y + 1)), (0, .ref (b 0)), (1, vI r), (2, vI i)]) dX8_run_87 5 rfl (by decide) rfl ?_
                    refine z_goto C (tgt := 38) dX8_run_90 (by decide) ?_
                    refine z_lsub C [3, 4, 5, 2, 1, 0] rfl ?_
                    exact ih (y + 1) (g + 0) (x + 1) h (by omega) (by omega) (by rw [show (x + 1).toNat = x.toNat + 1 by omega, ← ie]) (by rw [show (x + 1).toNat = x.toNat + 1 by omega, lnC, ← i2, dec_b2i, if_neg (by omega)]) (by omega)
                  · refine z_iconst C (z := 1) dX8_run_79 ?_
                    refine z_goto C (tgt := 84) dX8_run_80 (by decide) ?_
                    refine z_iadd C dX8_run_84 ?_
                    refine z_istore C (lv' := [(4, vI (g + 1)), (3, vI (y + 1)), (0, .ref (b 0)), (1, vI r), (2, vI i), (5, vI x)]) dX8_run_85 (by decide) rfl ?_
                    refine z_iinc C (lv' := [(5, vI (x + 1)), (4, vI (g + 1)), (3, vI (y + 1)), (0, .ref (b 0)), (1, vI r), (2, vI i)]) dX8_run_87 5 rfl (by decide) rfl ?_
                    refine z_goto C (tgt := 38) dX8_run_90 (by decide) ?_
                    refine z_lsub C [3, 4, 5, 2, 1, 0] rfl ?_
                    exact ih (y + 1) (g + 1) (x + 1) h (by omega) (by omega) (by rw [show (x + 1).toNat = x.toNat + 1 by omega, ← ie]) (by rw [show (x + 1).toNat = x.toNat + 1 by omega, lnC, ← i2, dec_b2i, if_pos (by omega)]) (by omega)
        refine z_lsub C [3, 4, 5, 2, 1, 0] rfl ?_
        exact J38 _ 0 0 0 1 (by omega) (by omega) (rfl) (rfl) (Nat.lt_succ_self _)
      · refine z_iconst C (z := 0) dX8_run_22 ?_
        refine z_goto C (tgt := 27) dX8_run_23 (by decide) ?_
        refine z_put C hinX8 tyX8 tyX8_ok nmX8 (ci := 10) rfl 0 rfl 0 (by decide) k0 rfl rfl rfl rfl (Nat.le_of_ble_eq_true rfl) dX8_run_27 (ws' := MW cy b kd co 0 rw cl wr po dm sx aa dk fi bb cz hm se da sa bt oz) rfl ?_
        refine z_iconst C (z := 0) dX8_run_30 ?_
        refine z_istore_n C (lv' := [(3, vI 0), (0, .ref (b 0)), (1, vI r), (2, vI i)]) dX8_run_31 rfl (by decide) rfl ?_
        refine z_iconst C (z := 0) dX8_run_32 ?_
        refine z_istore C (lv' := [(4, vI 0), (3, vI 0), (0, .ref (b 0)), (1, vI r), (2, vI i)]) dX8_run_33 (by decide) rfl ?_
        refine z_iconst C (z := 0) dX8_run_35 ?_
        refine z_istore C (lv' := [(5, vI 0), (4, vI 0), (3, vI 0), (0, .ref (b 0)), (1, vI r), (2, vI i)]) dX8_run_36 (by decide) rfl ?_
        have J38 : ∀ (f : Nat) (y : Int) (g : Int) (x : Int) (h : Int), ((h = 0 ∧ (0 ≤ r ∧ r < rw ∧ 0 ≤ i ∧ i < 1 + cntC (pd da r) (co : Int).toNat)) ∨ (h = 1 ∧ x = 0 ∧ ¬ (0 ≤ r ∧ r < rw ∧ 0 ≤ i ∧ i < 1 + cntC (pd da r) (co : Int).toNat))) → (0 ≤ x ∧ x ≤ co) → (y = cntC (pd da r) x.toNat) → (g = lnC (pd da r) i x.toNat) → (co - x).toNat < f → V 0 0 (MW cy b kd co h rw cl wr po dm sx aa dk fi bb cz hm se da sa bt oz) [(0, .ref (b 0)), (1, vI r), (2, vI i), (3, vI y), (4, vI g), (5, vI x)] [] 38 := by
          intro f
          induction f with
          | zero => intro y g x h hh i0 i1 i2 hf; exact absurd hf (Nat.not_lt_zero _)
          | succ f ih =>
            intro y g x h hh i0 i1 i2 hf
            have hcn := cntC_rg (pd da r) x.toNat
            have hcs := cntC_rg (pd da r) (x.toNat + 1)
            refine z_iload C dX8_run_38 5 rfl ?_
            refine z_aload_n C dX8_run_40 0 rfl ?_
            refine z_get C hinX8 (ci := 10) rfl 0 rfl 2 (by decide) k1 rfl (v := vI co) rfl dX8_run_41 ?_
            refine z_icmp_ge C (by omega) (by omega) (tgt := 93) dX8_run_44 (by decide) (fun hc_14 => ?_) (fun hc_14 => ?_)
            · refine z_iload C dX8_run_93 4 rfl ?_
              refine z_iret (x := g) C dX8_run_95 () ?_ ?_ ?_ (by decide) (by decide)
              · rw [i2]; rcases hh with ⟨z1, z2⟩ | ⟨z1, z2, z3⟩
                · rw [if_pos z2, show x = co by omega]
                · rw [if_neg z3, z2]; rfl
              · exact trivial
              · rcases hh with ⟨z1, z2⟩ | ⟨z1, z2, z3⟩
                · rw [if_pos z2, z1]
                · rw [if_neg z3, z1]
            · refine z_aload_n C dX8_run_47 0 rfl ?_
              refine z_get C hinX8 (ci := 10) rfl 0 rfl 0 (by decide) k0 rfl (v := vI h) rfl dX8_run_48 ?_
              refine z_if_ne C (by omega) (tgt := 93) dX8_run_51 (by decide) (fun hc_15 => ?_) (fun hc_15 => ?_)
              · refine z_iload C dX8_run_93 4 rfl ?_
                refine z_iret (x := g) C dX8_run_95 () ?_ ?_ ?_ (by decide) (by decide)
                · rw [i2]; rcases hh with ⟨z1, z2⟩ | ⟨z1, z2, z3⟩
                  · rw [if_pos z2, show x = co by omega]
                  · rw [if_neg z3, z2]; rfl
                · exact trivial
                · rcases hh with ⟨z1, z2⟩ | ⟨z1, z2, z3⟩
                  · rw [if_pos z2, z1]
                  · rw [if_neg z3, z1]
              · refine z_iload_n C dX8_run_54 3 rfl ?_
                refine z_aload_n C dX8_run_55 0 rfl ?_
                refine z_iload_n C dX8_run_56 1 rfl ?_
                refine z_iload C dX8_run_57 5 rfl ?_
                refine z_callV C (As := [vI r, vI x]) (st := [vI y]) (c_X8_isChange l D cy tw b kd co h rw cl wr po dm sx aa dk fi bb cz hm se da sa bt oz r x  (by omega) (by omega)) gX8_run_X8_isChange kn_X8_isChange rfl ⟨rfl, rfl, Nat.le_of_ble_eq_true rfl, Nat.le_of_ble_eq_true rfl⟩ 0 rfl (ci := 10) rfl rfl (Nat.le_of_ble_eq_true rfl) ⟨Nat.le_of_ble_eq_true rfl, Nat.le_of_ble_eq_true rfl⟩ dX8_run_59 (fun u16 hu16 => ?_)
                clear hu16; clear u16
                show V 0 0 (MW cy b kd co h rw cl wr po dm sx aa dk fi bb cz hm se da sa bt oz) [(0, .ref (b 0)), (1, vI r), (2, vI i), (3, vI y), (4, vI g), (5, vI x)] [vI (b2i (chg (pd da r) x)), vI y] 62
                refine z_ifz C (tgt := 69) dX8_run_62 (by decide) (fun cb => ?_) (fun cb => ?_)
                · have ie : y + b2i (chg (pd da r) x) = cntC (pd da r) (x.toNat + 1) := by rw [cntC, ← i1, show ((x.toNat : Nat) : Int) = x by omega]
                  rw [cb] at ie
                  first | rw [b2i_t] at ie | rw [b2i_f] at ie
                  refine z_iconst C (z := 0) dX8_run_69 ?_
                  refine z_iadd C dX8_run_70 ?_
                  refine z_istore_n C (lv' := [(3, vI (y + 0)), (0, .ref (b 0)), (1, vI r), (2, vI i), (4, vI g), (5, vI x)]) dX8_run_71 rfl (by decide) rfl ?_
                  refine z_iload C dX8_run_72 4 rfl ?_
                  refine z_iload_n C dX8_run_74 0 rfl ?_
                  refine z_iload_n C dX8_run_75 3 rfl ?_
                  refine z_icmp_ne C (by omega) (by omega) (tgt := 83) dX8_run_76 (by decide) (fun cj => ?_) (fun cj => ?_)
                  · refine z_iconst C (z := 0) dX8_run_83 ?_
                    refine z_iadd C dX8_run_84 ?_
                    refine z_istore C (lv' := [(4, vI (g + 0)), (3, vI (y + 0)), (0, .ref (b 0)), (1, vI r), (2, vI i), (5, vI x)]) dX8_run_85 (by decide) rfl ?_
                    refine z_iinc C (lv' := [(5, vI (x + 1)), (4, vI (g + 0)), (3, vI (y + 0)), (0, .ref (b 0)), (1, vI r), (2, vI i)]) dX8_run_87 5 rfl (by decide) rfl ?_
                    refine z_goto C (tgt := 38) dX8_run_90 (by decide) ?_
                    refine z_lsub C [3, 4, 5, 2, 1, 0] rfl ?_
                    exact ih (y + 0) (g + 0) (x + 1) h (by omega) (by omega) (by rw [show (x + 1).toNat = x.toNat + 1 by omega, ← ie]) (by rw [show (x + 1).toNat = x.toNat + 1 by omega, lnC, ← i2, dec_b2i, if_neg (by omega)]) (by omega)
                  · refine z_iconst C (z := 1) dX8_run_79 ?_
                    refine z_goto C (tgt := 84) dX8_run_80 (by decide) ?_
                    refine z_iadd C dX8_run_84 ?_
                    refine z_istore C (lv' := [(4, vI (g + 1)), (3, vI (y + 0)), (0, .ref (b 0)), (1, vI r), (2, vI i), (5, vI x)]) dX8_run_85 (by decide) rfl ?_
                    refine z_iinc C (lv' := [(5, vI (x + 1)), (4, vI (g + 1)), (3, vI (y + 0)), (0, .ref (b 0)), (1, vI r), (2, vI i)]) dX8_run_87 5 rfl (by decide) rfl ?_
                    refine z_goto C (tgt := 38) dX8_run_90 (by decide) ?_
                    refine z_lsub C [3, 4, 5, 2, 1, 0] rfl ?_
                    exact ih (y + 0) (g + 1) (x + 1) h (by omega) (by omega) (by rw [show (x + 1).toNat = x.toNat + 1 by omega, ← ie]) (by rw [show (x + 1).toNat = x.toNat + 1 by omega, lnC, ← i2, dec_b2i, if_pos (by omega)]) (by omega)
                · have ie : y + b2i (chg (pd da r) x) = cntC (pd da r) (x.toNat + 1) := by rw [cntC, ← i1, show ((x.toNat : Nat) : Int) = x by omega]
                  rw [cb] at ie
                  first | rw [b2i_t] at ie | rw [b2i_f] at ie
                  refine z_iconst C (z := 1) dX8_run_65 ?_
                  refine z_goto C (tgt := 70) dX8_run_66 (by decide) ?_
                  refine z_iadd C dX8_run_70 ?_
                  refine z_istore_n C (lv' := [(3, vI (y + 1)), (0, .ref (b 0)), (1, vI r), (2, vI i), (4, vI g), (5, vI x)]) dX8_run_71 rfl (by decide) rfl ?_
                  refine z_iload C dX8_run_72 4 rfl ?_
                  refine z_iload_n C dX8_run_74 0 rfl ?_
                  refine z_iload_n C dX8_run_75 3 rfl ?_
                  refine z_icmp_ne C (by omega) (by omega) (tgt := 83) dX8_run_76 (by decide) (fun cj => ?_) (fun cj => ?_)
                  · refine z_iconst C (z := 0) dX8_run_83 ?_
                    refine z_iadd C dX8_run_84 ?_
                    refine z_istore C (lv' := [(4, vI (g + 0)), (3, vI (y + 1)), (0, .ref (b 0)), (1, vI r), (2, vI i), (5, vI x)]) dX8_run_85 (by decide) rfl ?_
                    refine z_iinc C (lv' := [(5, vI (x + 1)), (4, vI (g + 0)), (3, vI (y + 1)), (0, .ref (b 0)), (1, vI r), (2, vI i)]) dX8_run_87 5 rfl (by decide) rfl ?_
                    refine z_goto C (tgt := 38) dX8_run_90 (by decide) ?_
                    refine z_lsub C [3, 4, 5, 2, 1, 0] rfl ?_
                    exact ih (y + 1) (g + 0) (x + 1) h (by omega) (by omega) (by rw [show (x + 1).toNat = x.toNat + 1 by omega, ← ie]) (by rw [show (x + 1).toNat = x.toNat + 1 by omega, lnC, ← i2, dec_b2i, if_neg (by omega)]) (by omega)
                  · refine z_iconst C (z := 1) dX8_run_79 ?_
                    refine z_goto C (tgt := 84) dX8_run_80 (by decide) ?_
                    refine z_iadd C dX8_run_84 ?_
                    refine z_istore C (lv' := [(4, vI (g + 1)), (3, vI (y + 1)), (0, .ref (b 0)), (1, vI r), (2, vI i), (5, vI x)]) dX8_run_85 (by decide) rfl ?_
                    refine z_iinc C (lv' := [(5, vI (x + 1)), (4, vI (g + 1)), (3, vI (y + 1)), (0, .ref (b 0)), (1, vI r), (2, vI i)]) dX8_run_87 5 rfl (by decide) rfl ?_
                    refine z_goto C (tgt := 38) dX8_run_90 (by decide) ?_
                    refine z_lsub C [3, 4, 5, 2, 1, 0] rfl ?_
                    exact ih (y + 1) (g + 1) (x + 1) h (by omega) (by omega) (by rw [show (x + 1).toNat = x.toNat + 1 by omega, ← ie]) (by rw [show (x + 1).toNat = x.toNat + 1 by omega, lnC, ← i2, dec_b2i, if_pos (by omega)]) (by omega)
        refine z_lsub C [3, 4, 5, 2, 1, 0] rfl ?_
        exact J38 _ 0 0 0 0 (by omega) (by omega) (rfl) (rfl) (Nat.lt_succ_self _)
