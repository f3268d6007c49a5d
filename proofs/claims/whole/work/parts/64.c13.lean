def OZ (oz : Nat → Bool) (L : List Bool) : Prop := ∀ j, j < L.length → oz j = L.getD j false
theorem OZ_nil (oz : Nat → Bool) : OZ oz [] := fun j h => absurd h (Nat.not_lt_zero j)
theorem OZ_snoc {oz : Nat → Bool} {L : List Bool} (b : Bool) (h : OZ oz L) : OZ (va_up oz ((L.length : Nat) : Int).toNat b) (L ++ [b]) := by
  intro j hj
  rw [List.length_append, List.length_singleton] at hj
  rw [getD_snoc]
  show (if j = ((L.length : Nat) : Int).toNat then b else oz j) = _
  rw [show ((L.length : Nat) : Int).toNat = L.length from Int.toNat_natCast _]
  by_cases e : j = L.length
  · rw [if_pos e, if_pos e]
  · rw [if_neg e, if_neg e]; exact h j (by omega)
theorem alB_s {L : List Bool} {m : Int} (h : ¬ (((L.length : Nat) : Int) + m) % 8 ≤ 0) : L ++ alB L m = (L ++ [false]) ++ alB (L ++ [false]) m := by
  rw [List.append_assoc]
  congr 1
  have e : (-(((L.length : Nat) : Int) + m) % 2 ^ 3 : Int).toNat = (-(((L.length + 1 : Nat) : Int) + m) % 2 ^ 3 : Int).toNat + 1 := by omega
  rw [alB, alB, List.length_append, List.length_singleton, e, bitsL]
  rw [Int.zero_ediv]; rfl
theorem alB_z {L : List Bool} {m : Int} (h : (((L.length : Nat) : Int) + m) % 8 ≤ 0) : L ++ alB L m = L := by
  have e : (-(((L.length : Nat) : Int) + m) % 2 ^ 3 : Int).toNat = 0 := by omega
  rw [alB, e, bitsL, List.append_nil]
def cB (y : Int) : Bool := decide (y = 1)
def slI' (n : Int) : Int := if n < 64 then n else 63 + n / 64
theorem mCB_at {c n : Int} (h : isR n = true) (hc : 0 ≤ c ∧ c ≤ 1) : mC (704 * c + n : Int).toNat = codC (cB c) (slI' n) ∧ mB (704 * c + n : Int).toNat = lenC (cB c) (slI' n) := by
  have h1 := of_decide_eq_true h
  have h2 := isR_rg h
  have e1 : (704 * c + n : Int).toNat % 704 = n.toNat := by omega
  have e2 : (704 * c + n : Int).toNat / 704 = c.toNat := by omega
  have e3 : (c.toNat == 1) = decide (c = 1) := by
    rcases (by omega : c = 0 ∨ c = 1) with z | z <;> rw [z] <;> rfl
  have e4 : isRunN n.toNat = true := by
    unfold isRunN
    rcases h1 with z | z
    · rw [decide_eq_true (by omega)]; rfl
    · rw [decide_eq_true (p := n.toNat ≤ 640) (by omega), show (n.toNat % 64 == 0) = true from beq_iff_eq.mpr (by omega), Bool.and_self, Bool.or_true]
  have e5 : slotN n.toNat = (slI' n).toNat := by unfold slotN slI'; split <;> split <;> omega
  have e6 : 0 ≤ slI' n ∧ slI' n < 74 := by unfold slI'; split <;> omega
  unfold mC mB codC lenC
  rw [e1, e2, e3, e4, e5, if_pos e6, if_pos e6]
  exact ⟨rfl, rfl⟩
theorem kn_X8_putBit : zKn yX8_putBit wsX8_putBit cX8_putBit 2 (none) 1 := ⟨⟨_, rfl⟩, by decide +kernel, by decide +kernel, by decide +kernel⟩
set_option maxHeartbeats 400000 in
set_option maxRecDepth 100000 in
theorem c_X8_putBit (l : Launch) (D : va_G) (cy : Nat → ClassId) (tw : Nat → Nat) (b : Nat → Nat) (kd : Int) (co : Int) (th : Int) (rw : Int) (cl : Int) (po : Int) (dm : Int) (sx : Int) (aa : Int) (dk : Bool) (fi : Bool) (bb : Int) (cz : Int) (hm : Bool) (se : Nat → Bool) (da : Nat → Bool) (sa : Nat → Int) (bt : Nat → Int) (oz : Nat → Bool) (d : Bool) (L : List Bool) (hL : OZ oz L) (hroom : (((L).length : Nat) : Int) ≤ 139999) : zMet l yX8_putBit wsX8_putBit { frames := 0, cells := 0, slots := 0, locals := 0 } D (zT cy) tw (MW cy b kd co th rw cl ((L.length : Nat) : Int) po dm sx aa dk fi bb cz hm se da sa bt oz) [.ref (b 0), vI (b2i d)] 0 0 (S := Nat → Bool) (fun _ => none) (fun u => MW cy b kd co th rw cl (((L ++ [d]).length : Nat) : Int) po dm sx aa dk fi bb cz hm se da sa bt u) (fun u => OZ u (L ++ [d])) := by
  refine z_met (cc := cX8_putBit) (nL := 2) (ret := none) (by decide +kernel) rfl (Nat.le_of_ble_eq_true rfl) (lv := [(0, .ref (b 0)), (1, vI (b2i d))]) rfl ?_
  intro V p_ e_ s_ m_ args_ below_ meth_ c_ A_ C hmn
  have hinX8 : ∀ w ∈ u_ws RX8 TX8 22, w ∈ wsX8_putBit := by decide +kernel
  have k0 : Cond.fieldLink RX8 30 "FaxFilterModel" "out" "[Z" ∈ wsX8_putBit := List.mem_of_getElem? (i := 1) rfl
  have k1 : Cond.fieldLink RX8 66 "FaxFilterModel" "written" "I" ∈ wsX8_putBit := List.mem_of_getElem? (i := 2) rfl
  refine z_aload_n C dX8_putBit_0 0 rfl ?_
  refine z_get C hinX8 (ci := 10) rfl 0 rfl 12 (by decide) k0 rfl (v := .ref (b 7)) rfl dX8_putBit_1 ?_
  refine z_aload_n C dX8_putBit_4 0 rfl ?_
  refine z_get C hinX8 (ci := 10) rfl 0 rfl 11 (by decide) k1 rfl (v := vI ((L.length : Nat) : Int)) rfl dX8_putBit_5 ?_
  refine z_iload_n C dX8_putBit_8 1 rfl ?_
  refine z_zast C 7 3 (g := oz) rfl rfl (by omega) (by omega) (by decide) dX8_putBit_9 (ws' := MW cy b kd co th rw cl ((L.length : Nat) : Int) po dm sx aa dk fi bb cz hm se da sa bt (va_up oz (((L.length : Nat) : Int) : Int).toNat d)) rfl ?_
  refine z_aload_n C dX8_putBit_10 0 rfl ?_
  refine z_dup C dX8_putBit_11 rfl ?_
  refine z_get C hinX8 (ci := 10) rfl 0 rfl 11 (by decide) k1 rfl (v := vI ((L.length : Nat) : Int)) rfl dX8_putBit_12 ?_
  refine z_iconst C (z := 1) dX8_putBit_15 ?_
  refine z_iadd C dX8_putBit_16 ?_
  refine z_put C hinX8 tyX8 tyX8_ok nmX8 (ci := 10) rfl 0 rfl 11 (by decide) k1 rfl rfl rfl rfl (Nat.le_of_ble_eq_true rfl) dX8_putBit_17 (ws' := MW cy b kd co th rw cl (((L.length : Nat) : Int) + 1) po dm sx aa dk fi bb cz hm se da sa bt (va_up oz (((L.length : Nat) : Int) : Int).toNat d)) rfl ?_
  refine z_vret C dX8_putBit_20 (va_up oz (((L.length : Nat) : Int) : Int).toNat d) ?_ ?_ ?_ (by decide) (by decide)
  · exact rfl
  · exact OZ_snoc d hL
  · rw [List.length_append, List.length_singleton]; rfl
theorem kn_X8_putBits : zKn yX8_putBits wsX8_putBits cX8_putBits 4 (none) 2 := ⟨⟨_, rfl⟩, by decide +kernel, by decide +kernel, by decide +kernel⟩
set_option maxHeartbeats 400000 in
set_option maxRecDepth 100000 in
theorem c_X8_putBits (l : Launch) (D : va_G) (cy : Nat → ClassId) (tw : Nat → Nat) (b : Nat → Nat) (kd : Int) (co : Int) (th : Int) (rw : Int) (cl : Int) (po : Int) (dm : Int) (sx : Int) (aa : Int) (dk : Bool) (fi : Bool) (bb : Int) (cz : Int) (hm : Bool) (se : Nat → Bool) (da : Nat → Bool) (sa : Nat → Int) (bt : Nat → Int) (oz : Nat → Bool) (y : Int) (n : Int) (L : List Bool) (hL : OZ oz L) (hy : 0 ≤ y ∧ y < 65536) (hn : 0 ≤ n ∧ n ≤ 12) (hroom : ((L.length : Nat) : Int) + n ≤ 139999) : zMet l yX8_putBits wsX8_putBits { frames := 1, cells := 0, slots := 0, locals := 21 } D (zT cy) tw (MW cy b kd co th rw cl ((L.length : Nat) : Int) po dm sx aa dk fi bb cz hm se da sa bt oz) [.ref (b 0), vI y, vI n] 0 0 (S := Nat → Bool) (fun _ => none) (fun u => MW cy b kd co th rw cl (((L ++ bitsL y (n : Int).toNat).length : Nat) : Int) po dm sx aa dk fi bb cz hm se da sa bt u) (fun u => OZ u (L ++ bitsL y (n : Int).toNat)) := by
  refine z_met (cc := cX8_putBits) (nL := 4) (ret := none) (by decide +kernel) rfl (Nat.le_of_ble_eq_true rfl) (lv := [(0, .ref (b 0)), (1, vI y), (2, vI n)]) rfl ?_
  intro V p_ e_ s_ m_ args_ below_ meth_ c_ A_ C hmn
  refine z_iload_n C dX8_putBits_0 2 rfl ?_
  refine z_iconst C (z := 1) dX8_putBits_1 ?_
  refine z_isub C dX8_putBits_2 ?_
  refine z_istore_n C (lv' := [(3, vI (n - 1)), (0, .ref (b 0)), (1, vI y), (2, vI n)]) dX8_putBits_3 rfl (by decide) rfl ?_
  have J4 : ∀ (f : Nat) (k : Int) (o : Nat → Bool) (M : List Bool), (-1 ≤ k ∧ k < n) → (((M.length : Nat) : Int) + k + 1 = ((L.length : Nat) : Int) + n) → (OZ o M) → (L ++ bitsL y (n : Int).toNat = M ++ bitsL y (k + 1 : Int).toNat) → (k + 1).toNat < f → V 0 0 (MW cy b kd co th rw cl ((M.length : Nat) : Int) po dm sx aa dk fi bb cz hm se da sa bt o) [(0, .ref (b 0)), (1, vI y), (2, vI n), (3, vI k)] [] 4 := by
    intro f
    induction f with
    | zero => intro k o M i0 iL hM i2 hf; exact absurd hf (Nat.not_lt_zero _)
    | succ f ih =>
      intro k o M i0 iL hM i2 hf
      refine z_iload_n C dX8_putBits_4 3 rfl ?_
      refine z_if_lt C (by omega) (tgt := 32) dX8_putBits_5 (by decide) (fun hc_1 => ?_) (fun hc_1 => ?_)
      · refine z_vret C dX8_putBits_32 o ?_ ?_ ?_ (by decide) (by decide)
        · exact rfl
        · have e : L ++ bitsL y (n : Int).toNat = M := by rw [i2, show (k + 1 : Int).toNat = 0 by omega, bitsL, List.append_nil]
          rw [e]; exact hM
        · have e : L ++ bitsL y (n : Int).toNat = M := by rw [i2, show (k + 1 : Int).toNat = 0 by omega, bitsL, List.append_nil]
          rw [e]
      · refine z_aload_n C dX8_putBits_8 0 rfl ?_
        refine z_iload_n C dX8_putBits_9 1 rfl ?_
        refine z_iload_n C dX8_putBits_10 3 rfl ?_
        have hy9 : y / 2 ^ k.toNat ≤ y ∧ 0 ≤ y / 2 ^ k.toNat := ⟨Int.ediv_le_self _ (by omega), Int.ediv_nonneg (by omega) (by exact Int.le_of_lt (Int.pow_pos (by decide)))⟩
        refine z_ishr C k.toNat dX8_putBits_11 (by omega) (by omega) (by omega) ?_
        refine z_iconst C (z := 1) dX8_putBits_12 ?_
        refine z_iand C 1 dX8_putBits_13 (by decide) (by decide) ?_
        refine z_iconst C (z := 1) dX8_putBits_14 ?_
        refine z_icmp_ne C (by omega) (by decide) (tgt := 22) dX8_putBits_15 (by decide) (fun cb => ?_) (fun cb => ?_)
        · refine z_iconst C (z := 0) dX8_putBits_22 ?_
          refine z_callV C (As := [vI 0]) (st := []) (c_X8_putBit l D cy tw b kd co th rw cl po dm sx aa dk fi bb cz hm se da sa bt o false M (hM) (by omega)) gX8_putBits_X8_putBit kn_X8_putBit rfl ⟨rfl, rfl, Nat.le_of_ble_eq_true rfl, Nat.le_of_ble_eq_true rfl⟩ 0 rfl (ci := 10) rfl rfl (Nat.le_of_ble_eq_true rfl) ⟨Nat.le_of_ble_eq_true rfl, Nat.le_of_ble_eq_true rfl⟩ dX8_putBits_23 (fun u2 hu2 => ?_)
          show V 0 0 (MW cy b kd co th rw cl (((M ++ [false]).length : Nat) : Int) po dm sx aa dk fi bb cz hm se da sa bt u2) [(0, .ref (b 0)), (1, vI y), (2, vI n), (3, vI k)] [] 26
          refine z_iinc C (lv' := [(3, vI (k + (-1))), (0, .ref (b 0)), (1, vI y), (2, vI n)]) dX8_putBits_26 3 rfl (by decide) rfl ?_
          refine z_goto C (tgt := 4) dX8_putBits_29 (by decide) ?_
          refine z_lsub C [1, 2, 3, 0] rfl ?_
          exact ih (k + (-1)) u2 (M ++ [false]) (by omega) (by simp only [List.length_append, List.length_singleton]; omega) (hu2) (by rw [i2, show (k + 1 : Int).toNat = k.toNat + 1 by omega, bitsL, List.append_assoc, show (k + -1 + 1 : Int).toNat = k.toNat by omega]; first | (rw [decide_eq_true (by omega)]; rfl) | (rw [decide_eq_false (by omega)]; rfl)) (by omega)
        · refine z_iconst C (z := 1) dX8_putBits_18 ?_
          refine z_goto C (tgt := 23) dX8_putBits_19 (by decide) ?_
          refine z_callV C (As := [vI 1]) (st := []) (c_X8_putBit l D cy tw b kd co th rw cl po dm sx aa dk fi bb cz hm se da sa bt o true M (hM) (by omega)) gX8_putBits_X8_putBit kn_X8_putBit rfl ⟨rfl, rfl, Nat.le_of_ble_eq_true rfl, Nat.le_of_ble_eq_true rfl⟩ 0 rfl (ci := 10) rfl rfl (Nat.le_of_ble_eq_true rfl) ⟨Nat.le_of_ble_eq_true rfl, Nat.le_of_ble_eq_true rfl⟩ dX8_putBits_23 (fun u3 hu3 => ?_)
          show V 0 0 (MW cy b kd co th rw cl (((M ++ [true]).length : Nat) : Int) po dm sx aa dk fi bb cz hm se da sa bt u3) [(0, .ref (b 0)), (1, vI y), (2, vI n), (3, vI k)] [] 26
          refine z_iinc C (lv' := [(3, vI (k + (-1))), (0, .ref (b 0)), (1, vI y), (2, vI n)]) dX8_putBits_26 3 rfl (by decide) rfl ?_
          refine z_goto C (tgt := 4) dX8_putBits_29 (by decide) ?_
          refine z_lsub C [1, 2, 3, 0] rfl ?_
          exact ih (k + (-1)) u3 (M ++ [true]) (by omega) (by simp only [List.length_append, List.length_singleton]; omega) (hu3) (by rw [i2, show (k + 1 : Int).toNat = k.toNat + 1 by omega, bitsL, List.append_assoc, show (k + -1 + 1 : Int).toNat = k.toNat by omega]; first | (rw [decide_eq_true (by omega)]; rfl) | (rw [decide_eq_false (by omega)]; rfl)) (by omega)
  refine z_lsub C [1, 2, 3, 0] rfl ?_
  exact J4 _ (n - 1) oz L (by omega) (by omega) (hL) (by rw [show (n - 1 + 1 : Int).toNat = n.toNat by omega]) (Nat.lt_succ_self _)
theorem kn_X8_putMark : zKn yX8_putMark wsX8_putMark cX8_putMark 1 (none) 0 := ⟨⟨_, rfl⟩, by decide +kernel, by decide +kernel, by decide +kernel⟩
set_option maxHeartbeats 400000 in
set_option maxRecDepth 100000 in
theorem c_X8_putMark (l : Launch) (D : va_G) (cy : Nat → ClassId) (tw : Nat → Nat) (b : Nat → Nat) (kd : Int) (co : Int) (th : Int) (rw : Int) (cl : Int) (po : Int) (dm : Int) (sx : Int) (aa : Int) (dk : Bool) (fi : Bool) (bb : Int) (cz : Int) (hm : Bool) (se : Nat → Bool) (da : Nat → Bool) (sa : Nat → Int) (bt : Nat → Int) (oz : Nat → Bool)  (L : List Bool) (hL : OZ oz L) (hroom : ((L.length : Nat) : Int) + 12 ≤ 139999) : zMet l yX8_putMark wsX8_putMark { frames := 2, cells := 0, slots := 0, locals := 44 } D (zT cy) tw (MW cy b kd co th rw cl ((L.length : Nat) : Int) po dm sx aa dk fi bb cz hm se da sa bt oz) [.ref (b 0)] 0 0 (S := Nat → Bool) (fun _ => none) (fun u => MW cy b kd co th rw cl (((L ++ bitsL 1 12).length : Nat) : Int) po dm sx aa dk fi bb cz hm se da sa bt u) (fun u => OZ u (L ++ bitsL 1 12)) := by
  refine z_met (cc := cX8_putMark) (nL := 1) (ret := none) (by decide +kernel) rfl (Nat.le_of_ble_eq_true rfl) (lv := [(0, .ref (b 0))]) rfl ?_
  intro V p_ e_ s_ m_ args_ below_ meth_ c_ A_ C hmn
  refine z_aload_n C dX8_putMark_0 0 rfl ?_
  refine z_iconst C (z := 1) dX8_putMark_1 ?_
  refine z_bipush C (z := 12) dX8_putMark_2 (by decide) ?_
  refine z_callV C (As := [vI 1, vI 12]) (st := []) (c_X8_putBits l D cy tw b kd co th rw cl po dm sx aa dk fi bb cz hm se da sa bt oz 1 12 L (by omega) (by omega) (by omega) (by omega)) gX8_putMark_X8_putBits kn_X8_putBits rfl ⟨rfl, rfl, Nat.le_of_ble_eq_true rfl, Nat.le_of_ble_eq_true rfl⟩ 0 rfl (ci := 10) rfl rfl (Nat.le_of_ble_eq_true rfl) ⟨Nat.le_of_ble_eq_true rfl, Nat.le_of_ble_eq_true rfl⟩ dX8_putMark_4 (fun u1 hu1 => ?_)
  show V 0 0 (MW cy b kd co th rw cl (((L ++ bitsL 1 (12 : Int).toNat).length : Nat) : Int) po dm sx aa dk fi bb cz hm se da sa bt u1) [(0, .ref (b 0))] [] 7
  refine z_vret C dX8_putMark_7 u1 ?_ ?_ ?_ (by decide) (by decide)
  · exact rfl
  · have e : L ++ bitsL 1 12 = (L ++ bitsL 1 (12 : Int).toNat) := by rfl
    rw [e]; exact hu1
  · have e : L ++ bitsL 1 12 = (L ++ bitsL 1 (12 : Int).toNat) := by rfl
    rw [e]
theorem kn_X8_putCode : zKn yX8_putCode wsX8_putCode cX8_putCode 3 (none) 2 := ⟨⟨_, rfl⟩, by decide +kernel, by decide +kernel, by decide +kernel⟩
set_option maxHeartbeats 400000 in
set_option maxRecDepth 100000 in
theorem c_X8_putCode (l : Launch) (D : va_G) (cy : Nat → ClassId) (tw : Nat → Nat) (b : Nat → Nat) (kd : Int) (co : Int) (th : Int) (rw : Int) (cl : Int) (po : Int) (dm : Int) (sx : Int) (aa : Int) (dk : Bool) (fi : Bool) (bb : Int) (cz : Int) (hm : Bool) (se : Nat → Bool) (da : Nat → Bool) (sa : Nat → Int) (bt : Nat → Int) (oz : Nat → Bool) (y : Int) (n : Int) (L : List Bool) (hL : OZ oz L) (hy : 0 ≤ y ∧ y ≤ 1) (hn : isR n = true) (hroom : ((L.length : Nat) : Int) + 12 ≤ 139999) : zMet l yX8_putCode wsX8_putCode { frames := 2, cells := 0, slots := 0, locals := 44 } D (zT cy) tw (MW cy b kd co th rw cl ((L.length : Nat) : Int) po dm sx aa dk fi bb cz hm se da sa bt oz) [.ref (b 0), vI y, vI n] 0 0 (S := Nat → Bool) (fun _ => none) (fun u => MW cy b kd co th rw cl (((L ++ cdb (cB y) (slI' n)).length : Nat) : Int) po dm sx aa dk fi bb cz hm se da sa bt u) (fun u => OZ u (L ++ cdb (cB y) (slI' n))) := by
  refine z_met (cc := cX8_putCode) (nL := 3) (ret := none) (by decide +kernel) rfl (Nat.le_of_ble_eq_true rfl) (lv := [(0, .ref (b 0)), (1, vI y), (2, vI n)]) rfl ?_
  intro V p_ e_ s_ m_ args_ below_ meth_ c_ A_ C hmn
  have hinX8 : ∀ w ∈ u_ws RX8 TX8 22, w ∈ wsX8_putCode := by decide +kernel
  have k0 : Cond.fieldLink RX8 7 "FaxFilterModel" "code" "[I" ∈ wsX8_putCode := List.mem_of_getElem? (i := 1) rfl
  have k1 : Cond.fieldLink RX8 13 "FaxFilterModel" "bits" "[I" ∈ wsX8_putCode := List.mem_of_getElem? (i := 2) rfl
  have hir := isR_rg hn
  obtain ⟨e1, e2⟩ := mCB_at hn hy
  have hl1 := lenC_rg (cB y) (slI' n)
  have hc1 := codC_rg (cB y) (slI' n)
  refine z_aload_n C dX8_putCode_0 0 rfl ?_
  refine z_aload_n C dX8_putCode_1 0 rfl ?_
  refine z_get C hinX8 (ci := 10) rfl 0 rfl 3 (by decide) k0 rfl (v := .ref (b 1)) rfl dX8_putCode_2 ?_
  refine z_sipush C (z := 704) dX8_putCode_5 (by decide) ?_
  refine z_iload_n C dX8_putCode_8 1 rfl ?_
  refine z_imul C dX8_putCode_9 ?_
  refine z_iload_n C dX8_putCode_10 2 rfl ?_
  refine z_iadd C dX8_putCode_11 ?_
  refine z_iald C 1 1 (g := mC) rfl rfl (by omega) (by omega) (by decide) dX8_putCode_12 ?_
  refine z_aload_n C dX8_putCode_13 0 rfl ?_
  refine z_get C hinX8 (ci := 10) rfl 0 rfl 4 (by decide) k1 rfl (v := .ref (b 2)) rfl dX8_putCode_14 ?_
  refine z_sipush C (z := 704) dX8_putCode_17 (by decide) ?_
  refine z_iload_n C dX8_putCode_20 1 rfl ?_
  refine z_imul C dX8_putCode_21 ?_
  refine z_iload_n C dX8_putCode_22 2 rfl ?_
  refine z_iadd C dX8_putCode_23 ?_
  refine z_iald C 2 1 (g := mB) rfl rfl (by omega) (by omega) (by decide) dX8_putCode_24 ?_
  refine z_callV C (As := [vI (mC ((704 * y) + n : Int).toNat), vI (mB ((704 * y) + n : Int).toNat)]) (st := []) (c_X8_putBits l D cy tw b kd co th rw cl po dm sx aa dk fi bb cz hm se da sa bt oz (mC ((704 * y) + n : Int).toNat) (mB ((704 * y) + n : Int).toNat) L (by omega) (by omega) (by omega) (by omega)) gX8_putCode_X8_putBits kn_X8_putBits rfl ⟨rfl, rfl, Nat.le_of_ble_eq_true rfl, Nat.le_of_ble_eq_true rfl⟩ 0 rfl (ci := 10) rfl rfl (Nat.le_of_ble_eq_true rfl) ⟨Nat.le_of_ble_eq_true rfl, Nat.le_of_ble_eq_true rfl⟩ dX8_putCode_25 (fun u1 hu1 => ?_)
  show V 0 0 (MW cy b kd co th rw cl (((L ++ bitsL (mC ((704 * y) + n : Int).toNat) ((mB ((704 * y) + n : Int).toNat) : Int).toNat).length : Nat) : Int) po dm sx aa dk fi bb cz hm se da sa bt u1) [(0, .ref (b 0)), (1, vI y), (2, vI n)] [] 28
  refine z_vret C dX8_putCode_28 u1 ?_ ?_ ?_ (by decide) (by decide)
  · exact rfl
  · have e : L ++ cdb (cB y) (slI' n) = (L ++ bitsL (mC ((704 * y) + n : Int).toNat) ((mB ((704 * y) + n : Int).toNat) : Int).toNat) := by rw [e1, e2]; rfl
    rw [e]; exact hu1
  · have e : L ++ cdb (cB y) (slI' n) = (L ++ bitsL (mC ((704 * y) + n : Int).toNat) ((mB ((704 * y) + n : Int).toNat) : Int).toNat) := by rw [e1, e2]; rfl
    rw [e]
theorem kn_X8_fill : zKn yX8_fill wsX8_fill cX8_fill 2 (none) 1 := ⟨⟨_, rfl⟩, by decide +kernel, by decide +kernel, by decide +kernel⟩
set_option maxHeartbeats 400000 in
set_option maxRecDepth 100000 in
theorem c_X8_fill (l : Launch) (D : va_G) (cy : Nat → ClassId) (tw : Nat → Nat) (b : Nat → Nat) (kd : Int) (co : Int) (th : Int) (rw : Int) (cl : Int) (po : Int) (dm : Int) (sx : Int) (aa : Int) (dk : Bool) (fi : Bool) (bb : Int) (cz : Int) (hm : Bool) (se : Nat → Bool) (da : Nat → Bool) (sa : Nat → Int) (bt : Nat → Int) (oz : Nat → Bool) (n : Int) (L : List Bool) (hL : OZ oz L) (hn : 0 ≤ n ∧ n ≤ 12) (hroom : ((L.length : Nat) : Int) + 8 ≤ 139999) : zMet l yX8_fill wsX8_fill { frames := 1, cells := 0, slots := 0, locals := 21 } D (zT cy) tw (MW cy b kd co th rw cl ((L.length : Nat) : Int) po dm sx aa dk fi bb cz hm se da sa bt oz) [.ref (b 0), vI n] 0 0 (S := Nat → Bool) (fun _ => none) (fun u => MW cy b kd co th rw cl (((L ++ alB L n).length : Nat) : Int) po dm sx aa dk fi bb cz hm se da sa bt u) (fun u => OZ u (L ++ alB L n)) := by
  refine z_met (cc := cX8_fill) (nL := 2) (ret := none) (by decide +kernel) rfl (Nat.le_of_ble_eq_true rfl) (lv := [(0, .ref (b 0)), (1, vI n)]) rfl ?_
  intro V p_ e_ s_ m_ args_ below_ meth_ c_ A_ C hmn
  have hinX8 : ∀ w ∈ u_ws RX8 TX8 22, w ∈ wsX8_fill := by decide +kernel
  have k0 : Cond.fieldLink RX8 66 "FaxFilterModel" "written" "I" ∈ wsX8_fill := List.mem_of_getElem? (i := 1) rfl
  have hal := alB_len L n
  have J0 : ∀ (f : Nat) (o : Nat → Bool) (M : List Bool), (OZ o M) → (L ++ alB L n = M ++ alB M n) → (8 + (((L.length : Nat) : Int) + 7) - ((M.length : Nat) : Int)).toNat < f → V 0 0 (MW cy b kd co th rw cl ((M.length : Nat) : Int) po dm sx aa dk fi bb cz hm se da sa bt o) [(0, .ref (b 0)), (1, vI n)] [] 0 := by
    intro f
    induction f with
    | zero => intro o M hM i2 hf; exact absurd hf (Nat.not_lt_zero _)
    | succ f ih =>
      intro o M hM i2 hf
      refine z_aload_n C dX8_fill_0 0 rfl ?_
      have q2 := congrArg List.length i2
      simp only [List.length_append] at q2
      refine z_get C hinX8 (ci := 10) rfl 0 rfl 11 (by decide) k0 rfl (v := vI ((M.length : Nat) : Int)) rfl dX8_fill_1 ?_
      refine z_iload_n C dX8_fill_4 1 rfl ?_
      refine z_iadd C dX8_fill_5 ?_
      refine z_bipush C (z := 8) dX8_fill_6 (by decide) ?_
      refine z_irem C dX8_fill_8 (by omega) (by decide) ?_
      refine z_if_le C (by omega) (tgt := 20) dX8_fill_9 (by decide) (fun hc_1 => ?_) (fun hc_1 => ?_)
      · refine z_vret C dX8_fill_20 o ?_ ?_ ?_ (by decide) (by decide)
        · exact rfl
        · have e : L ++ alB L n = M := by rw [i2, alB_z (by omega)]
          rw [e]; exact hM
        · have e : L ++ alB L n = M := by rw [i2, alB_z (by omega)]
          rw [e]
      · have i3 : L ++ alB L n = (M ++ [false]) ++ alB (M ++ [false]) n := by rw [i2, alB_s (by omega)]
        have q3 := congrArg List.length i3
        simp only [List.length_append, List.length_singleton] at q3
        have q4 : (M ++ [false]).length = M.length + 1 := by rw [List.length_append, List.length_singleton]
        refine z_aload_n C dX8_fill_12 0 rfl ?_
        refine z_iconst C (z := 0) dX8_fill_13 ?_
        refine z_callV C (As := [vI 0]) (st := []) (c_X8_putBit l D cy tw b kd co th rw cl po dm sx aa dk fi bb cz hm se da sa bt o false M (hM) (by omega)) gX8_fill_X8_putBit kn_X8_putBit rfl ⟨rfl, rfl, Nat.le_of_ble_eq_true rfl, Nat.le_of_ble_eq_true rfl⟩ 0 rfl (ci := 10) rfl rfl (Nat.le_of_ble_eq_true rfl) ⟨Nat.le_of_ble_eq_true rfl, Nat.le_of_ble_eq_true rfl⟩ dX8_fill_14 (fun u2 hu2 => ?_)
        show V 0 0 (MW cy b kd co th rw cl (((M ++ [false]).length : Nat) : Int) po dm sx aa dk fi bb cz hm se da sa bt u2) [(0, .ref (b 0)), (1, vI n)] [] 17
        refine z_goto C (tgt := 0) dX8_fill_17 (by decide) ?_
        exact ih u2 (M ++ [false]) (hu2) (i3) (by omega)
  exact J0 _ oz L (hL) (rfl) (Nat.lt_succ_self _)
theorem kn_X8_putRun : zKn yX8_putRun wsX8_putRun cX8_putRun 4 (none) 2 := ⟨⟨_, rfl⟩, by decide +kernel, by decide +kernel, by decide +kernel⟩
set_option maxHeartbeats 400000 in
set_option maxRecDepth 100000 in
theorem c_X8_putRun (l : Launch) (D : va_G) (cy : Nat → ClassId) (tw : Nat → Nat) (b : Nat → Nat) (kd : Int) (co : Int) (th : Int) (rw : Int) (cl : Int) (po : Int) (dm : Int) (sx : Int) (aa : Int) (dk : Bool) (fi : Bool) (bb : Int) (cz : Int) (hm : Bool) (se : Nat → Bool) (da : Nat → Bool) (sa : Nat → Int) (bt : Nat → Int) (oz : Nat → Bool) (d : Bool) (n : Int) (L : List Bool) (hL : OZ oz L) (hn : 0 ≤ n ∧ n ≤ 703) (hroom : ((L.length : Nat) : Int) + 24 ≤ 139999) : zMet l yX8_putRun wsX8_putRun { frames := 3, cells := 0, slots := 0, locals := 66 } D (zT cy) tw (MW cy b kd co th rw cl ((L.length : Nat) : Int) po dm sx aa dk fi bb cz hm se da sa bt oz) [.ref (b 0), vI (b2i d), vI n] 0 0 (S := Nat → Bool) (fun _ => none) (fun u => MW cy b kd co th rw cl (((L ++ runB d n).length : Nat) : Int) po dm sx aa dk fi bb cz hm se da sa bt u) (fun u => OZ u (L ++ runB d n)) := by
  refine z_met (cc := cX8_putRun) (nL := 4) (ret := none) (by decide +kernel) rfl (Nat.le_of_ble_eq_true rfl) (lv := [(0, .ref (b 0)), (1, vI (b2i d)), (2, vI n)]) rfl ?_
  intro V p_ e_ s_ m_ args_ below_ meth_ c_ A_ C hmn
  have hi2 : isR (n % 64) = true := decide_eq_true (by omega)
  refine z_iload_n C dX8_putRun_0 1 rfl ?_
  refine z_ifz C (tgt := 8) dX8_putRun_1 (by decide) (fun cd => ?_) (fun cd => ?_)
  · refine z_iconst C (z := 0) dX8_putRun_8 ?_
    refine z_istore_n C (lv' := [(3, vI 0), (0, .ref (b 0)), (1, vI (b2i d)), (2, vI n)]) dX8_putRun_9 rfl (by decide) rfl ?_
    refine z_iload_n C dX8_putRun_10 3 rfl ?_
    refine z_bipush C (z := 64) dX8_putRun_11 (by decide) ?_
    refine z_icmp_lt C (by omega) (by decide) (tgt := 28) dX8_putRun_13 (by decide) (fun hc_1 => ?_) (fun hc_1 => ?_)
    · refine z_aload_n C dX8_putRun_28 1 rfl ?_
      refine z_iload_n C dX8_putRun_29 0 rfl ?_
      refine z_iload_n C dX8_putRun_30 3 rfl ?_
      refine z_bipush C (z := 64) dX8_putRun_31 (by decide) ?_
      refine z_irem C dX8_putRun_33 (by omega) (by decide) ?_
      refine z_callV C (As := [vI 0, vI (n % 64)]) (st := []) (c_X8_putCode l D cy tw b kd co th rw cl po dm sx aa dk fi bb cz hm se da sa bt oz 0 (n % 64) L (hL) (by omega) (hi2) (by have hq := lenC_rg (cB 1) (slI' (n / 64 * 64)); have hq2 := lenC_rg (cB 0) (slI' (n / 64 * 64)); (try simp only [List.length_append, cdb, bitsL_len]); omega)) gX8_putRun_X8_putCode kn_X8_putCode rfl ⟨rfl, rfl, Nat.le_of_ble_eq_true rfl, Nat.le_of_ble_eq_true rfl⟩ 0 rfl (ci := 10) rfl rfl (Nat.le_of_ble_eq_true rfl) ⟨Nat.le_of_ble_eq_true rfl, Nat.le_of_ble_eq_true rfl⟩ dX8_putRun_34 (fun u2 hu2 => ?_)
      show V 0 0 (MW cy b kd co th rw cl (((L ++ cdb (cB 0) (slI' (n % 64))).length : Nat) : Int) po dm sx aa dk fi bb cz hm se da sa bt u2) [(3, vI 0), (0, .ref (b 0)), (1, vI (b2i d)), (2, vI n)] [] 37
      refine z_vret C dX8_putRun_37 u2 ?_ ?_ ?_ (by decide) (by decide)
      · exact rfl
      · have e : L ++ runB d n = (L ++ cdb (cB 0) (slI' (n % 64))) := by rw [cd, runB]; first | (rw [if_pos (by omega), ← List.append_assoc, show slI' (n / 64 * 64) = 63 + n / 64 by unfold slI'; split <;> omega, show slI' (n % 64) = n % 64 by unfold slI'; rw [if_pos (by omega)]]; rfl) | (rw [if_neg (by omega), show slI' (n % 64) = n % 64 by unfold slI'; rw [if_pos (by omega)]]; rfl)
        rw [e]; exact hu2
      · have e : L ++ runB d n = (L ++ cdb (cB 0) (slI' (n % 64))) := by rw [cd, runB]; first | (rw [if_pos (by omega), ← List.append_assoc, show slI' (n / 64 * 64) = 63 + n / 64 by unfold slI'; split <;> omega, show slI' (n % 64) = n % 64 by unfold slI'; rw [if_pos (by omega)]]; rfl) | (rw [if_neg (by omega), show slI' (n % 64) = n % 64 by unfold slI'; rw [if_pos (by omega)]]; rfl)
        rw [e]
    · have hi1 : isR (n / 64 * 64) = true := decide_eq_true (by omega)
      refine z_aload_n C dX8_putRun_16 1 rfl ?_
      refine z_iload_n C dX8_putRun_17 0 rfl ?_
      refine z_iload_n C dX8_putRun_18 3 rfl ?_
      refine z_bipush C (z := 64) dX8_putRun_19 (by decide) ?_
      refine z_idiv C dX8_putRun_21 (by omega) (by decide) ?_
      refine z_bipush C (z := 64) dX8_putRun_22 (by decide) ?_
      refine z_imul C dX8_putRun_24 ?_
      refine z_callV C (As := [vI 0, vI ((n / 64) * 64)]) (st := []) (c_X8_putCode l D cy tw b kd co th rw cl po dm sx aa dk fi bb cz hm se da sa bt oz 0 ((n / 64) * 64) L (hL) (by omega) (hi1) (by omega)) gX8_putRun_X8_putCode kn_X8_putCode rfl ⟨rfl, rfl, Nat.le_of_ble_eq_true rfl, Nat.le_of_ble_eq_true rfl⟩ 0 rfl (ci := 10) rfl rfl (Nat.le_of_ble_eq_true rfl) ⟨Nat.le_of_ble_eq_true rfl, Nat.le_of_ble_eq_true rfl⟩ dX8_putRun_25 (fun u3 hu3 => ?_)
      show V 0 0 (MW cy b kd co th rw cl (((L ++ cdb (cB 0) (slI' ((n / 64) * 64))).length : Nat) : Int) po dm sx aa dk fi bb cz hm se da sa bt u3) [(3, vI 0), (0, .ref (b 0)), (1, vI (b2i d)), (2, vI n)] [] 28
      refine z_aload_n C dX8_putRun_28 1 rfl ?_
      refine z_iload_n C dX8_putRun_29 0 rfl ?_
      refine z_iload_n C dX8_putRun_30 3 rfl ?_
      refine z_bipush C (z := 64) dX8_putRun_31 (by decide) ?_
      refine z_irem C dX8_putRun_33 (by omega) (by decide) ?_
      refine z_callV C (As := [vI 0, vI (n % 64)]) (st := []) (c_X8_putCode l D cy tw b kd co th rw cl po dm sx aa dk fi bb cz hm se da sa bt u3 0 (n % 64) (L ++ cdb (cB 0) (slI' ((n / 64) * 64))) (hu3) (by omega) (hi2) (by have hq := lenC_rg (cB 1) (slI' (n / 64 * 64)); have hq2 := lenC_rg (cB 0) (slI' (n / 64 * 64)); (try simp only [List.length_append, cdb, bitsL_len]); omega)) gX8_putRun_X8_putCode kn_X8_putCode rfl ⟨rfl, rfl, Nat.le_of_ble_eq_true rfl, Nat.le_of_ble_eq_true rfl⟩ 0 rfl (ci := 10) rfl rfl (Nat.le_of_ble_eq_true rfl) ⟨Nat.le_of_ble_eq_true rfl, Nat.le_of_ble_eq_true rfl⟩ dX8_putRun_34 (fun u4 hu4 => ?_)
      show V 0 0 (MW cy b kd co th rw cl ((((L ++ cdb (cB 0) (slI' ((n / 64) * 64))) ++ cdb (cB 0) (slI' (n % 64))).length : Nat) : Int) po dm sx aa dk fi bb cz hm se da sa bt u4) [(3, vI 0), (0, .ref (b 0)), (1, vI (b2i d)), (2, vI n)] [] 37
      refine z_vret C dX8_putRun_37 u4 ?_ ?_ ?_ (by decide) (by decide)
      · exact rfl
      · have e : L ++ runB d n = ((L ++ cdb (cB 0) (slI' ((n / 64) * 64))) ++ cdb (cB 0) (slI' (n % 64))) := by rw [cd, runB]; first | (rw [if_pos (by omega), ← List.append_assoc, show slI' (n / 64 * 64) = 63 + n / 64 by unfold slI'; split <;> omega, show slI' (n % 64) = n % 64 by unfold slI'; rw [if_pos (by omega)]]; rfl) | (rw [if_neg (by omega), show slI' (n % 64) = n % 64 by unfold slI'; rw [if_pos (by omega)]]; rfl)
        rw [e]; exact hu4
      · have e : L ++ runB d n = ((L ++ cdb (cB 0) (slI' ((n / 64) * 64))) ++ cdb (cB 0) (slI' (n % 64))) := by rw [cd, runB]; first | (rw [if_pos (by omega), ← List.append_assoc, show slI' (n / 64 * 64) = 63 + n / 64 by unfold slI'; split <;> omega, show slI' (n % 64) = n % 64 by unfold slI'; rw [if_pos (by omega)]]; rfl) | (rw [if_neg (by omega), show slI' (n % 64) = n % 64 by unfold slI'; rw [if_pos (by omega)]]; rfl)
        rw [e]
  · refine z_iconst C (z := 1) dX8_putRun_4 ?_
    refine z_goto C (tgt := 9) dX8_putRun_5 (by decide) ?_
    refine z_istore_n C (lv' := [(3, vI 1), (0, .ref (b 0)), (1, vI (b2i d)), (2, vI n)]) dX8_putRun_9 rfl (by decide) rfl ?_
    refine z_iload_n C dX8_putRun_10 3 rfl ?_
    refine z_bipush C (z := 64) dX8_putRun_11 (by decide) ?_
    refine z_icmp_lt C (by omega) (by decide) (tgt := 28) dX8_putRun_13 (by decide) (fun hc_5 => ?_) (fun hc_5 => ?_)
    · refine z_aload_n C dX8_putRun_28 1 rfl ?_
      refine z_iload_n C dX8_putRun_29 0 rfl ?_
      refine z_iload_n C dX8_putRun_30 3 rfl ?_
      refine z_bipush C (z := 64) dX8_putRun_31 (by decide) ?_
      refine z_irem C dX8_putRun_33 (by omega) (by decide) ?_
      refine z_callV C (As := [vI 1, vI (n % 64)]) (st := []) (c_X8_putCode l D cy tw b kd co th rw cl po dm sx aa dk fi bb cz hm se da sa bt oz 1 (n % 64) L (hL) (by omega) (hi2) (by have hq := lenC_rg (cB 1) (slI' (n / 64 * 64)); have hq2 := lenC_rg (cB 0) (slI' (n / 64 * 64)); (try simp only [List.length_append, cdb, bitsL_len]); omega)) gX8_putRun_X8_putCode kn_X8_putCode rfl ⟨rfl, rfl, Nat.le_of_ble_eq_true rfl, Nat.le_of_ble_eq_true rfl⟩ 0 rfl (ci := 10) rfl rfl (Nat.le_of_ble_eq_true rfl) ⟨Nat.le_of_ble_eq_true rfl, Nat.le_of_ble_eq_true rfl⟩ dX8_putRun_34 (fun u6 hu6 => ?_)
      show V 0 0 (MW cy b kd co th rw cl (((L ++ cdb (cB 1) (slI' (n % 64))).length : Nat) : Int) po dm sx aa dk fi bb cz hm se da sa bt u6) [(3, vI 1), (0, .ref (b 0)), (1, vI (b2i d)), (2, vI n)] [] 37
      refine z_vret C dX8_putRun_37 u6 ?_ ?_ ?_ (by decide) (by decide)
      · exact rfl
      · have e : L ++ runB d n = (L ++ cdb (cB 1) (slI' (n % 64))) := by rw [cd, runB]; first | (rw [if_pos (by omega), ← List.append_assoc, show slI' (n / 64 * 64) = 63 + n / 64 by unfold slI'; split <;> omega, show slI' (n % 64) = n % 64 by unfold slI'; rw [if_pos (by omega)]]; rfl) | (rw [if_neg (by omega), show slI' (n % 64) = n % 64 by unfold slI'; rw [if_pos (by omega)]]; rfl)
        rw [e]; exact hu6
      · have e : L ++ runB d n = (L ++ cdb (cB 1) (slI' (n % 64))) := by rw [cd, runB]; first | (rw [if_pos (by omega), ← List.append_assoc, show slI' (n / 64 * 64) = 63 + n / 64 by unfold slI'; split <;> omega, show slI' (n % 64) = n % 64 by unfold slI'; rw [if_pos (by omega)]]; rfl) | (rw [if_neg (by omega), show slI' (n % 64) = n % 64 by unfold slI'; rw [if_pos (by omega)]]; rfl)
        rw [e]
    · have hi1 : isR (n / 64 * 64) = true := decide_eq_true (by omega)
      refine z_aload_n C dX8_putRun_16 1 rfl ?_
      refine z_iload_n C dX8_putRun_17 0 rfl ?_
      refine z_iload_n C dX8_putRun_18 3 rfl ?_
      refine z_bipush C (z := 64) dX8_putRun_19 (by decide) ?_
      refine z_idiv C dX8_putRun_21 (by omega) (by decide) ?_
      refine z_bipush C (z := 64) dX8_putRun_22 (by decide) ?_
      refine z_imul C dX8_putRun_24 ?_
      refine z_callV C (As := [vI 1, vI ((n / 64) * 64)]) (st := []) (c_X8_putCode l D cy tw b kd co th rw cl po dm sx aa dk fi bb cz hm se da sa bt oz 1 ((n / 64) * 64) L (hL) (by omega) (hi1) (by omega)) gX8_putRun_X8_putCode kn_X8_putCode rfl ⟨rfl, rfl, Nat.le_of_ble_eq_true rfl, Nat.le_of_ble_eq_true rfl⟩ 0 rfl (ci := 10) rfl rfl (Nat.le_of_ble_eq_true rfl) ⟨Nat.le_of_ble_eq_true rfl, Nat.le_of_ble_eq_true rfl⟩ dX8_putRun_25 (fun u7 hu7 => ?_)
      show V 0 0 (MW cy b kd co th rw cl (((L ++ cdb (cB 1) (slI' ((n / 64) * 64))).length : Nat) : Int) po dm sx aa dk fi bb cz hm se da sa bt u7) [(3, vI 1), (0, .ref (b 0)), (1, vI (b2i d)), (2, vI n)] [] 28
      refine z_aload_n C dX8_putRun_28 1 rfl ?_
      refine z_iload_n C dX8_putRun_29 0 rfl ?_
      refine z_iload_n C dX8_putRun_30 3 rfl ?_
      refine z_bipush C (z := 64) dX8_putRun_31 (by decide) ?_
      refine z_irem C dX8_putRun_33 (by omega) (by decide) ?_
      refine z_callV C (As := [vI 1, vI (n % 64)]) (st := []) (c_X8_putCode l D cy tw b kd co th rw cl po dm sx aa dk fi bb cz hm se da sa bt u7 1 (n % 64) (L ++ cdb (cB 1) (slI' ((n / 64) * 64))) (hu7) (by omega) (hi2) (by have hq := lenC_rg (cB 1) (slI' (n / 64 * 64)); have hq2 := lenC_rg (cB 0) (slI' (n / 64 * 64)); (try simp only [List.length_append, cdb, bitsL_len]); omega)) gX8_putRun_X8_putCode kn_X8_putCode rfl ⟨rfl, rfl, Nat.le_of_ble_eq_true rfl, Nat.le_of_ble_eq_true rfl⟩ 0 rfl (ci := 10) rfl rfl (Nat.le_of_ble_eq_true rfl) ⟨Nat.le_of_ble_eq_true rfl, Nat.le_of_ble_eq_true rfl⟩ dX8_putRun_34 (fun u8 hu8 => ?_)
      show V 0 0 (MW cy b kd co th rw cl ((((L ++ cdb (cB 1) (slI' ((n / 64) * 64))) ++ cdb (cB 1) (slI' (n % 64))).length : Nat) : Int) po dm sx aa dk fi bb cz hm se da sa bt u8) [(3, vI 1), (0, .ref (b 0)), (1, vI (b2i d)), (2, vI n)] [] 37
      refine z_vret C dX8_putRun_37 u8 ?_ ?_ ?_ (by decide) (by decide)
      · exact rfl
      · have e : L ++ runB d n = ((L ++ cdb (cB 1) (slI' ((n / 64) * 64))) ++ cdb (cB 1) (slI' (n % 64))) := by rw [cd, runB]; first | (rw [if_pos (by omega), ← List.append_assoc, show slI' (n / 64 * 64) = 63 + n / 64 by unfold slI'; split <;> omega, show slI' (n % 64) = n % 64 by unfold slI'; rw [if_pos (by omega)]]; rfl) | (rw [if_neg (by omega), show slI' (n % 64) = n % 64 by unfold slI'; rw [if_pos (by omega)]]; rfl)
        rw [e]; exact hu8
      · have e : L ++ runB d n = ((L ++ cdb (cB 1) (slI' ((n / 64) * 64))) ++ cdb (cB 1) (slI' (n % 64))) := by rw [cd, runB]; first | (rw [if_pos (by omega), ← List.append_assoc, show slI' (n / 64 * 64) = 63 + n / 64 by unfold slI'; split <;> omega, show slI' (n % 64) = n % 64 by unfold slI'; rw [if_pos (by omega)]]; rfl) | (rw [if_neg (by omega), show slI' (n % 64) = n % 64 by unfold slI'; rw [if_pos (by omega)]]; rfl)
        rw [e]
