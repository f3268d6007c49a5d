/-! the next place of a colour -/
def bcF (i0 : BitVec 64) : Int :=
  let i1 := i0 - ((i0 >>> 1) &&& 6148914691236517205#64)
  let i2 := (i1 &&& 3689348814741910323#64) + ((i1 >>> 2) &&& 3689348814741910323#64)
  let i3 := (i2 + (i2 >>> 4)) &&& 1085102592571150095#64
  let i4 := i3 + (i3 >>> 8)
  let i5 := i4 + (i4 >>> 16)
  let i6 := i5 + (i5 >>> 32)
  i6.toInt % 2 ^ 7
theorem bcF_low : ∀ k : Fin 64, bcF (BitVec.twoPow 64 k.val - 1#64) = (k.val : Int) := by decide +kernel
theorem low_bit (v : BitVec 64) (h : ¬ v = 0#64) : ∃ k : Nat, k < 64 ∧ v.getLsbD k = true ∧ (∀ j : Nat, j < k → v.getLsbD j = false) ∧ v &&& -v = BitVec.twoPow 64 k := by
  have he : ∃ k : Nat, k < 64 ∧ v.getLsbD k = true := by
    apply Classical.byContradiction
    intro hn
    apply h
    apply BitVec.eq_of_getLsbD_eq
    intro i hi
    cases hb : v.getLsbD i with
    | false => simp
    | true => exact absurd ⟨i, hi, hb⟩ hn
  obtain ⟨k, ⟨hk, hb⟩, hmin⟩ := pk_least (fun k => k < 64 ∧ v.getLsbD k = true) he
  have hmin2 : ∀ j : Nat, j < k → v.getLsbD j = false := fun j hj => by
    cases hq : v.getLsbD j with
    | false => rfl
    | true => exact absurd ⟨by omega, hq⟩ (hmin j hj)
  refine ⟨k, hk, hb, hmin2, ?_⟩
  apply BitVec.eq_of_getLsbD_eq
  intro i hi
  rw [BitVec.getLsbD_and, BitVec.getLsbD_neg, BitVec.getLsbD_twoPow]
  rcases Nat.lt_trichotomy i k with h1 | h1 | h1
  · rw [hmin2 i h1]
    simp; omega
  · subst h1
    rw [hb]
    have : ¬ ∃ j, j < i ∧ v.getLsbD j = true := fun ⟨j, h2, h3⟩ => by rw [hmin2 j h2] at h3; cases h3
    simp [hi]
    intro j hj
    exact hmin2 j hj
  · have : ∃ j, j < i ∧ v.getLsbD j = true := ⟨k, h1, hb⟩
    simp [hi, this]
    omega
def fdC (w : BitVec 64) (y : Int) (d : Bool) : BitVec 64 := (if d then w else w ^^^ 18446744073709551615#64) &&& (18446744073709551615#64 <<< (y % 64).toNat)
theorem fdC_t1 (n j : Nat) (hj : j < 64) : (18446744073709551615#64 <<< n).getLsbD j = decide (n ≤ j) := by
  rw [show (18446744073709551615#64 : BitVec 64) = BitVec.allOnes 64 by decide, BitVec.getLsbD_shiftLeft, BitVec.getLsbD_allOnes]
  by_cases h : n ≤ j
  · simp [hj, h, Nat.not_lt.mpr h]
    omega
  · simp [hj, h]
theorem fdC_bit (w : BitVec 64) (y : Int) (d : Bool) (j : Nat) (hj : j < 64) : (fdC w y d).getLsbD j = (decide ((y % 64).toNat ≤ j) && (w.getLsbD j == d)) := by
  rw [fdC, BitVec.getLsbD_and, fdC_t1 _ _ hj, Bool.and_comm]
  congr 1
  cases d
  · rw [if_neg (by decide), BitVec.getLsbD_xor, show (18446744073709551615#64 : BitVec 64) = BitVec.allOnes 64 by decide, BitVec.getLsbD_allOnes, decide_eq_true hj]
    cases w.getLsbD j <;> rfl
  · rw [if_pos rfl]
    cases w.getLsbD j <;> rfl
theorem px_at {wo : Nat → BitVec 64} {co r x : Int} (h : 0 ≤ x ∧ x < co) : px wo co r x = (wdC wo co r (x / 64)).getLsbD (x % 64).toNat := by rw [px, decide_eq_true h]; rfl
theorem nx_skip {wo : Nat → BitVec 64} {co r y : Int} {d : Bool} (h0 : 0 ≤ y) (hf : fdC (wdC wo co r (y / 64)) y d = 0#64) : nxt (px wo co r) co y d = nxt (px wo co r) co (y / 64 * 64 + 63 + 1) d := by
  rw [show y / 64 * 64 + 63 + 1 = y + ((64 - (y % 64).toNat : Nat) : Int) by omega]
  refine nxt_skip _ (fun j h1 h2 h3 => ?_)
  have hb : (fdC (wdC wo co r (y / 64)) y d).getLsbD (j % 64).toNat = false := by rw [hf]; simp
  rw [fdC_bit _ _ _ _ (by omega)] at hb
  rw [px_at ⟨by omega, h3⟩, show j / 64 = y / 64 by omega]
  intro he
  rw [he] at hb
  simp at hb
  omega
theorem nx_hit {wo : Nat → BitVec 64} {co r y : Int} {d : Bool} (h0 : 0 ≤ y) (hf : ¬ fdC (wdC wo co r (y / 64)) y d = 0#64) : nxt (px wo co r) co y d = (if y / 64 * 64 + bcF ((fdC (wdC wo co r (y / 64)) y d &&& -fdC (wdC wo co r (y / 64)) y d) - 1#64) < co then y / 64 * 64 + bcF ((fdC (wdC wo co r (y / 64)) y d &&& -fdC (wdC wo co r (y / 64)) y d) - 1#64) else co) ∧ 0 ≤ bcF ((fdC (wdC wo co r (y / 64)) y d &&& -fdC (wdC wo co r (y / 64)) y d) - 1#64) ∧ bcF ((fdC (wdC wo co r (y / 64)) y d &&& -fdC (wdC wo co r (y / 64)) y d) - 1#64) < 64 := by
  obtain ⟨k, hk, hb, hmin, he⟩ := low_bit _ hf
  have hbc := bcF_low ⟨k, hk⟩
  simp only at hbc
  rw [he, hbc]
  refine ⟨?_, by omega, by omega⟩
  rw [fdC_bit _ _ _ _ hk] at hb
  simp only [Bool.and_eq_true, decide_eq_true_eq, beq_iff_eq] at hb
  have hs : nxt (px wo co r) co y d = nxt (px wo co r) co (y + ((k - (y % 64).toNat : Nat) : Int)) d := by
    refine nxt_skip _ (fun j h1 h2 h3 => ?_)
    have hm := hmin (j % 64).toNat (by omega)
    rw [fdC_bit _ _ _ _ (by omega)] at hm
    rw [px_at ⟨by omega, h3⟩, show j / 64 = y / 64 by omega]
    intro he
    rw [he] at hm
    simp at hm
    omega
  rw [hs, show y + ((k - (y % 64).toNat : Nat) : Int) = y / 64 * 64 + (k : Int) by omega]
  by_cases hc : y / 64 * 64 + (k : Int) < co
  · rw [if_pos hc]
    refine nxt_at hc ?_
    rw [px_at ⟨by omega, hc⟩, show (y / 64 * 64 + (k : Int)) / 64 = y / 64 by omega, show ((y / 64 * 64 + (k : Int)) % 64).toNat = k by omega]
    exact hb.2
  · rw [if_neg hc]
    exact nxt_ge (by omega)
theorem nxt_lo (f : Int → Bool) (N x : Int) (d : Bool) : x ≤ nxt f N x d ∨ N ≤ nxt f N x d := by
  rcases Int.lt_or_le N x with h | h
  · right; rw [nxt_ge (by omega)]; omega
  · left; exact (nxt_rg f N x d).2 h
def chC (f : Int → Bool) (N x : Int) (d : Bool) : Int := nxt f N (if f (x - 1) == d then nxt f N x (!d) else x) d
def crun (f : Int → Bool) (N : Int) : Nat → Int → Bool → Int
  | 0, _, _ => 0
  | n + 1, x, d => if x < N then 1 + crun f N n (nxt f N x (!d)) (!d) else 0
theorem crun_ge {f : Int → Bool} {N x : Int} {d : Bool} (n : Nat) (h : N ≤ x) : crun f N n x d = 0 := by
  cases n with
  | zero => rfl
  | succ n => rw [crun, if_neg (by omega)]
def lrun (f : Int → Bool) (N i : Int) : Nat → Int → Int → Bool → Int
  | 0, _, _, _ => -2
  | n + 1, k, x, d => if x < N then (if k = i then nxt f N x (!d) - x else lrun f N i n (k + 1) (nxt f N x (!d)) (!d)) else -2
theorem lrun_ge {f : Int → Bool} {N i k x : Int} {d : Bool} (n : Nat) (h : N ≤ x) : lrun f N i n k x d = -2 := by
  cases n with
  | zero => rfl
  | succ n => rw [lrun, if_neg (by omega)]
theorem kn_J13_bitCount_95d88 : zKn yJ13_bitCount_95d88 wsJ13_bitCount_95d88 cJ13_bitCount_95d88 2 (some .int) 1 := ⟨⟨_, rfl⟩, by decide +kernel, by decide +kernel, by decide +kernel⟩
set_option maxHeartbeats 400000 in
set_option maxRecDepth 100000 in
theorem c_J13_bitCount_95d88 (l : Launch) (D : va_G) (cy : Nat → ClassId) (tw : Nat → Nat) (a : Nat → Nat) (kd : Int) (co : Int) (mk : Bool) (al : Bool) (dz : Bool) (rd : Bool) (rw : Int) (wo : Nat → BitVec 64) (sa : Nat → Int) (sz : Int) (ps : Int) (bt : Nat → Int) (ou : Nat → BitVec 64) (bi : Int) (dm : Int) (pl : Bool) (re : Int) (cu : Bool) (w : BitVec 64)   : zMet l yJ13_bitCount_95d88 wsJ13_bitCount_95d88 { frames := 0, cells := 0, slots := 0, locals := 0 } D (zT cy) tw (CW cy a kd co mk al dz rd rw wo sa sz ps bt ou bi dm pl re cu) [vJ w] 0 0 (S := Unit) (fun _ => some (vI (bcF w))) (fun _ => CW cy a kd co mk al dz rd rw wo sa sz ps bt ou bi dm pl re cu) (fun _ => True) := by
  refine z_met (cc := cJ13_bitCount_95d88) (nL := 2) (ret := some .int) (by decide +kernel) rfl (Nat.le_of_ble_eq_true rfl) (lv := [(0, vJ w)]) rfl ?_
  intro V p_ e_ s_ m_ args_ below_ meth_ c_ A_ C hmn
  have k0 : Cond.constantLong RJ13 314 (6148914691236517205) ∈ wsJ13_bitCount_95d88 := List.mem_of_getElem? (i := 1) rfl
  have k1 : Cond.constantLong RJ13 316 (3689348814741910323) ∈ wsJ13_bitCount_95d88 := List.mem_of_getElem? (i := 2) rfl
  have k2 : Cond.constantLong RJ13 318 (1085102592571150095) ∈ wsJ13_bitCount_95d88 := List.mem_of_getElem? (i := 3) rfl
  refine z_lload_n C dJ13_bitCount_95d88_0 0 rfl ?_
  refine z_lload_n C dJ13_bitCount_95d88_1 0 rfl ?_
  refine z_iconst C (z := 1) dJ13_bitCount_95d88_2 ?_
  refine z_lushr C (y := 1) 1 (by decide) (by decide) dJ13_bitCount_95d88_3 ?_
  refine z_ldc2 C (w := 6148914691236517205#64) k0 dJ13_bitCount_95d88_4 ?_
  refine z_land C dJ13_bitCount_95d88_7 ?_
  refine z_lsub2 C dJ13_bitCount_95d88_8 ?_
  refine z_nmJ (fun i1 ei1 => ?_)
  refine z_lstore_n C (lv' := [(0, vJ i1)]) dJ13_bitCount_95d88_9 rfl (by decide) rfl ?_
  refine z_lload_n C dJ13_bitCount_95d88_10 0 rfl ?_
  refine z_ldc2 C (w := 3689348814741910323#64) k1 dJ13_bitCount_95d88_11 ?_
  refine z_land C dJ13_bitCount_95d88_14 ?_
  refine z_lload_n C dJ13_bitCount_95d88_15 0 rfl ?_
  refine z_iconst C (z := 2) dJ13_bitCount_95d88_16 ?_
  refine z_lushr C (y := 2) 2 (by decide) (by decide) dJ13_bitCount_95d88_17 ?_
  refine z_ldc2 C (w := 3689348814741910323#64) k1 dJ13_bitCount_95d88_18 ?_
  refine z_land C dJ13_bitCount_95d88_21 ?_
  refine z_ladd C dJ13_bitCount_95d88_22 ?_
  refine z_nmJ (fun i2 ei2 => ?_)
  refine z_lstore_n C (lv' := [(0, vJ i2)]) dJ13_bitCount_95d88_23 rfl (by decide) rfl ?_
  refine z_lload_n C dJ13_bitCount_95d88_24 0 rfl ?_
  refine z_lload_n C dJ13_bitCount_95d88_25 0 rfl ?_
  refine z_iconst C (z := 4) dJ13_bitCount_95d88_26 ?_
  refine z_lushr C (y := 4) 4 (by decide) (by decide) dJ13_bitCount_95d88_27 ?_
  refine z_ladd C dJ13_bitCount_95d88_28 ?_
  refine z_ldc2 C (w := 1085102592571150095#64) k2 dJ13_bitCount_95d88_29 ?_
  refine z_land C dJ13_bitCount_95d88_32 ?_
  refine z_nmJ (fun i3 ei3 => ?_)
  refine z_lstore_n C (lv' := [(0, vJ i3)]) dJ13_bitCount_95d88_33 rfl (by decide) rfl ?_
  refine z_lload_n C dJ13_bitCount_95d88_34 0 rfl ?_
  refine z_lload_n C dJ13_bitCount_95d88_35 0 rfl ?_
  refine z_bipush C (z := 8) dJ13_bitCount_95d88_36 (by decide) ?_
  refine z_lushr C (y := 8) 8 (by decide) (by decide) dJ13_bitCount_95d88_38 ?_
  refine z_ladd C dJ13_bitCount_95d88_39 ?_
  refine z_nmJ (fun i4 ei4 => ?_)
  refine z_lstore_n C (lv' := [(0, vJ i4)]) dJ13_bitCount_95d88_40 rfl (by decide) rfl ?_
  refine z_lload_n C dJ13_bitCount_95d88_41 0 rfl ?_
  refine z_lload_n C dJ13_bitCount_95d88_42 0 rfl ?_
  refine z_bipush C (z := 16) dJ13_bitCount_95d88_43 (by decide) ?_
  refine z_lushr C (y := 16) 16 (by decide) (by decide) dJ13_bitCount_95d88_45 ?_
  refine z_ladd C dJ13_bitCount_95d88_46 ?_
  refine z_nmJ (fun i5 ei5 => ?_)
  refine z_lstore_n C (lv' := [(0, vJ i5)]) dJ13_bitCount_95d88_47 rfl (by decide) rfl ?_
  refine z_lload_n C dJ13_bitCount_95d88_48 0 rfl ?_
  refine z_lload_n C dJ13_bitCount_95d88_49 0 rfl ?_
  refine z_bipush C (z := 32) dJ13_bitCount_95d88_50 (by decide) ?_
  refine z_lushr C (y := 32) 32 (by decide) (by decide) dJ13_bitCount_95d88_52 ?_
  refine z_ladd C dJ13_bitCount_95d88_53 ?_
  refine z_nmJ (fun i6 ei6 => ?_)
  refine z_lstore_n C (lv' := [(0, vJ i6)]) dJ13_bitCount_95d88_54 rfl (by decide) rfl ?_
  refine z_lload_n C dJ13_bitCount_95d88_55 0 rfl ?_
  refine z_l2i C dJ13_bitCount_95d88_56 ?_
  refine z_bipush C (z := 127) dJ13_bitCount_95d88_57 (by decide) ?_
  refine z_iand C 7 dJ13_bitCount_95d88_59 (by decide) (by decide) ?_
  refine z_iret (x := (((i6 : BitVec 64).toInt) % 2 ^ 7)) C dJ13_bitCount_95d88_60 () ?_ ?_ ?_ (by decide) (by decide)
  · subst ei6 ei5 ei4 ei3 ei2 ei1; rfl
  · exact trivial
  · exact rfl
theorem kn_X2_nextOf : zKn yX2_nextOf wsX2_nextOf cX2_nextOf 10 (some .int) 3 := ⟨⟨_, rfl⟩, by decide +kernel, by decide +kernel, by decide +kernel⟩
set_option maxHeartbeats 400000 in
set_option maxRecDepth 100000 in
theorem c_X2_nextOf (l : Launch) (D : va_G) (cy : Nat → ClassId) (tw : Nat → Nat) (a : Nat → Nat) (kd : Int) (co : Int) (mk : Bool) (al : Bool) (dz : Bool) (rd : Bool) (rw : Int) (wo : Nat → BitVec 64) (sa : Nat → Int) (sz : Int) (ps : Int) (bt : Nat → Int) (ou : Nat → BitVec 64) (bi : Int) (dm : Int) (pl : Bool) (re : Int) (cu : Bool) (r : Int) (x : Int) (d : Bool)  (hco : 1 ≤ co ∧ co ≤ 700) (hr : -50 ≤ r ∧ r ≤ 50) (hx : 0 ≤ x ∧ x ≤ 1000) : zMet l yX2_nextOf wsX2_nextOf { frames := 2, cells := 0, slots := 0, locals := 46 } D (zT cy) tw (CW cy a kd co mk al dz rd rw wo sa sz ps bt ou bi dm pl re cu) [.ref (a 2), vI r, vI x, vI (b2i d)] 0 0 (S := Unit) (fun _ => some (vI (nxt (px wo co r) co x d))) (fun _ => CW cy a kd co mk al dz rd rw wo sa sz ps bt ou bi dm pl re cu) (fun _ => True) := by
  refine z_met (cc := cX2_nextOf) (nL := 10) (ret := some .int) (by decide +kernel) rfl (Nat.le_of_ble_eq_true rfl) (lv := [(0, .ref (a 2)), (1, vI r), (2, vI x), (3, vI (b2i d))]) rfl ?_
  intro V p_ e_ s_ m_ args_ below_ meth_ c_ A_ C hmn
  have hinX2 : ∀ w ∈ u_ws RX2 TX2 5, w ∈ wsX2_nextOf := by decide +kernel
  have k0 : Cond.methodLink RX2 43 Lib.Math.max.name ∈ wsX2_nextOf := List.mem_of_getElem? (i := 1) rfl
  have k1 : Cond.static Lib.Math.max.name ∈ wsX2_nextOf := List.mem_of_getElem? (i := 2) rfl
  have k2 : Cond.initialized "java/lang/Math" ∈ wsX2_nextOf := List.mem_of_getElem? (i := 3) rfl
  have k3 : Cond.code Lib.Math.max.name Lib.Math.max.code 2 (some .int) ∈ wsX2_nextOf := List.mem_of_getElem? (i := 4) rfl
  have k4 : Cond.fieldLink RX2 15 "FaxFilter$Picture" "columns" "I" ∈ wsX2_nextOf := List.mem_of_getElem? (i := 5) rfl
  have k5 : Cond.constantLong RX2 41 (-1) ∈ wsX2_nextOf := List.mem_of_getElem? (i := 6) rfl
  have k6 : Cond.methodLink RX2 48 Lib.Math.min.name ∈ wsX2_nextOf := List.mem_of_getElem? (i := 7) rfl
  have k7 : Cond.static Lib.Math.min.name ∈ wsX2_nextOf := List.mem_of_getElem? (i := 8) rfl
  have k8 : Cond.code Lib.Math.min.name Lib.Math.min.code 2 (some .int) ∈ wsX2_nextOf := List.mem_of_getElem? (i := 9) rfl
  refine z_iconst C (z := 0) dX2_nextOf_0 ?_
  refine z_iload_n C dX2_nextOf_1 2 rfl ?_
  refine z_mmax C k0 k1 k2 k3 (Nat.le_of_ble_eq_true rfl) (Nat.le_of_ble_eq_true rfl) (Nat.le_of_ble_eq_true rfl) (Nat.le_of_ble_eq_true rfl) (x := 0) (y := x) (by decide) (by omega) dX2_nextOf_2 ?_
  refine z_istore C (lv' := [(4, vI (if 0 < x then x else 0)), (0, .ref (a 2)), (1, vI r), (2, vI x), (3, vI (b2i d))]) dX2_nextOf_5 (by decide) rfl ?_
  have J7 : ∀ (f : Nat) (y : Int), (0 ≤ y ∧ y ≤ 1000) → (nxt (px wo co r) co x d = nxt (px wo co r) co y d) → (co - y).toNat < f → V 0 0 (CW cy a kd co mk al dz rd rw wo sa sz ps bt ou bi dm pl re cu) [(0, .ref (a 2)), (1, vI r), (2, vI x), (3, vI (b2i d)), (4, vI y)] [] 7 := by
    intro f
    induction f with
    | zero => intro y i0 i1 hf; exact absurd hf (Nat.not_lt_zero _)
    | succ f ih =>
      intro y i0 i1 hf
      refine z_iload C dX2_nextOf_7 4 rfl ?_
      refine z_aload_n C dX2_nextOf_9 0 rfl ?_
      refine z_get C hinX2 (ci := 4) rfl 2 rfl 0 (by decide) k4 rfl (v := vI co) rfl dX2_nextOf_10 ?_
      refine z_icmp_ge C (by omega) (by omega) (tgt := 103) dX2_nextOf_13 (by decide) (fun hc_1 => ?_) (fun hc_1 => ?_)
      · refine z_aload_n C dX2_nextOf_103 0 rfl ?_
        refine z_get C hinX2 (ci := 4) rfl 2 rfl 0 (by decide) k4 rfl (v := vI co) rfl dX2_nextOf_104 ?_
        refine z_iret (x := co) C dX2_nextOf_107 () ?_ ?_ ?_ (by decide) (by decide)
        · rw [i1, nxt_ge (by omega)]
        · exact trivial
        · exact rfl
      · refine z_aload_n C dX2_nextOf_16 0 rfl ?_
        refine z_iload_n C dX2_nextOf_17 1 rfl ?_
        refine z_iload C dX2_nextOf_18 4 rfl ?_
        refine z_bipush C (z := 64) dX2_nextOf_20 (by decide) ?_
        refine z_idiv C dX2_nextOf_22 (by omega) (by decide) ?_
        refine z_callV C (As := [vI r, vI (y / 64)]) (st := []) (c_X2_wordOf l D cy tw a kd co mk al dz rd rw wo sa sz ps bt ou bi dm pl re cu r (y / 64)  (by omega) (by omega) (by omega)) gX2_nextOf_X2_wordOf kn_X2_wordOf rfl ⟨rfl, rfl, Nat.le_of_ble_eq_true rfl, Nat.le_of_ble_eq_true rfl⟩ 2 rfl (ci := 4) rfl rfl (Nat.le_of_ble_eq_true rfl) ⟨Nat.le_of_ble_eq_true rfl, Nat.le_of_ble_eq_true rfl⟩ dX2_nextOf_23 (fun u2 hu2 => ?_)
        clear hu2; clear u2
        show V 0 0 (CW cy a kd co mk al dz rd rw wo sa sz ps bt ou bi dm pl re cu) [(0, .ref (a 2)), (1, vI r), (2, vI x), (3, vI (b2i d)), (4, vI y)] [vJ (wdC wo co r (y / 64))] 26
        refine z_lstore C (lv' := [(5, vJ (wdC wo co r (y / 64))), (0, .ref (a 2)), (1, vI r), (2, vI x), (3, vI (b2i d)), (4, vI y)]) dX2_nextOf_26 (by decide) rfl ?_
        refine z_iload_n C dX2_nextOf_28 4 rfl ?_
        refine z_ifz C (tgt := 37) dX2_nextOf_29 (by decide) (fun cd => ?_) (fun cd => ?_)
        · refine z_lload C dX2_nextOf_37 0 rfl ?_
          refine z_ldc2 C (w := 18446744073709551615#64) k5 dX2_nextOf_39 ?_
          refine z_lxor C dX2_nextOf_42 ?_
          refine z_ldc2 C (w := 18446744073709551615#64) k5 dX2_nextOf_43 ?_
          refine z_iload C dX2_nextOf_46 5 rfl ?_
          refine z_lshl C (y := y) ((y % 64).toNat) (by omega) (rfl) dX2_nextOf_48 ?_
          refine z_land C dX2_nextOf_49 ?_
          refine z_lstore C (lv' := [(7, vJ (((wdC wo co r (y / 64)) ^^^ (18446744073709551615#64)) &&& ((18446744073709551615#64) <<< ((y % 64).toNat)))), (5, vJ (wdC wo co r (y / 64))), (0, .ref (a 2)), (1, vI r), (2, vI x), (3, vI (b2i d)), (4, vI y)]) dX2_nextOf_50 (by decide) rfl ?_
          refine z_lload C dX2_nextOf_52 0 rfl ?_
          refine z_lconst C dX2_nextOf_54 ?_
          refine z_lcmp C dX2_nextOf_55 ?_
          refine z_if_eq C (by exact lcm_rg _ _) (tgt := 91) dX2_nextOf_56 (by decide) (fun cb => ?_) (fun cb => ?_)
          · refine z_iload C dX2_nextOf_91 6 rfl ?_
            refine z_bipush C (z := 63) dX2_nextOf_93 (by decide) ?_
            refine z_ior63 C (by omega) dX2_nextOf_95 ?_
            refine z_iconst C (z := 1) dX2_nextOf_96 ?_
            refine z_iadd C dX2_nextOf_97 ?_
            refine z_istore C (lv' := [(4, vI ((y / 64 * 64 + 63) + 1)), (7, vJ (((wdC wo co r (y / 64)) ^^^ (18446744073709551615#64)) &&& ((18446744073709551615#64) <<< ((y % 64).toNat)))), (5, vJ (wdC wo co r (y / 64))), (0, .ref (a 2)), (1, vI r), (2, vI x), (3, vI (b2i d))]) dX2_nextOf_98 (by decide) rfl ?_
            refine z_goto C (tgt := 7) dX2_nextOf_100 (by decide) ?_
            refine z_lsub C [3, 4, 5, 6, 0] rfl ?_
            exact ih ((y / 64 * 64 + 63) + 1) (by omega) (by have hf : fdC (wdC wo co r (y / 64)) y d = ((wdC wo co r (y / 64)) ^^^ (18446744073709551615#64)) &&& ((18446744073709551615#64) <<< ((y % 64).toNat)) := (by subst cd; rfl); rw [i1]; exact nx_skip i0.1 (hf.trans (lcm_0.mp cb))) (by omega)
          · have hf : fdC (wdC wo co r (y / 64)) y d = ((wdC wo co r (y / 64)) ^^^ (18446744073709551615#64)) &&& ((18446744073709551615#64) <<< ((y % 64).toNat)) := by subst cd; rfl
            have hh := nx_hit (wo := wo) (co := co) (r := r) (y := y) (d := d) i0.1 (fun h => cb (lcm_0.mpr (by rw [← hf]; exact h)))
            rw [hf] at hh
            refine z_lload C dX2_nextOf_59 0 rfl ?_
            refine z_lload C dX2_nextOf_61 0 rfl ?_
            refine z_lneg C dX2_nextOf_63 ?_
            refine z_land C dX2_nextOf_64 ?_
            refine z_lconst C dX2_nextOf_65 ?_
            refine z_lsub2 C dX2_nextOf_66 ?_
            refine z_callS C (As := [vJ (((((wdC wo co r (y / 64)) ^^^ (18446744073709551615#64)) &&& ((18446744073709551615#64) <<< ((y % 64).toNat))) &&& (-(((wdC wo co r (y / 64)) ^^^ (18446744073709551615#64)) &&& ((18446744073709551615#64) <<< ((y % 64).toNat))))) - (1#64))]) (st := []) (c_J13_bitCount_95d88 l D cy tw a kd co mk al dz rd rw wo sa sz ps bt ou bi dm pl re cu (((((wdC wo co r (y / 64)) ^^^ (18446744073709551615#64)) &&& ((18446744073709551615#64) <<< ((y % 64).toNat))) &&& (-(((wdC wo co r (y / 64)) ^^^ (18446744073709551615#64)) &&& ((18446744073709551615#64) <<< ((y % 64).toNat))))) - (1#64))  ) gX2_nextOf_J13_bitCount_95d88 kn_J13_bitCount_95d88 ⟨rfl, rfl, Nat.le_of_ble_eq_true rfl, Nat.le_of_ble_eq_true rfl⟩ rfl (Nat.le_of_ble_eq_true rfl) ⟨Nat.le_of_ble_eq_true rfl, Nat.le_of_ble_eq_true rfl⟩ dX2_nextOf_67 (fun u3 hu3 => ?_)
            clear hu3; clear u3
            show V 0 0 (CW cy a kd co mk al dz rd rw wo sa sz ps bt ou bi dm pl re cu) [(7, vJ (((wdC wo co r (y / 64)) ^^^ (18446744073709551615#64)) &&& ((18446744073709551615#64) <<< ((y % 64).toNat)))), (5, vJ (wdC wo co r (y / 64))), (0, .ref (a 2)), (1, vI r), (2, vI x), (3, vI (b2i d)), (4, vI y)] [vI (bcF (((((wdC wo co r (y / 64)) ^^^ (18446744073709551615#64)) &&& ((18446744073709551615#64) <<< ((y % 64).toNat))) &&& (-(((wdC wo co r (y / 64)) ^^^ (18446744073709551615#64)) &&& ((18446744073709551615#64) <<< ((y % 64).toNat))))) - (1#64)))] 70
            refine z_istore C (lv' := [(9, vI (bcF (((((wdC wo co r (y / 64)) ^^^ (18446744073709551615#64)) &&& ((18446744073709551615#64) <<< ((y % 64).toNat))) &&& (-(((wdC wo co r (y / 64)) ^^^ (18446744073709551615#64)) &&& ((18446744073709551615#64) <<< ((y % 64).toNat))))) - (1#64)))), (7, vJ (((wdC wo co r (y / 64)) ^^^ (18446744073709551615#64)) &&& ((18446744073709551615#64) <<< ((y % 64).toNat)))), (5, vJ (wdC wo co r (y / 64))), (0, .ref (a 2)), (1, vI r), (2, vI x), (3, vI (b2i d)), (4, vI y)]) dX2_nextOf_70 (by decide) rfl ?_
            refine z_aload_n C dX2_nextOf_72 3 rfl ?_
            refine z_get C hinX2 (ci := 4) rfl 2 rfl 0 (by decide) k4 rfl (v := vI co) rfl dX2_nextOf_73 ?_
            refine z_iload C dX2_nextOf_76 7 rfl ?_
            refine z_bipush C (z := 64) dX2_nextOf_78 (by decide) ?_
            refine z_idiv C dX2_nextOf_80 (by omega) (by decide) ?_
            refine z_bipush C (z := 64) dX2_nextOf_81 (by decide) ?_
            refine z_imul C dX2_nextOf_83 ?_
            refine z_iload C dX2_nextOf_84 0 rfl ?_
            refine z_iadd C dX2_nextOf_86 ?_
            refine z_mmin C k6 k7 k2 k8 (Nat.le_of_ble_eq_true rfl) (Nat.le_of_ble_eq_true rfl) (Nat.le_of_ble_eq_true rfl) (Nat.le_of_ble_eq_true rfl) (x := co) (y := (((y / 64) * 64) + (bcF (((((wdC wo co r (y / 64)) ^^^ (18446744073709551615#64)) &&& ((18446744073709551615#64) <<< ((y % 64).toNat))) &&& (-(((wdC wo co r (y / 64)) ^^^ (18446744073709551615#64)) &&& ((18446744073709551615#64) <<< ((y % 64).toNat))))) - (1#64))))) (by omega) (by omega) dX2_nextOf_87 ?_
            refine z_iret (x := (if ((y / 64) * 64) + (bcF (((((wdC wo co r (y / 64)) ^^^ (18446744073709551615#64)) &&& ((18446744073709551615#64) <<< ((y % 64).toNat))) &&& (-(((wdC wo co r (y / 64)) ^^^ (18446744073709551615#64)) &&& ((18446744073709551615#64) <<< ((y % 64).toNat))))) - (1#64))) < co then ((y / 64) * 64) + (bcF (((((wdC wo co r (y / 64)) ^^^ (18446744073709551615#64)) &&& ((18446744073709551615#64) <<< ((y % 64).toNat))) &&& (-(((wdC wo co r (y / 64)) ^^^ (18446744073709551615#64)) &&& ((18446744073709551615#64) <<< ((y % 64).toNat))))) - (1#64))) else co)) C dX2_nextOf_90 () ?_ ?_ ?_ (by decide) (by decide)
            · rw [i1, hh.1]
            · exact trivial
            · exact rfl
        · refine z_lload C dX2_nextOf_32 0 rfl ?_
          refine z_goto C (tgt := 43) dX2_nextOf_34 (by decide) ?_
          refine z_ldc2 C (w := 18446744073709551615#64) k5 dX2_nextOf_43 ?_
          refine z_iload C dX2_nextOf_46 5 rfl ?_
          refine z_lshl C (y := y) ((y % 64).toNat) (by omega) (rfl) dX2_nextOf_48 ?_
          refine z_land C dX2_nextOf_49 ?_
          refine z_lstore C (lv' := [(7, vJ ((wdC wo co r (y / 64)) &&& ((18446744073709551615#64) <<< ((y % 64).toNat)))), (5, vJ (wdC wo co r (y / 64))), (0, .ref (a 2)), (1, vI r), (2, vI x), (3, vI (b2i d)), (4, vI y)]) dX2_nextOf_50 (by decide) rfl ?_
          refine z_lload C dX2_nextOf_52 0 rfl ?_
          refine z_lconst C dX2_nextOf_54 ?_
          refine z_lcmp C dX2_nextOf_55 ?_
          refine z_if_eq C (by exact lcm_rg _ _) (tgt := 91) dX2_nextOf_56 (by decide) (fun cb => ?_) (fun cb => ?_)
          · refine z_iload C dX2_nextOf_91 6 rfl ?_
            refine z_bipush C (z := 63) dX2_nextOf_93 (by decide) ?_
            refine z_ior63 C (by omega) dX2_nextOf_95 ?_
            refine z_iconst C (z := 1) dX2_nextOf_96 ?_
            refine z_iadd C dX2_nextOf_97 ?_
            refine z_istore C (lv' := [(4, vI ((y / 64 * 64 + 63) + 1)), (7, vJ ((wdC wo co r (y / 64)) &&& ((18446744073709551615#64) <<< ((y % 64).toNat)))), (5, vJ (wdC wo co r (y / 64))), (0, .ref (a 2)), (1, vI r), (2, vI x), (3, vI (b2i d))]) dX2_nextOf_98 (by decide) rfl ?_
            refine z_goto C (tgt := 7) dX2_nextOf_100 (by decide) ?_
            refine z_lsub C [3, 4, 5, 6, 0] rfl ?_
            exact ih ((y / 64 * 64 + 63) + 1) (by omega) (by have hf : fdC (wdC wo co r (y / 64)) y d = (wdC wo co r (y / 64)) &&& ((18446744073709551615#64) <<< ((y % 64).toNat)) := (by subst cd; rfl); rw [i1]; exact nx_skip i0.1 (hf.trans (lcm_0.mp cb))) (by omega)
          · have hf : fdC (wdC wo co r (y / 64)) y d = (wdC wo co r (y / 64)) &&& ((18446744073709551615#64) <<< ((y % 64).toNat)) := by subst cd; rfl
            have hh := nx_hit (wo := wo) (co := co) (r := r) (y := y) (d := d) i0.1 (fun h => cb (lcm_0.mpr (by rw [← hf]; exact h)))
            rw [hf] at hh
            refine z_lload C dX2_nextOf_59 0 rfl ?_
            refine z_lload C dX2_nextOf_61 0 rfl ?_
            refine z_lneg C dX2_nextOf_63 ?_
            refine z_land C dX2_nextOf_64 ?_
            refine z_lconst C dX2_nextOf_65 ?_
            refine z_lsub2 C dX2_nextOf_66 ?_
            refine z_callS C (As := [vJ ((((wdC wo co r (y / 64)) &&& ((18446744073709551615#64) <<< ((y % 64).toNat))) &&& (-((wdC wo co r (y / 64)) &&& ((18446744073709551615#64) <<< ((y % 64).toNat))))) - (1#64))]) (st := []) (c_J13_bitCount_95d88 l D cy tw a kd co mk al dz rd rw wo sa sz ps bt ou bi dm pl re cu ((((wdC wo co r (y / 64)) &&& ((18446744073709551615#64) <<< ((y % 64).toNat))) &&& (-((wdC wo co r (y / 64)) &&& ((18446744073709551615#64) <<< ((y % 64).toNat))))) - (1#64))  ) gX2_nextOf_J13_bitCount_95d88 kn_J13_bitCount_95d88 ⟨rfl, rfl, Nat.le_of_ble_eq_true rfl, Nat.le_of_ble_eq_true rfl⟩ rfl (Nat.le_of_ble_eq_true rfl) ⟨Nat.le_of_ble_eq_true rfl, Nat.le_of_ble_eq_true rfl⟩ dX2_nextOf_67 (fun u4 hu4 => ?_)
            clear hu4; clear u4
            show V 0 0 (CW cy a kd co mk al dz rd rw wo sa sz ps bt ou bi dm pl re cu) [(7, vJ ((wdC wo co r (y / 64)) &&& ((18446744073709551615#64) <<< ((y % 64).toNat)))), (5, vJ (wdC wo co r (y / 64))), (0, .ref (a 2)), (1, vI r), (2, vI x), (3, vI (b2i d)), (4, vI y)] [vI (bcF ((((wdC wo co r (y / 64)) &&& ((18446744073709551615#64) <<< ((y % 64).toNat))) &&& (-((wdC wo co r (y / 64)) &&& ((18446744073709551615#64) <<< ((y % 64).toNat))))) - (1#64)))] 70
            refine z_istore C (lv' := [(9, vI (bcF ((((wdC wo co r (y / 64)) &&& ((18446744073709551615#64) <<< ((y % 64).toNat))) &&& (-((wdC wo co r (y / 64)) &&& ((18446744073709551615#64) <<< ((y % 64).toNat))))) - (1#64)))), (7, vJ ((wdC wo co r (y / 64)) &&& ((18446744073709551615#64) <<< ((y % 64).toNat)))), (5, vJ (wdC wo co r (y / 64))), (0, .ref (a 2)), (1, vI r), (2, vI x), (3, vI (b2i d)), (4, vI y)]) dX2_nextOf_70 (by decide) rfl ?_
            refine z_aload_n C dX2_nextOf_72 3 rfl ?_
            refine z_get C hinX2 (ci := 4) rfl 2 rfl 0 (by decide) k4 rfl (v := vI co) rfl dX2_nextOf_73 ?_
            refine z_iload C dX2_nextOf_76 7 rfl ?_
            refine z_bipush C (z := 64) dX2_nextOf_78 (by decide) ?_
            refine z_idiv C dX2_nextOf_80 (by omega) (by decide) ?_
            refine z_bipush C (z := 64) dX2_nextOf_81 (by decide) ?_
            refine z_imul C dX2_nextOf_83 ?_
            refine z_iload C dX2_nextOf_84 0 rfl ?_
            refine z_iadd C dX2_nextOf_86 ?_
            refine z_mmin C k6 k7 k2 k8 (Nat.le_of_ble_eq_true rfl) (Nat.le_of_ble_eq_true rfl) (Nat.le_of_ble_eq_true rfl) (Nat.le_of_ble_eq_true rfl) (x := co) (y := (((y / 64) * 64) + (bcF ((((wdC wo co r (y / 64)) &&& ((18446744073709551615#64) <<< ((y % 64).toNat))) &&& (-((wdC wo co r (y / 64)) &&& ((18446744073709551615#64) <<< ((y % 64).toNat))))) - (1#64))))) (by omega) (by omega) dX2_nextOf_87 ?_
            refine z_iret (x := (if ((y / 64) * 64) + (bcF ((((wdC wo co r (y / 64)) &&& ((18446744073709551615#64) <<< ((y % 64).toNat))) &&& (-((wdC wo co r (y / 64)) &&& ((18446744073709551615#64) <<< ((y % 64).toNat))))) - (1#64))) < co then ((y / 64) * 64) + (bcF ((((wdC wo co r (y / 64)) &&& ((18446744073709551615#64) <<< ((y % 64).toNat))) &&& (-((wdC wo co r (y / 64)) &&& ((18446744073709551615#64) <<< ((y % 64).toNat))))) - (1#64))) else co)) C dX2_nextOf_90 () ?_ ?_ ?_ (by decide) (by decide)
            · rw [i1, hh.1]
            · exact trivial
            · exact rfl
  refine z_lsub C [1, 2, 3, 4, 0] rfl ?_
  exact J7 _ (if 0 < x then x else 0) (by split <;> omega) (by rw [show (if 0 < x then x else 0) = x by split <;> omega]) (Nat.lt_succ_self _)
theorem kn_X2_changeTo : zKn yX2_changeTo wsX2_changeTo cX2_changeTo 5 (some .int) 3 := ⟨⟨_, rfl⟩, by decide +kernel, by decide +kernel, by decide +kernel⟩
set_option maxHeartbeats 400000 in
set_option maxRecDepth 100000 in
theorem c_X2_changeTo (l : Launch) (D : va_G) (cy : Nat → ClassId) (tw : Nat → Nat) (a : Nat → Nat) (kd : Int) (co : Int) (mk : Bool) (al : Bool) (dz : Bool) (rd : Bool) (rw : Int) (wo : Nat → BitVec 64) (sa : Nat → Int) (sz : Int) (ps : Int) (bt : Nat → Int) (ou : Nat → BitVec 64) (bi : Int) (dm : Int) (pl : Bool) (re : Int) (cu : Bool) (r : Int) (x : Int) (d : Bool)  (hco : 1 ≤ co ∧ co ≤ 700) (hr : -50 ≤ r ∧ r ≤ 50) (hx : 0 ≤ x ∧ x ≤ 900) : zMet l yX2_changeTo wsX2_changeTo { frames := 3, cells := 0, slots := 0, locals := 75 } D (zT cy) tw (CW cy a kd co mk al dz rd rw wo sa sz ps bt ou bi dm pl re cu) [.ref (a 2), vI r, vI x, vI (b2i d)] 0 0 (S := Unit) (fun _ => some (vI (chC (px wo co r) co x d))) (fun _ => CW cy a kd co mk al dz rd rw wo sa sz ps bt ou bi dm pl re cu) (fun _ => True) := by
  refine z_met (cc := cX2_changeTo) (nL := 5) (ret := some .int) (by decide +kernel) rfl (Nat.le_of_ble_eq_true rfl) (lv := [(0, .ref (a 2)), (1, vI r), (2, vI x), (3, vI (b2i d))]) rfl ?_
  intro V p_ e_ s_ m_ args_ below_ meth_ c_ A_ C hmn
  refine z_aload_n C dX2_changeTo_0 0 rfl ?_
  refine z_iload_n C dX2_changeTo_1 1 rfl ?_
  refine z_iload_n C dX2_changeTo_2 2 rfl ?_
  refine z_iconst C (z := 1) dX2_changeTo_3 ?_
  refine z_isub C dX2_changeTo_4 ?_
  refine z_callV C (As := [vI r, vI (x - 1)]) (st := []) (c_X2_isDark l D cy tw a kd co mk al dz rd rw wo sa sz ps bt ou bi dm pl re cu r (x - 1)  (by omega) (by omega) (by omega)) gX2_changeTo_X2_isDark kn_X2_isDark rfl ⟨rfl, rfl, Nat.le_of_ble_eq_true rfl, Nat.le_of_ble_eq_true rfl⟩ 2 rfl (ci := 4) rfl rfl (Nat.le_of_ble_eq_true rfl) ⟨Nat.le_of_ble_eq_true rfl, Nat.le_of_ble_eq_true rfl⟩ dX2_changeTo_5 (fun u1 hu1 => ?_)
  clear hu1; clear u1
  show V 0 0 (CW cy a kd co mk al dz rd rw wo sa sz ps bt ou bi dm pl re cu) [(0, .ref (a 2)), (1, vI r), (2, vI x), (3, vI (b2i d))] [vI (b2i (px wo co r (x - 1)))] 8
  refine z_iload_n C dX2_changeTo_8 3 rfl ?_
  refine z_eqb C dX2_changeTo_9 dX2_changeTo_12 dX2_changeTo_13 dX2_changeTo_16 ?_
  refine z_istore C (lv' := [(4, vI (b2i ((px wo co r (x - 1)) == d))), (0, .ref (a 2)), (1, vI r), (2, vI x), (3, vI (b2i d))]) dX2_changeTo_17 (by decide) rfl ?_
  refine z_aload_n C dX2_changeTo_19 1 rfl ?_
  refine z_iload_n C dX2_changeTo_20 2 rfl ?_
  refine z_iload C dX2_changeTo_21 0 rfl ?_
  refine z_ifz C (tgt := 44) dX2_changeTo_23 (by decide) (fun cb => ?_) (fun cb => ?_)
  · refine z_iload_n C dX2_changeTo_44 3 rfl ?_
    refine z_iload_n C dX2_changeTo_45 4 rfl ?_
    refine z_callV C (As := [vI r, vI x, vI (b2i d)]) (st := []) (c_X2_nextOf l D cy tw a kd co mk al dz rd rw wo sa sz ps bt ou bi dm pl re cu r x d  (by omega) (by omega) (by omega)) gX2_changeTo_X2_nextOf kn_X2_nextOf rfl ⟨rfl, rfl, Nat.le_of_ble_eq_true rfl, Nat.le_of_ble_eq_true rfl⟩ 2 rfl (ci := 4) rfl rfl (Nat.le_of_ble_eq_true rfl) ⟨Nat.le_of_ble_eq_true rfl, Nat.le_of_ble_eq_true rfl⟩ dX2_changeTo_46 (fun u2 hu2 => ?_)
    clear hu2; clear u2
    show V 0 0 (CW cy a kd co mk al dz rd rw wo sa sz ps bt ou bi dm pl re cu) [(4, vI (b2i ((px wo co r (x - 1)) == d))), (0, .ref (a 2)), (1, vI r), (2, vI x), (3, vI (b2i d))] [vI (nxt (px wo co r) co x d)] 49
    refine z_iret (x := (nxt (px wo co r) co x d)) C dX2_changeTo_49 () ?_ ?_ ?_ (by decide) (by decide)
    · rw [chC, cb]; rfl
    · exact trivial
    · exact rfl
  · refine z_aload_n C dX2_changeTo_26 1 rfl ?_
    refine z_iload_n C dX2_changeTo_27 2 rfl ?_
    refine z_iload_n C dX2_changeTo_28 3 rfl ?_
    refine z_iload_n C dX2_changeTo_29 4 rfl ?_
    refine z_not C dX2_changeTo_30 dX2_changeTo_33 dX2_changeTo_34 dX2_changeTo_37 ?_
    refine z_callV C (As := [vI r, vI x, vI (b2i (!d))]) (st := [vI r, .ref (a 2)]) (c_X2_nextOf l D cy tw a kd co mk al dz rd rw wo sa sz ps bt ou bi dm pl re cu r x (!d)  (by omega) (by omega) (by omega)) gX2_changeTo_X2_nextOf kn_X2_nextOf rfl ⟨rfl, rfl, Nat.le_of_ble_eq_true rfl, Nat.le_of_ble_eq_true rfl⟩ 2 rfl (ci := 4) rfl rfl (Nat.le_of_ble_eq_true rfl) ⟨Nat.le_of_ble_eq_true rfl, Nat.le_of_ble_eq_true rfl⟩ dX2_changeTo_38 (fun u3 hu3 => ?_)
    clear hu3; clear u3
    show V 0 0 (CW cy a kd co mk al dz rd rw wo sa sz ps bt ou bi dm pl re cu) [(4, vI (b2i ((px wo co r (x - 1)) == d))), (0, .ref (a 2)), (1, vI r), (2, vI x), (3, vI (b2i d))] [vI (nxt (px wo co r) co x (!d)), vI r, .ref (a 2)] 41
    have hh := nxt_rg (px wo co r) co x (!d)
    have hlo := nxt_lo (px wo co r) co x (!d)
    refine z_goto C (tgt := 45) dX2_changeTo_41 (by decide) ?_
    refine z_iload_n C dX2_changeTo_45 4 rfl ?_
    refine z_callV C (As := [vI r, vI (nxt (px wo co r) co x (!d)), vI (b2i d)]) (st := []) (c_X2_nextOf l D cy tw a kd co mk al dz rd rw wo sa sz ps bt ou bi dm pl re cu r (nxt (px wo co r) co x (!d)) d  (by omega) (by omega) (by omega)) gX2_changeTo_X2_nextOf kn_X2_nextOf rfl ⟨rfl, rfl, Nat.le_of_ble_eq_true rfl, Nat.le_of_ble_eq_true rfl⟩ 2 rfl (ci := 4) rfl rfl (Nat.le_of_ble_eq_true rfl) ⟨Nat.le_of_ble_eq_true rfl, Nat.le_of_ble_eq_true rfl⟩ dX2_changeTo_46 (fun u4 hu4 => ?_)
    clear hu4; clear u4
    show V 0 0 (CW cy a kd co mk al dz rd rw wo sa sz ps bt ou bi dm pl re cu) [(4, vI (b2i ((px wo co r (x - 1)) == d))), (0, .ref (a 2)), (1, vI r), (2, vI x), (3, vI (b2i d))] [vI (nxt (px wo co r) co (nxt (px wo co r) co x (!d)) d)] 49
    refine z_iret (x := (nxt (px wo co r) co (nxt (px wo co r) co x (!d)) d)) C dX2_changeTo_49 () ?_ ?_ ?_ (by decide) (by decide)
    · rw [chC, cb]; rfl
    · exact trivial
    · exact rfl
theorem kn_X2_countRuns : zKn yX2_countRuns wsX2_countRuns cX2_countRuns 5 (some .int) 1 := ⟨⟨_, rfl⟩, by decide +kernel, by decide +kernel, by decide +kernel⟩
set_option maxHeartbeats 400000 in
set_option maxRecDepth 100000 in
theorem c_X2_countRuns (l : Launch) (D : va_G) (cy : Nat → ClassId) (tw : Nat → Nat) (a : Nat → Nat) (kd : Int) (co : Int) (mk : Bool) (al : Bool) (dz : Bool) (rd : Bool) (rw : Int) (wo : Nat → BitVec 64) (sa : Nat → Int) (sz : Int) (ps : Int) (bt : Nat → Int) (ou : Nat → BitVec 64) (bi : Int) (dm : Int) (pl : Bool) (re : Int) (cu : Bool) (r : Int)  (hco : 1 ≤ co ∧ co ≤ 700) (hr : -50 ≤ r ∧ r ≤ 50) : zMet l yX2_countRuns wsX2_countRuns { frames := 3, cells := 0, slots := 0, locals := 75 } D (zT cy) tw (CW cy a kd co mk al dz rd rw wo sa sz ps bt ou bi dm pl re cu) [.ref (a 2), vI r] 0 0 (S := Unit) (fun _ => some (vI (crun (px wo co r) co (co + 1).toNat 0 false))) (fun _ => CW cy a kd co mk al dz rd rw wo sa sz ps bt ou bi dm pl re cu) (fun _ => True) := by
  refine z_met (cc := cX2_countRuns) (nL := 5) (ret := some .int) (by decide +kernel) rfl (Nat.le_of_ble_eq_true rfl) (lv := [(0, .ref (a 2)), (1, vI r)]) rfl ?_
  intro V p_ e_ s_ m_ args_ below_ meth_ c_ A_ C hmn
  have hinX2 : ∀ w ∈ u_ws RX2 TX2 5, w ∈ wsX2_countRuns := by decide +kernel
  have k0 : Cond.fieldLink RX2 15 "FaxFilter$Picture" "columns" "I" ∈ wsX2_countRuns := List.mem_of_getElem? (i := 1) rfl
  refine z_iconst C (z := 0) dX2_countRuns_0 ?_
  refine z_istore_n C (lv' := [(2, vI 0), (0, .ref (a 2)), (1, vI r)]) dX2_countRuns_1 rfl (by decide) rfl ?_
  refine z_iconst C (z := 0) dX2_countRuns_2 ?_
  refine z_istore_n C (lv' := [(3, vI 0), (2, vI 0), (0, .ref (a 2)), (1, vI r)]) dX2_countRuns_3 rfl (by decide) rfl ?_
  refine z_iconst C (z := 0) dX2_countRuns_4 ?_
  refine z_istore C (lv' := [(4, vI 0), (3, vI 0), (2, vI 0), (0, .ref (a 2)), (1, vI r)]) dX2_countRuns_5 (by decide) rfl ?_
  have J7 : ∀ (f : Nat) (n : Int) (d : Bool) (x : Int), (0 ≤ n ∧ n ≤ co + 1) → (0 ≤ x ∧ x ≤ co) → (crun (px wo co r) co (co + 1).toNat 0 false = n + crun (px wo co r) co (co + 1 - n).toNat x d) → (co + 1 - n).toNat < f → V 0 0 (CW cy a kd co mk al dz rd rw wo sa sz ps bt ou bi dm pl re cu) [(0, .ref (a 2)), (1, vI r), (2, vI n), (3, vI (b2i d)), (4, vI x)] [] 7 := by
    intro f
    induction f with
    | zero => intro n d x i0 i1 i2 hf; exact absurd hf (Nat.not_lt_zero _)
    | succ f ih =>
      intro n d x i0 i1 i2 hf
      refine z_iload C dX2_countRuns_7 4 rfl ?_
      refine z_aload_n C dX2_countRuns_9 0 rfl ?_
      refine z_get C hinX2 (ci := 4) rfl 2 rfl 0 (by decide) k0 rfl (v := vI co) rfl dX2_countRuns_10 ?_
      refine z_icmp_ge C (by omega) (by omega) (tgt := 58) dX2_countRuns_13 (by decide) (fun hc_1 => ?_) (fun hc_1 => ?_)
      · refine z_iload_n C dX2_countRuns_58 2 rfl ?_
        refine z_iret (x := n) C dX2_countRuns_59 () ?_ ?_ ?_ (by decide) (by decide)
        · rw [i2, crun_ge _ (by omega), Int.add_zero]
        · exact trivial
        · exact rfl
      · refine z_iload_n C dX2_countRuns_16 2 rfl ?_
        refine z_aload_n C dX2_countRuns_17 0 rfl ?_
        refine z_get C hinX2 (ci := 4) rfl 2 rfl 0 (by decide) k0 rfl (v := vI co) rfl dX2_countRuns_18 ?_
        refine z_icmp_gt C (by omega) (by omega) (tgt := 58) dX2_countRuns_21 (by decide) (fun hc_2 => ?_) (fun hc_2 => ?_)
        · refine z_iload_n C dX2_countRuns_58 2 rfl ?_
          refine z_iret (x := n) C dX2_countRuns_59 () ?_ ?_ ?_ (by decide) (by decide)
          · rw [i2, show (co + 1 - n).toNat = 0 by omega, crun, Int.add_zero]
          · exact trivial
          · exact rfl
        · refine z_aload_n C dX2_countRuns_24 0 rfl ?_
          refine z_iload_n C dX2_countRuns_25 1 rfl ?_
          refine z_iload C dX2_countRuns_26 4 rfl ?_
          refine z_iload_n C dX2_countRuns_28 3 rfl ?_
          refine z_not C dX2_countRuns_29 dX2_countRuns_32 dX2_countRuns_33 dX2_countRuns_36 ?_
          refine z_callV C (As := [vI r, vI x, vI (b2i (!d))]) (st := []) (c_X2_nextOf l D cy tw a kd co mk al dz rd rw wo sa sz ps bt ou bi dm pl re cu r x (!d)  (by omega) (by omega) (by omega)) gX2_countRuns_X2_nextOf kn_X2_nextOf rfl ⟨rfl, rfl, Nat.le_of_ble_eq_true rfl, Nat.le_of_ble_eq_true rfl⟩ 2 rfl (ci := 4) rfl rfl (Nat.le_of_ble_eq_true rfl) ⟨Nat.le_of_ble_eq_true rfl, Nat.le_of_ble_eq_true rfl⟩ dX2_countRuns_37 (fun u3 hu3 => ?_)
          clear hu3; clear u3
          show V 0 0 (CW cy a kd co mk al dz rd rw wo sa sz ps bt ou bi dm pl re cu) [(0, .ref (a 2)), (1, vI r), (2, vI n), (3, vI (b2i d)), (4, vI x)] [vI (nxt (px wo co r) co x (!d))] 40
          refine z_istore C (lv' := [(4, vI (nxt (px wo co r) co x (!d))), (0, .ref (a 2)), (1, vI r), (2, vI n), (3, vI (b2i d))]) dX2_countRuns_40 (by decide) rfl ?_
          refine z_iload_n C dX2_countRuns_42 4 rfl ?_
          refine z_not C dX2_countRuns_43 dX2_countRuns_46 dX2_countRuns_47 dX2_countRuns_50 ?_
          refine z_istore_n C (lv' := [(3, vI (b2i (!d))), (4, vI (nxt (px wo co r) co x (!d))), (0, .ref (a 2)), (1, vI r), (2, vI n)]) dX2_countRuns_51 rfl (by decide) rfl ?_
          refine z_iinc C (lv' := [(2, vI (n + 1)), (3, vI (b2i (!d))), (4, vI (nxt (px wo co r) co x (!d))), (0, .ref (a 2)), (1, vI r)]) dX2_countRuns_52 4 rfl (by decide) rfl ?_
          refine z_goto C (tgt := 7) dX2_countRuns_55 (by decide) ?_
          refine z_lsub C [3, 4, 0, 1, 2] rfl ?_
          exact ih (n + 1) (!d) (nxt (px wo co r) co x (!d)) (by omega) (by have := nxt_rg (px wo co r) co x (!d); omega) (by rw [i2, show (co + 1 - n).toNat = (co + 1 - (n + 1)).toNat + 1 by omega, crun, if_pos (by omega)]; omega) (by omega)
  refine z_lsub C [3, 4, 2, 1, 0] rfl ?_
  exact J7 _ 0 false 0 (by omega) (by omega) (by simp) (Nat.lt_succ_self _)
theorem kn_X2_lengthOfRun : zKn yX2_lengthOfRun wsX2_lengthOfRun cX2_lengthOfRun 7 (some .int) 2 := ⟨⟨_, rfl⟩, by decide +kernel, by decide +kernel, by decide +kernel⟩
set_option maxHeartbeats 400000 in
set_option maxRecDepth 100000 in
theorem c_X2_lengthOfRun (l : Launch) (D : va_G) (cy : Nat → ClassId) (tw : Nat → Nat) (a : Nat → Nat) (kd : Int) (co : Int) (mk : Bool) (al : Bool) (dz : Bool) (rd : Bool) (rw : Int) (wo : Nat → BitVec 64) (sa : Nat → Int) (sz : Int) (ps : Int) (bt : Nat → Int) (ou : Nat → BitVec 64) (bi : Int) (dm : Int) (pl : Bool) (re : Int) (cu : Bool) (r : Int) (i : Int)  (hco : 1 ≤ co ∧ co ≤ 700) (hr : -50 ≤ r ∧ r ≤ 50) (hi : -2147483648 ≤ i ∧ i < 2147483648) : zMet l yX2_lengthOfRun wsX2_lengthOfRun { frames := 3, cells := 0, slots := 0, locals := 75 } D (zT cy) tw (CW cy a kd co mk al dz rd rw wo sa sz ps bt ou bi dm pl re cu) [.ref (a 2), vI r, vI i] 0 0 (S := Unit) (fun _ => some (vI (lrun (px wo co r) co i (co + 1).toNat 0 0 false))) (fun _ => CW cy a kd co mk al dz rd rw wo sa sz ps bt ou bi dm pl re cu) (fun _ => True) := by
  refine z_met (cc := cX2_lengthOfRun) (nL := 7) (ret := some .int) (by decide +kernel) rfl (Nat.le_of_ble_eq_true rfl) (lv := [(0, .ref (a 2)), (1, vI r), (2, vI i)]) rfl ?_
  intro V p_ e_ s_ m_ args_ below_ meth_ c_ A_ C hmn
  have hinX2 : ∀ w ∈ u_ws RX2 TX2 5, w ∈ wsX2_lengthOfRun := by decide +kernel
  have k0 : Cond.fieldLink RX2 15 "FaxFilter$Picture" "columns" "I" ∈ wsX2_lengthOfRun := List.mem_of_getElem? (i := 1) rfl
  refine z_iconst C (z := 0) dX2_lengthOfRun_0 ?_
  refine z_istore_n C (lv' := [(3, vI 0), (0, .ref (a 2)), (1, vI r), (2, vI i)]) dX2_lengthOfRun_1 rfl (by decide) rfl ?_
  refine z_iconst C (z := 0) dX2_lengthOfRun_2 ?_
  refine z_istore C (lv' := [(4, vI 0), (3, vI 0), (0, .ref (a 2)), (1, vI r), (2, vI i)]) dX2_lengthOfRun_3 (by decide) rfl ?_
  refine z_iconst C (z := 0) dX2_lengthOfRun_5 ?_
  refine z_istore C (lv' := [(5, vI 0), (4, vI 0), (3, vI 0), (0, .ref (a 2)), (1, vI r), (2, vI i)]) dX2_lengthOfRun_6 (by decide) rfl ?_
  have J8 : ∀ (f : Nat) (x : Int) (d : Bool) (n : Int), (0 ≤ n ∧ n ≤ co + 1) → (0 ≤ x ∧ x ≤ co) → (lrun (px wo co r) co i (co + 1).toNat 0 0 false = lrun (px wo co r) co i (co + 1 - n).toNat n x d) → (co + 1 - n).toNat < f → V 0 0 (CW cy a kd co mk al dz rd rw wo sa sz ps bt ou bi dm pl re cu) [(0, .ref (a 2)), (1, vI r), (2, vI i), (3, vI x), (4, vI (b2i d)), (5, vI n)] [] 8 := by
    intro f
    induction f with
    | zero => intro x d n i0 i1 i2 hf; exact absurd hf (Nat.not_lt_zero _)
    | succ f ih =>
      intro x d n i0 i1 i2 hf
      refine z_iload_n C dX2_lengthOfRun_8 3 rfl ?_
      refine z_aload_n C dX2_lengthOfRun_9 0 rfl ?_
      refine z_get C hinX2 (ci := 4) rfl 2 rfl 0 (by decide) k0 rfl (v := vI co) rfl dX2_lengthOfRun_10 ?_
      refine z_icmp_ge C (by omega) (by omega) (tgt := 75) dX2_lengthOfRun_13 (by decide) (fun hc_1 => ?_) (fun hc_1 => ?_)
      · refine z_bipush C (z := (-2)) dX2_lengthOfRun_75 (by decide) ?_
        refine z_iret (x := (-2)) C dX2_lengthOfRun_77 () ?_ ?_ ?_ (by decide) (by decide)
        · rw [i2, lrun_ge _ (by omega)]
        · exact trivial
        · exact rfl
      · refine z_iload C dX2_lengthOfRun_16 5 rfl ?_
        refine z_aload_n C dX2_lengthOfRun_18 0 rfl ?_
        refine z_get C hinX2 (ci := 4) rfl 2 rfl 0 (by decide) k0 rfl (v := vI co) rfl dX2_lengthOfRun_19 ?_
        refine z_icmp_gt C (by omega) (by omega) (tgt := 75) dX2_lengthOfRun_22 (by decide) (fun hc_2 => ?_) (fun hc_2 => ?_)
        · refine z_bipush C (z := (-2)) dX2_lengthOfRun_75 (by decide) ?_
          refine z_iret (x := (-2)) C dX2_lengthOfRun_77 () ?_ ?_ ?_ (by decide) (by decide)
          · rw [i2, show (co + 1 - n).toNat = 0 by omega, lrun]
          · exact trivial
          · exact rfl
        · refine z_aload_n C dX2_lengthOfRun_25 0 rfl ?_
          refine z_iload_n C dX2_lengthOfRun_26 1 rfl ?_
          refine z_iload_n C dX2_lengthOfRun_27 3 rfl ?_
          refine z_iload C dX2_lengthOfRun_28 4 rfl ?_
          refine z_not C dX2_lengthOfRun_30 dX2_lengthOfRun_33 dX2_lengthOfRun_34 dX2_lengthOfRun_37 ?_
          refine z_callV C (As := [vI r, vI x, vI (b2i (!d))]) (st := []) (c_X2_nextOf l D cy tw a kd co mk al dz rd rw wo sa sz ps bt ou bi dm pl re cu r x (!d)  (by omega) (by omega) (by omega)) gX2_lengthOfRun_X2_nextOf kn_X2_nextOf rfl ⟨rfl, rfl, Nat.le_of_ble_eq_true rfl, Nat.le_of_ble_eq_true rfl⟩ 2 rfl (ci := 4) rfl rfl (Nat.le_of_ble_eq_true rfl) ⟨Nat.le_of_ble_eq_true rfl, Nat.le_of_ble_eq_true rfl⟩ dX2_lengthOfRun_38 (fun u3 hu3 => ?_)
          clear hu3; clear u3
          show V 0 0 (CW cy a kd co mk al dz rd rw wo sa sz ps bt ou bi dm pl re cu) [(0, .ref (a 2)), (1, vI r), (2, vI i), (3, vI x), (4, vI (b2i d)), (5, vI n)] [vI (nxt (px wo co r) co x (!d))] 41
          refine z_istore C (lv' := [(6, vI (nxt (px wo co r) co x (!d))), (0, .ref (a 2)), (1, vI r), (2, vI i), (3, vI x), (4, vI (b2i d)), (5, vI n)]) dX2_lengthOfRun_41 (by decide) rfl ?_
          refine z_iload C dX2_lengthOfRun_43 6 rfl ?_
          refine z_iload_n C dX2_lengthOfRun_45 3 rfl ?_
          refine z_icmp_ne C (by omega) (by omega) (tgt := 54) dX2_lengthOfRun_46 (by decide) (fun hc_4 => ?_) (fun hc_4 => ?_)
          · refine z_iload C dX2_lengthOfRun_54 0 rfl ?_
            refine z_istore_n C (lv' := [(3, vI (nxt (px wo co r) co x (!d))), (6, vI (nxt (px wo co r) co x (!d))), (0, .ref (a 2)), (1, vI r), (2, vI i), (4, vI (b2i d)), (5, vI n)]) dX2_lengthOfRun_56 rfl (by decide) rfl ?_
            refine z_iload C dX2_lengthOfRun_57 5 rfl ?_
            refine z_not C dX2_lengthOfRun_59 dX2_lengthOfRun_62 dX2_lengthOfRun_63 dX2_lengthOfRun_66 ?_
            refine z_istore C (lv' := [(4, vI (b2i (!d))), (3, vI (nxt (px wo co r) co x (!d))), (6, vI (nxt (px wo co r) co x (!d))), (0, .ref (a 2)), (1, vI r), (2, vI i), (5, vI n)]) dX2_lengthOfRun_67 (by decide) rfl ?_
            refine z_iinc C (lv' := [(5, vI (n + 1)), (4, vI (b2i (!d))), (3, vI (nxt (px wo co r) co x (!d))), (6, vI (nxt (px wo co r) co x (!d))), (0, .ref (a 2)), (1, vI r), (2, vI i)]) dX2_lengthOfRun_69 6 rfl (by decide) rfl ?_
            refine z_goto C (tgt := 8) dX2_lengthOfRun_72 (by decide) ?_
            refine z_lsub C [4, 5, 6, 2, 1, 0] rfl ?_
            exact ih (nxt (px wo co r) co x (!d)) (!d) (n + 1) (by omega) (by have := nxt_rg (px wo co r) co x (!d); omega) (by rw [i2, show (co + 1 - n).toNat = (co + 1 - (n + 1)).toNat + 1 by omega, lrun, if_pos (by omega), if_neg (by omega)]) (by omega)
          · refine z_iload C dX2_lengthOfRun_49 0 rfl ?_
            refine z_iload_n C dX2_lengthOfRun_51 4 rfl ?_
            refine z_isub C dX2_lengthOfRun_52 ?_
            refine z_iret (x := ((nxt (px wo co r) co x (!d)) - x)) C dX2_lengthOfRun_53 () ?_ ?_ ?_ (by decide) (by decide)
            · rw [i2, show (co + 1 - n).toNat = (co + 1 - (n + 1)).toNat + 1 by omega, lrun, if_pos (by omega), if_pos (by omega)]
            · exact trivial
            · exact rfl
  refine z_lsub C [3, 4, 5, 2, 1, 0] rfl ?_
  exact J8 _ 0 false 0 (by omega) (by omega) (by simp) (Nat.lt_succ_self _)
