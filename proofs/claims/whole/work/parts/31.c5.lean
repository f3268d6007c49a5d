theorem c_X0_passE (l : Launch) (D : va_G) (cy : Nat → ClassId) (tw : Nat → Nat) (a : Nat → Nat) (kd : Int) (co : Int) (mk : Bool) (al : Bool) (dz : Bool) (rd : Bool) (rw : Int) (wo : Nat → BitVec 64) (sa : Nat → Int) (sz : Int) (ps : Int) (bt : Nat → Int) (ou : Nat → BitVec 64) (bi : Int) (dm : Int) (pl : Bool) (re : Int) (cu : Bool) (n : Int) (h0 : 0 ≤ sz ∧ sz ≤ 400) (h1 : 0 ≤ ps ∧ ps ≤ 8 * sz) (h2 : 0 ≤ n ∧ n ≤ 1000 ∧ n ≤ 8 * sz - ps) : zMet l yX0_pass wsX0_pass { frames := 1, cells := 0, slots := 0, locals := 21 } D (zT cy) tw (CW cy a kd co mk al dz rd rw wo sa sz ps bt ou bi dm pl re cu) [.ref (a 5), vI n] 0 0 (S := Unit) (fun _ => none) (fun _ => CW cy a kd co mk al dz rd rw wo sa sz (ps + n) bt ou bi dm pl re cu) (fun _ => True) := by
  refine zMet_mono (c_X0_pass l D cy tw a kd co mk al dz rd rw wo sa sz ps bt ou bi dm pl re cu n h0 h1 (by omega)) (fun _ => ()) (fun _ _ => rfl) (fun _ _ => ?_) (fun _ _ => trivial)
  rw [if_neg (by omega)]
theorem c_X0_passToByteE (l : Launch) (D : va_G) (cy : Nat → ClassId) (tw : Nat → Nat) (a : Nat → Nat) (kd : Int) (co : Int) (mk : Bool) (al : Bool) (dz : Bool) (rd : Bool) (rw : Int) (wo : Nat → BitVec 64) (sa : Nat → Int) (sz : Int) (ps : Int) (bt : Nat → Int) (ou : Nat → BitVec 64) (bi : Int) (dm : Int) (pl : Bool) (re : Int) (cu : Bool)  (h0 : 0 ≤ sz ∧ sz ≤ 400) (h1 : 0 ≤ ps ∧ ps ≤ 8 * sz) : zMet l yX0_passToByte wsX0_passToByte { frames := 2, cells := 0, slots := 0, locals := 42 } D (zT cy) tw (CW cy a kd co mk al dz rd rw wo sa sz ps bt ou bi dm pl re cu) [.ref (a 5)] 0 0 (S := Unit) (fun _ => none) (fun _ => CW cy a kd co mk al dz rd rw wo sa sz (ps + -ps % 2 ^ 3) bt ou bi dm pl re cu) (fun _ => True) := by
  refine zMet_mono (c_X0_passToByte l D cy tw a kd co mk al dz rd rw wo sa sz ps bt ou bi dm pl re cu h0 h1) (fun _ => ()) (fun _ _ => rfl) (fun _ _ => ?_) (fun _ _ => trivial)
  rw [if_neg (by omega)]
/-! how codes are read -/
def pkI (I : Int → Bool) (p : Int) : Nat → Int
  | 0 => 0
  | n + 1 => 2 * pkI I p n + b2i (I (p + (n : Int)))
theorem pow2_le {m n : Nat} (h : m ≤ n) : (2 : Int) ^ m ≤ 2 ^ n := by
  rw [show (2 : Int) ^ m = ((2 ^ m : Nat) : Int) by rw [Int.natCast_pow]; rfl, show (2 : Int) ^ n = ((2 ^ n : Nat) : Int) by rw [Int.natCast_pow]; rfl]
  exact Int.ofNat_le.mpr (Nat.pow_le_pow_right (by decide) h)
theorem pkI_rg (I : Int → Bool) (p : Int) : ∀ n, 0 ≤ pkI I p n ∧ pkI I p n < 2 ^ n
  | 0 => by rw [pkI]; decide
  | n + 1 => by
    have ih := pkI_rg I p n
    have h := b2i_01 (I (p + (n : Int)))
    rw [pkI, Int.pow_succ]
    omega
theorem pkI_add (I : Int → Bool) (p : Int) (m : Nat) : ∀ n : Nat, pkI I p (m + n) = pkI I p m * 2 ^ n + pkI I (p + (m : Int)) n
  | 0 => by rw [pkI]; simp
  | n + 1 => by
    rw [← Nat.add_assoc, pkI, pkI_add I p m n, pkI, Int.pow_succ, show p + ((m + n : Nat) : Int) = p + (m : Int) + (n : Int) by omega, Int.mul_add, ← Int.mul_assoc]
    rw [show pkI I p m * (2 ^ n * 2) = 2 * pkI I p m * 2 ^ n by rw [← Int.mul_assoc, Int.mul_comm, ← Int.mul_assoc]]
    omega
theorem inC_bit (bt : Nat → Int) (sz q : Int) (k : Nat) (hk : k < 8) : b2i (inC bt sz (8 * q + (k : Int))) = byC bt sz q / 2 ^ (7 - k) % 2 := by
  have h := bitC_01 bt sz (8 * q + (k : Int))
  have e : bitC bt sz (8 * q + (k : Int)) = byC bt sz q / 2 ^ (7 - k) % 2 := by
    rw [bitC, show (8 * q + (k : Int)) / 8 = q by omega, show (7 - (8 * q + (k : Int)) % 8).toNat = 7 - k by omega]
    rfl
  rw [← e]
  by_cases h1 : bitC bt sz (8 * q + (k : Int)) = 0
  · rw [inC_f h1, h1]; rfl
  · rw [inC_t h1]
    show 1 = _
    omega
theorem pk_byte (bt : Nat → Int) (sz q : Int) : ∀ k : Nat, k ≤ 8 → pkI (inC bt sz) (8 * q) k = byC bt sz q / 2 ^ (8 - k)
  | 0, _ => by
    have := byC_rg bt sz q
    rw [pkI]
    show 0 = byC bt sz q / 256
    omega
  | k + 1, h => by
    have ih := pk_byte bt sz q k (by omega)
    have hb := inC_bit bt sz q k (by omega)
    rw [pkI, ih, hb]
    obtain ⟨j, hj⟩ : ∃ j, 7 - k = j := ⟨_, rfl⟩
    rw [show 8 - k = j + 1 by omega, show 8 - (k + 1) = j by omega, hj, Int.pow_succ, ← Int.ediv_ediv_of_nonneg (by have := pkI_rg (fun _ => false) 0 j; omega)]
    omega
theorem pk_three (bt : Nat → Int) (sz q : Int) : pkI (inC bt sz) (8 * q) 24 = byC bt sz q * 2 ^ 16 + byC bt sz (q + 1) * 2 ^ 8 + byC bt sz (q + 2) := by
  have a1 := pkI_add (inC bt sz) (8 * q) 8 16
  have a2 := pkI_add (inC bt sz) (8 * q + 8) 8 8
  have b0 := pk_byte bt sz q 8 (by omega)
  have b1 := pk_byte bt sz (q + 1) 8 (by omega)
  have b2 := pk_byte bt sz (q + 2) 8 (by omega)
  rw [show 8 * (q + 1) = 8 * q + 8 by omega] at b1
  rw [show 8 * (q + 2) = 8 * q + 8 + 8 by omega] at b2
  simp only [Nat.sub_self, Int.pow_zero, Int.ediv_one, Nat.reduceAdd, Int.cast_ofNat_Int] at a1 a2 b0 b1 b2
  rw [a1, a2, b0, b1, b2]
  omega
theorem pkC_eq {bt : Nat → Int} {sz ps n : Int} (h0 : 0 ≤ ps) (hn : 1 ≤ n ∧ n ≤ 16) : pkC bt sz ps n = pkI (inC bt sz) ps n.toNat := by
  rw [pkC, ← pk_three]
  obtain ⟨m, rfl⟩ : ∃ m : Nat, n = (m : Int) := ⟨n.toNat, by omega⟩
  obtain ⟨o, ho⟩ : ∃ o : Nat, ps % 8 = (o : Int) := ⟨(ps % 8).toNat, by omega⟩
  obtain ⟨w, hw⟩ : ∃ w : Nat, w = 24 - o - m := ⟨_, rfl⟩
  have e1 := pkI_add (inC bt sz) (8 * (ps / 8)) (o + m) w
  rw [show o + m + w = 24 by omega] at e1
  have r1 := pkI_rg (inC bt sz) (8 * (ps / 8) + ((o + m : Nat) : Int)) w
  have e2 := pkI_add (inC bt sz) (8 * (ps / 8)) o m
  have r2 := pkI_rg (inC bt sz) (8 * (ps / 8) + (o : Int)) m
  rw [show (24 - ps % 8 - (m : Int)).toNat = w by omega, e1, Int.toNat_natCast]
  rw [Int.add_comm, Int.add_mul_ediv_right _ _ (by omega), Int.ediv_eq_zero_of_lt r1.1 r1.2, Int.zero_add, e2]
  rw [Int.add_comm, Int.add_mul_emod_self_right, Int.emod_eq_of_lt r2.1 r2.2, show 8 * (ps / 8) + (o : Int) = ps by omega]
def slI (I : Int → Bool) (p : Int) (d : Bool) : Int := sbg d (pkI I p 12) 0
theorem sbg_rg (d : Bool) (t r : Int) (h : 0 ≤ r) : sbg d t r = -2 ∨ (0 ≤ sbg d t r ∧ sbg d t r < 74) := by
  rcases Int.lt_or_le r 74 with h1 | h1
  · by_cases h2 : tF d r.toNat ≤ t
    · rw [sbg_hit h1 h2]
      have := (tab_rg d r.toNat (by omega)).2.1
      omega
    · rw [sbg_next h1 h2]
      exact sbg_rg d t (r + 1) (by omega)
  · rw [sbg_end h1]; left; rfl
termination_by (74 - r).toNat
decreasing_by omega
def rdRun (I : Int → Bool) (T : Int) (d : Bool) : Nat → Int → Int → Bool → Int × Int
  | 0, p, _, _ => (-1, p)
  | n + 1, p, len, made =>
    if slI I p d < 0 ∨ T - p < lenC d (slI I p d) then (if T - p < 12 then -1 else if made then -3 else -2, p)
    else if slI I p d < 64 then (len + runN (slI I p d), p + lenC d (slI I p d))
    else rdRun I T d n (p + lenC d (slI I p d)) (len + runN (slI I p d)) true
theorem runN_rg {s : Int} (h : 0 ≤ s ∧ s < 74) : 0 ≤ runN s ∧ runN s ≤ 640 ∧ (s < 64 → runN s < 64) := by
  unfold runN; split <;> omega
theorem lenC_2 {d : Bool} {s : Int} (h : 0 ≤ s ∧ s < 74) : 2 ≤ lenC d s ∧ lenC d s ≤ 12 := by
  unfold lenC; rw [if_pos h]; exact (tab_rg d s.toNat (by omega)).2.2.1
theorem rdRun_rg (I : Int → Bool) (T : Int) (d : Bool) : ∀ (n : Nat) (p len : Int) (made : Bool), p ≤ T → 0 ≤ len → (p ≤ (rdRun I T d n p len made).2 ∧ (rdRun I T d n p len made).2 ≤ T) ∧ ((rdRun I T d n p len made).1 = -1 ∨ (rdRun I T d n p len made).1 = -2 ∨ (rdRun I T d n p len made).1 = -3 ∨ (0 ≤ (rdRun I T d n p len made).1 ∧ (rdRun I T d n p len made).1 ≤ len + 640 * ((rdRun I T d n p len made).2 - p) ∧ p + 2 ≤ (rdRun I T d n p len made).2))
  | 0, p, len, made, h, hl => by rw [rdRun]; exact ⟨⟨Int.le_refl _, h⟩, Or.inl rfl⟩
  | n + 1, p, len, made, h, hl => by
    have hs := sbg_rg d (pkI I p 12) 0 (by omega)
    rw [← slI] at hs
    rw [rdRun]
    split
    · simp only
      refine ⟨by omega, ?_⟩
      split
      · left; rfl
      · split
        · right; right; left; rfl
        · right; left; rfl
    · rename_i hc
      have h2 := lenC_2 (d := d) (s := slI I p d) (by omega)
      have h3 := runN_rg (s := slI I p d) (by omega)
      split
      · simp only; omega
      · have ih := rdRun_rg I T d n (p + lenC d (slI I p d)) (len + runN (slI I p d)) true (by omega) (by omega)
        omega
theorem kn_X3_readRun : zKn yX3_readRun wsX3_readRun cX3_readRun 8 (some .int) 1 := ⟨⟨_, rfl⟩, by decide +kernel, by decide +kernel, by decide +kernel⟩
set_option maxHeartbeats 2000000 in
set_option maxRecDepth 100000 in
theorem c_X3_readRun (l : Launch) (D : va_G) (cy : Nat → ClassId) (tw : Nat → Nat) (a : Nat → Nat) (kd : Int) (co : Int) (mk : Bool) (al : Bool) (dz : Bool) (rd : Bool) (rw : Int) (wo : Nat → BitVec 64) (sa : Nat → Int) (sz : Int) (ps : Int) (bt : Nat → Int) (ou : Nat → BitVec 64) (bi : Int) (dm : Int) (pl : Bool) (re : Int) (cu : Bool) (d : Bool)  (h0 : 0 ≤ sz ∧ sz ≤ 400) (h1 : 0 ≤ ps ∧ ps ≤ 8 * sz) : zMet l yX3_readRun wsX3_readRun { frames := 2, cells := 0, slots := 0, locals := 44 } D (zT cy) tw (CW cy a kd co mk al dz rd rw wo sa sz ps bt ou bi dm pl re cu) [.ref (a 8), vI (b2i d)] 0 0 (S := Unit) (fun _ => some (vI ((rdRun (inC bt sz) (8 * sz) d 3201 ps 0 false).1))) (fun _ => CW cy a kd co mk al dz rd rw wo sa sz ((rdRun (inC bt sz) (8 * sz) d 3201 ps 0 false).2) bt ou bi dm pl re cu) (fun _ => True) := by
  refine z_met (cc := cX3_readRun) (nL := 8) (ret := some .int) (by decide +kernel) rfl (Nat.le_of_ble_eq_true rfl) (lv := [(0, .ref (a 8)), (1, vI (b2i d))]) rfl ?_
  intro V p_ e_ s_ m_ args_ below_ meth_ c_ A_ C hmn
  have hinX3 : ∀ w ∈ u_ws RX3 TX3 9, w ∈ wsX3_readRun := by decide +kernel
  have k0 : Cond.fieldLink RX3 19 "FaxFilter$Receiver" "whiteTable" "LFaxFilter$Table;" ∈ wsX3_readRun := List.mem_of_getElem? (i := 2) rfl
  have k1 : Cond.fieldLink RX3 26 "FaxFilter$Receiver" "in" "LFaxFilter$BitsIn;" ∈ wsX3_readRun := List.mem_of_getElem? (i := 3) rfl
  have k2 : Cond.fieldLink RX3 23 "FaxFilter$Receiver" "darkTable" "LFaxFilter$Table;" ∈ wsX3_readRun := List.mem_of_getElem? (i := 1) rfl
  refine z_iload_n C dX3_readRun_0 1 rfl ?_
  refine z_ifz C (tgt := 11) dX3_readRun_1 (by decide) (fun cd => ?_) (fun cd => ?_)
  · refine z_aload_n C dX3_readRun_11 0 rfl ?_
    refine z_get C hinX3 (ci := 5) rfl 8 rfl 3 (by decide) k0 rfl (v := .ref (a 3)) rfl dX3_readRun_12 ?_
    refine z_astore_n C (lv' := [(2, .ref (a 3)), (0, .ref (a 8)), (1, vI (b2i d))]) dX3_readRun_15 rfl (by decide) rfl ?_
    refine z_iconst C (z := 0) dX3_readRun_16 ?_
    refine z_istore_n C (lv' := [(3, vI 0), (2, .ref (a 3)), (0, .ref (a 8)), (1, vI (b2i d))]) dX3_readRun_17 rfl (by decide) rfl ?_
    refine z_iconst C (z := 0) dX3_readRun_18 ?_
    refine z_istore C (lv' := [(4, vI 0), (3, vI 0), (2, .ref (a 3)), (0, .ref (a 8)), (1, vI (b2i d))]) dX3_readRun_19 (by decide) rfl ?_
    refine z_iconst C (z := 0) dX3_readRun_21 ?_
    refine z_istore C (lv' := [(5, vI 0), (4, vI 0), (3, vI 0), (2, .ref (a 3)), (0, .ref (a 8)), (1, vI (b2i d))]) dX3_readRun_22 (by decide) rfl ?_
    have J24 : ∀ (f : Nat) (len : Int) (md : Bool) (k : Int) (p : Int), (0 ≤ k ∧ 2 * k ≤ p) → (0 ≤ p ∧ p ≤ 8 * sz) → (0 ≤ len ∧ len ≤ 640 * p) → (rdRun (inC bt sz) (8 * sz) d 3201 ps 0 false = rdRun (inC bt sz) (8 * sz) d (3201 - k).toNat p len md) → (3201 - k).toNat < f → V 0 0 (CW cy a kd co mk al dz rd rw wo sa sz p bt ou bi dm pl re cu) [(0, .ref (a 8)), (1, vI (b2i d)), (2, .ref (a 3)), (3, vI len), (4, vI (b2i md)), (5, vI k)] [] 24 := by
      intro f
      induction f with
      | zero => intro len md k p i0 i1 i3 i2 hf; exact absurd hf (Nat.not_lt_zero _)
      | succ f ih =>
        intro len md k p i0 i1 i3 i2 hf
        refine z_iload C dX3_readRun_24 5 rfl ?_
        refine z_sipush C (z := 3200) dX3_readRun_26 (by decide) ?_
        refine z_icmp_gt C (by omega) (by decide) (tgt := 134) dX3_readRun_29 (by decide) (fun hc_1 => ?_) (fun hc_1 => ?_)
        · refine z_iconst C (z := (-1)) dX3_readRun_134 ?_
          refine z_iret (x := (-1)) C dX3_readRun_135 () ?_ ?_ ?_ (by decide) (by decide)
          · rw [i2, show (3201 - k).toNat = 0 by omega, rdRun]
          · exact trivial
          · rw [i2, show (3201 - k).toNat = 0 by omega, rdRun]
        · refine z_aload_n C dX3_readRun_32 2 rfl ?_
          refine z_aload_n C dX3_readRun_33 0 rfl ?_
          refine z_get C hinX3 (ci := 5) rfl 8 rfl 5 (by decide) k1 rfl (v := .ref (a 5)) rfl dX3_readRun_34 ?_
          refine z_bipush C (z := 12) dX3_readRun_37 (by decide) ?_
          have hpk : pkC bt sz p 12 = pkI (inC bt sz) p 12 := pkC_eq i1.1 (by omega)
          have hpr := pkI_rg (inC bt sz) p 12
          refine z_callV C (As := [vI 12]) (st := [.ref (a 3)]) (c_X0_peek l D cy tw a kd co mk al dz rd rw wo sa sz p bt ou bi dm pl re cu 12  (by omega) (by omega) (by omega)) gX3_readRun_X0_peek kn_X0_peek rfl ⟨rfl, rfl, Nat.le_of_ble_eq_true rfl, Nat.le_of_ble_eq_true rfl⟩ 5 rfl (ci := 2) rfl rfl (Nat.le_of_ble_eq_true rfl) ⟨Nat.le_of_ble_eq_true rfl, Nat.le_of_ble_eq_true rfl⟩ dX3_readRun_39 (fun u2 hu2 => ?_)
          clear hu2; clear u2
          show V 0 0 (CW cy a kd co mk al dz rd rw wo sa sz p bt ou bi dm pl re cu) [(0, .ref (a 8)), (1, vI (b2i d)), (2, .ref (a 3)), (3, vI len), (4, vI (b2i md)), (5, vI k)] [vI (pkC bt sz p 12), .ref (a 3)] 42
          refine z_callV C (As := [vI (pkC bt sz p 12)]) (st := []) (c_X6_slotBeginningW l D cy tw a kd co mk al dz rd rw wo sa sz p bt ou bi dm pl re cu (pkC bt sz p 12)  (by omega)) gX3_readRun_X6_slotBeginning kn_X6_slotBeginning rfl ⟨rfl, rfl, Nat.le_of_ble_eq_true rfl, Nat.le_of_ble_eq_true rfl⟩ 3 rfl (ci := 8) rfl rfl (Nat.le_of_ble_eq_true rfl) ⟨Nat.le_of_ble_eq_true rfl, Nat.le_of_ble_eq_true rfl⟩ dX3_readRun_42 (fun u3 hu3 => ?_)
          clear hu3; clear u3
          show V 0 0 (CW cy a kd co mk al dz rd rw wo sa sz p bt ou bi dm pl re cu) [(0, .ref (a 8)), (1, vI (b2i d)), (2, .ref (a 3)), (3, vI len), (4, vI (b2i md)), (5, vI k)] [vI (sbg false (pkC bt sz p 12) 0)] 45
          refine z_nmI (fun sl esl => ?_)
          refine z_istore C (lv' := [(6, vI sl), (0, .ref (a 8)), (1, vI (b2i d)), (2, .ref (a 3)), (3, vI len), (4, vI (b2i md)), (5, vI k)]) dX3_readRun_45 (by decide) rfl ?_
          have hsl : sl = slI (inC bt sz) p d := by rw [esl, cd, slI, hpk]
          have hsr := sbg_rg d (pkI (inC bt sz) p 12) 0 (by omega)
          rw [← slI, ← hsl] at hsr
          refine z_aload_n C dX3_readRun_47 3 rfl ?_
          refine z_iload C dX3_readRun_48 0 rfl ?_
          refine z_callV C (As := [vI sl]) (st := []) (c_X6_bitsOfW l D cy tw a kd co mk al dz rd rw wo sa sz p bt ou bi dm pl re cu sl  (by omega)) gX3_readRun_X6_bitsOf kn_X6_bitsOf rfl ⟨rfl, rfl, Nat.le_of_ble_eq_true rfl, Nat.le_of_ble_eq_true rfl⟩ 3 rfl (ci := 8) rfl rfl (Nat.le_of_ble_eq_true rfl) ⟨Nat.le_of_ble_eq_true rfl, Nat.le_of_ble_eq_true rfl⟩ dX3_readRun_50 (fun u4 hu4 => ?_)
          clear hu4; clear u4
          show V 0 0 (CW cy a kd co mk al dz rd rw wo sa sz p bt ou bi dm pl re cu) [(6, vI sl), (0, .ref (a 8)), (1, vI (b2i d)), (2, .ref (a 3)), (3, vI len), (4, vI (b2i md)), (5, vI k)] [vI (lenC false sl)] 53
          refine z_nmI (fun bl ebl => ?_)
          refine z_istore C (lv' := [(7, vI bl), (6, vI sl), (0, .ref (a 8)), (1, vI (b2i d)), (2, .ref (a 3)), (3, vI len), (4, vI (b2i md)), (5, vI k)]) dX3_readRun_53 (by decide) rfl ?_
          have hbl : bl = lenC d sl := by rw [ebl, cd]
          have hlr := lenC_rg d sl
          rw [← hbl] at hlr
          refine z_iload C dX3_readRun_55 1 rfl ?_
          refine z_if_lt C (by omega) (tgt := 72) dX3_readRun_57 (by decide) (fun hc_5 => ?_) (fun hc_5 => ?_)
          · have i4 : rdRun (inC bt sz) (8 * sz) d 3201 ps 0 false = (if 8 * sz - p < 12 then -1 else if md then -3 else -2, p) := by
              rw [i2, show (3201 - k).toNat = (3201 - (k + 1)).toNat + 1 by omega, rdRun, ← hsl, ← hbl, if_pos (by omega)]
            refine z_aload_n C dX3_readRun_72 2 rfl ?_
            refine z_get C hinX3 (ci := 5) rfl 8 rfl 5 (by decide) k1 rfl (v := .ref (a 5)) rfl dX3_readRun_73 ?_
            refine z_callV C (As := []) (st := []) (c_X0_left l D cy tw a kd co mk al dz rd rw wo sa sz p bt ou bi dm pl re cu   ) gX3_readRun_X0_left kn_X0_left rfl ⟨rfl, rfl, Nat.le_of_ble_eq_true rfl, Nat.le_of_ble_eq_true rfl⟩ 5 rfl (ci := 2) rfl rfl (Nat.le_of_ble_eq_true rfl) ⟨Nat.le_of_ble_eq_true rfl, Nat.le_of_ble_eq_true rfl⟩ dX3_readRun_76 (fun u6 hu6 => ?_)
            clear hu6; clear u6
            show V 0 0 (CW cy a kd co mk al dz rd rw wo sa sz p bt ou bi dm pl re cu) [(7, vI bl), (6, vI sl), (0, .ref (a 8)), (1, vI (b2i d)), (2, .ref (a 3)), (3, vI len), (4, vI (b2i md)), (5, vI k)] [vI (8 * sz - p)] 79
            refine z_bipush C (z := 12) dX3_readRun_79 (by decide) ?_
            refine z_icmp_ge C (by omega) (by decide) (tgt := 86) dX3_readRun_81 (by decide) (fun hc_7 => ?_) (fun hc_7 => ?_)
            · refine z_iload C dX3_readRun_86 6 rfl ?_
              refine z_ifz C (tgt := 96) dX3_readRun_88 (by decide) (fun cm => ?_) (fun cm => ?_)
              · refine z_bipush C (z := (-2)) dX3_readRun_96 (by decide) ?_
                refine z_iret (x := (-2)) C dX3_readRun_98 () ?_ ?_ ?_ (by decide) (by decide)
                · rw [i4, if_neg (by omega), cm]; rfl
                · exact trivial
                · rw [i4]
              · refine z_bipush C (z := (-3)) dX3_readRun_91 (by decide) ?_
                refine z_goto C (tgt := 98) dX3_readRun_93 (by decide) ?_
                refine z_iret (x := (-3)) C dX3_readRun_98 () ?_ ?_ ?_ (by decide) (by decide)
                · rw [i4, if_neg (by omega), cm]; rfl
                · exact trivial
                · rw [i4]
            · refine z_iconst C (z := (-1)) dX3_readRun_84 ?_
              refine z_iret (x := (-1)) C dX3_readRun_85 () ?_ ?_ ?_ (by decide) (by decide)
              · rw [i4, if_pos (by omega)]
              · exact trivial
              · rw [i4]
          · refine z_iload C dX3_readRun_60 0 rfl ?_
            refine z_aload_n C dX3_readRun_62 2 rfl ?_
            refine z_get C hinX3 (ci := 5) rfl 8 rfl 5 (by decide) k1 rfl (v := .ref (a 5)) rfl dX3_readRun_63 ?_
            refine z_callV C (As := []) (st := [vI bl]) (c_X0_left l D cy tw a kd co mk al dz rd rw wo sa sz p bt ou bi dm pl re cu   ) gX3_readRun_X0_left kn_X0_left rfl ⟨rfl, rfl, Nat.le_of_ble_eq_true rfl, Nat.le_of_ble_eq_true rfl⟩ 5 rfl (ci := 2) rfl rfl (Nat.le_of_ble_eq_true rfl) ⟨Nat.le_of_ble_eq_true rfl, Nat.le_of_ble_eq_true rfl⟩ dX3_readRun_66 (fun u8 hu8 => ?_)
            clear hu8; clear u8
            show V 0 0 (CW cy a kd co mk al dz rd rw wo sa sz p bt ou bi dm pl re cu) [(7, vI bl), (6, vI sl), (0, .ref (a 8)), (1, vI (b2i d)), (2, .ref (a 3)), (3, vI len), (4, vI (b2i md)), (5, vI k)] [vI (8 * sz - p), vI bl] 69
            refine z_icmp_le C (by omega) (by omega) (tgt := 99) dX3_readRun_69 (by decide) (fun hc_9 => ?_) (fun hc_9 => ?_)
            · have i4 : rdRun (inC bt sz) (8 * sz) d 3201 ps 0 false = if sl < 64 then (len + runN sl, p + bl) else rdRun (inC bt sz) (8 * sz) d (3201 - (k + 1)).toNat (p + bl) (len + runN sl) true := by
                rw [i2, show (3201 - k).toNat = (3201 - (k + 1)).toNat + 1 by omega, rdRun, ← hsl, ← hbl, if_neg (by omega)]
              have hl2 := lenC_2 (d := d) (s := sl) (by omega)
              rw [← hbl] at hl2
              have hrn := runN_rg (s := sl) (by omega)
              refine z_aload_n C dX3_readRun_99 2 rfl ?_
              refine z_get C hinX3 (ci := 5) rfl 8 rfl 5 (by decide) k1 rfl (v := .ref (a 5)) rfl dX3_readRun_100 ?_
              refine z_iload C dX3_readRun_103 0 rfl ?_
              refine z_callV C (As := [vI bl]) (st := []) (c_X0_passE l D cy tw a kd co mk al dz rd rw wo sa sz p bt ou bi dm pl re cu bl  (by omega) (by omega) (by omega)) gX3_readRun_X0_pass kn_X0_pass rfl ⟨rfl, rfl, Nat.le_of_ble_eq_true rfl, Nat.le_of_ble_eq_true rfl⟩ 5 rfl (ci := 2) rfl rfl (Nat.le_of_ble_eq_true rfl) ⟨Nat.le_of_ble_eq_true rfl, Nat.le_of_ble_eq_true rfl⟩ dX3_readRun_105 (fun u10 hu10 => ?_)
              clear hu10; clear u10
              show V 0 0 (CW cy a kd co mk al dz rd rw wo sa sz (p + bl) bt ou bi dm pl re cu) [(7, vI bl), (6, vI sl), (0, .ref (a 8)), (1, vI (b2i d)), (2, .ref (a 3)), (3, vI len), (4, vI (b2i md)), (5, vI k)] [] 108
              refine z_iload_n C dX3_readRun_108 5 rfl ?_
              refine z_iload C dX3_readRun_109 1 rfl ?_
              refine z_callS C (As := [vI sl]) (st := [vI len]) (c_X6_runOf l D cy tw a kd co mk al dz rd rw wo sa sz (p + bl) bt ou bi dm pl re cu sl  (by omega)) gX3_readRun_X6_runOf kn_X6_runOf ⟨rfl, rfl, Nat.le_of_ble_eq_true rfl, Nat.le_of_ble_eq_true rfl⟩ rfl (Nat.le_of_ble_eq_true rfl) ⟨Nat.le_of_ble_eq_true rfl, Nat.le_of_ble_eq_true rfl⟩ dX3_readRun_111 (fun u11 hu11 => ?_)
              clear hu11; clear u11
              show V 0 0 (CW cy a kd co mk al dz rd rw wo sa sz (p + bl) bt ou bi dm pl re cu) [(7, vI bl), (6, vI sl), (0, .ref (a 8)), (1, vI (b2i d)), (2, .ref (a 3)), (3, vI len), (4, vI (b2i md)), (5, vI k)] [vI (runN sl), vI len] 114
              refine z_iadd C dX3_readRun_114 ?_
              refine z_istore_n C (lv' := [(3, vI (len + (runN sl))), (7, vI bl), (6, vI sl), (0, .ref (a 8)), (1, vI (b2i d)), (2, .ref (a 3)), (4, vI (b2i md)), (5, vI k)]) dX3_readRun_115 rfl (by decide) rfl ?_
              refine z_iload C dX3_readRun_116 2 rfl ?_
              refine z_bipush C (z := 64) dX3_readRun_118 (by decide) ?_
              refine z_icmp_ge C (by omega) (by decide) (tgt := 125) dX3_readRun_120 (by decide) (fun hc_12 => ?_) (fun hc_12 => ?_)
              · refine z_iconst C (z := 1) dX3_readRun_125 ?_
                refine z_istore C (lv' := [(4, vI 1), (3, vI (len + (runN sl))), (7, vI bl), (6, vI sl), (0, .ref (a 8)), (1, vI (b2i d)), (2, .ref (a 3)), (5, vI k)]) dX3_readRun_126 (by decide) rfl ?_
                refine z_iinc C (lv' := [(5, vI (k + 1)), (4, vI 1), (3, vI (len + (runN sl))), (7, vI bl), (6, vI sl), (0, .ref (a 8)), (1, vI (b2i d)), (2, .ref (a 3))]) dX3_readRun_128 7 rfl (by decide) rfl ?_
                refine z_goto C (tgt := 24) dX3_readRun_131 (by decide) ?_
                refine z_lsub C [5, 6, 7, 2, 1, 0] rfl ?_
                exact ih (len + (runN sl)) true (k + 1) (p + bl) (by omega) (by omega) (by omega) (by rw [i4, if_neg (by omega)]) (by omega)
              · refine z_iload_n C dX3_readRun_123 0 rfl ?_
                refine z_iret (x := (len + (runN sl))) C dX3_readRun_124 () ?_ ?_ ?_ (by decide) (by decide)
                · rw [i4, if_pos (by omega)]
                · exact trivial
                · rw [i4, if_pos (by omega)]
            · have i4 : rdRun (inC bt sz) (8 * sz) d 3201 ps 0 false = (if 8 * sz - p < 12 then -1 else if md then -3 else -2, p) := by
                rw [i2, show (3201 - k).toNat = (3201 - (k + 1)).toNat + 1 by omega, rdRun, ← hsl, ← hbl, if_pos (by omega)]
              refine z_aload_n C dX3_readRun_72 2 rfl ?_
              refine z_get C hinX3 (ci := 5) rfl 8 rfl 5 (by decide) k1 rfl (v := .ref (a 5)) rfl dX3_readRun_73 ?_
              refine z_callV C (As := []) (st := []) (c_X0_left l D cy tw a kd co mk al dz rd rw wo sa sz p bt ou bi dm pl re cu   ) gX3_readRun_X0_left kn_X0_left rfl ⟨rfl, rfl, Nat.le_of_ble_eq_true rfl, Nat.le_of_ble_eq_true rfl⟩ 5 rfl (ci := 2) rfl rfl (Nat.le_of_ble_eq_true rfl) ⟨Nat.le_of_ble_eq_true rfl, Nat.le_of_ble_eq_true rfl⟩ dX3_readRun_76 (fun u13 hu13 => ?_)
              clear hu13; clear u13
              show V 0 0 (CW cy a kd co mk al dz rd rw wo sa sz p bt ou bi dm pl re cu) [(7, vI bl), (6, vI sl), (0, .ref (a 8)), (1, vI (b2i d)), (2, .ref (a 3)), (3, vI len), (4, vI (b2i md)), (5, vI k)] [vI (8 * sz - p)] 79
              refine z_bipush C (z := 12) dX3_readRun_79 (by decide) ?_
              refine z_icmp_ge C (by omega) (by decide) (tgt := 86) dX3_readRun_81 (by decide) (fun hc_14 => ?_) (fun hc_14 => ?_)
              · refine z_iload C dX3_readRun_86 6 rfl ?_
                refine z_ifz C (tgt := 96) dX3_readRun_88 (by decide) (fun cm => ?_) (fun cm => ?_)
                · refine z_bipush C (z := (-2)) dX3_readRun_96 (by decide) ?_
                  refine z_iret (x := (-2)) C dX3_readRun_98 () ?_ ?_ ?_ (by decide) (by decide)
                  · rw [i4, if_neg (by omega), cm]; rfl
                  · exact trivial
                  · rw [i4]
                · refine z_bipush C (z := (-3)) dX3_readRun_91 (by decide) ?_
                  refine z_goto C (tgt := 98) dX3_readRun_93 (by decide) ?_
                  refine z_iret (x := (-3)) C dX3_readRun_98 () ?_ ?_ ?_ (by decide) (by decide)
                  · rw [i4, if_neg (by omega), cm]; rfl
                  · exact trivial
                  · rw [i4]
              · refine z_iconst C (z := (-1)) dX3_readRun_84 ?_
                refine z_iret (x := (-1)) C dX3_readRun_85 () ?_ ?_ ?_ (by decide) (by decide)
                · rw [i4, if_pos (by omega)]
                · exact trivial
                · rw [i4]
    refine z_lsub C [4, 5, 3, 2, 1, 0] rfl ?_
    exact J24 _ 0 false 0 ps (by omega) (by omega) (by omega) (rfl) (Nat.lt_succ_self _)
  · refine z_aload_n C dX3_readRun_4 0 rfl ?_
    refine z_get C hinX3 (ci := 5) rfl 8 rfl 4 (by decide) k2 rfl (v := .ref (a 4)) rfl dX3_readRun_5 ?_
    refine z_goto C (tgt := 15) dX3_readRun_8 (by decide) ?_
    refine z_astore_n C (lv' := [(2, .ref (a 4)), (0, .ref (a 8)), (1, vI (b2i d))]) dX3_readRun_15 rfl (by decide) rfl ?_
    refine z_iconst C (z := 0) dX3_readRun_16 ?_
    refine z_istore_n C (lv' := [(3, vI 0), (2, .ref (a 4)), (0, .ref (a 8)), (1, vI (b2i d))]) dX3_readRun_17 rfl (by decide) rfl ?_
    refine z_iconst C (z := 0) dX3_readRun_18 ?_
    refine z_istore C (lv' := [(4, vI 0), (3, vI 0), (2, .ref (a 4)), (0, .ref (a 8)), (1, vI (b2i d))]) dX3_readRun_19 (by decide) rfl ?_
    refine z_iconst C (z := 0) dX3_readRun_21 ?_
    refine z_istore C (lv' := [(5, vI 0), (4, vI 0), (3, vI 0), (2, .ref (a 4)), (0, .ref (a 8)), (1, vI (b2i d))]) dX3_readRun_22 (by decide) rfl ?_
    have J24 : ∀ (f : Nat) (len : Int) (md : Bool) (k : Int) (p : Int), (0 ≤ k ∧ 2 * k ≤ p) → (0 ≤ p ∧ p ≤ 8 * sz) → (0 ≤ len ∧ len ≤ 640 * p) → (rdRun (inC bt sz) (8 * sz) d 3201 ps 0 false = rdRun (inC bt sz) (8 * sz) d (3201 - k).toNat p len md) → (3201 - k).toNat < f → V 0 0 (CW cy a kd co mk al dz rd rw wo sa sz p bt ou bi dm pl re cu) [(0, .ref (a 8)), (1, vI (b2i d)), (2, .ref (a 4)), (3, vI len), (4, vI (b2i md)), (5, vI k)] [] 24 := by
      intro f
      induction f with
      | zero => intro len md k p i0 i1 i3 i2 hf; exact absurd hf (Nat.not_lt_zero _)
      | succ f ih =>
        intro len md k p i0 i1 i3 i2 hf
        refine z_iload C dX3_readRun_24 5 rfl ?_
        refine z_sipush C (z := 3200) dX3_readRun_26 (by decide) ?_
        refine z_icmp_gt C (by omega) (by decide) (tgt := 134) dX3_readRun_29 (by decide) (fun hc_15 => ?_) (fun hc_15 => ?_)
        · refine z_iconst C (z := (-1)) dX3_readRun_134 ?_
          refine z_iret (x := (-1)) C dX3_readRun_135 () ?_ ?_ ?_ (by decide) (by decide)
          · rw [i2, show (3201 - k).toNat = 0 by omega, rdRun]
          · exact trivial
          · rw [i2, show (3201 - k).toNat = 0 by omega, rdRun]
        · refine z_aload_n C dX3_readRun_32 2 rfl ?_
          refine z_aload_n C dX3_readRun_33 0 rfl ?_
          refine z_get C hinX3 (ci := 5) rfl 8 rfl 5 (by decide) k1 rfl (v := .ref (a 5)) rfl dX3_readRun_34 ?_
          refine z_bipush C (z := 12) dX3_readRun_37 (by decide) ?_
          have hpk : pkC bt sz p 12 = pkI (inC bt sz) p 12 := pkC_eq i1.1 (by omega)
          have hpr := pkI_rg (inC bt sz) p 12
          refine z_callV C (As := [vI 12]) (st := [.ref (a 4)]) (c_X0_peek l D cy tw a kd co mk al dz rd rw wo sa sz p bt ou bi dm pl re cu 12  (by omega) (by omega) (by omega)) gX3_readRun_X0_peek kn_X0_peek rfl ⟨rfl, rfl, Nat.le_of_ble_eq_true rfl, Nat.le_of_ble_eq_true rfl⟩ 5 rfl (ci := 2) rfl rfl (Nat.le_of_ble_eq_true rfl) ⟨Nat.le_of_ble_eq_true rfl, Nat.le_of_ble_eq_true rfl⟩ dX3_readRun_39 (fun u16 hu16 => ?_)
          clear hu16; clear u16
          show V 0 0 (CW cy a kd co mk al dz rd rw wo sa sz p bt ou bi dm pl re cu) [(0, .ref (a 8)), (1, vI (b2i d)), (2, .ref (a 4)), (3, vI len), (4, vI (b2i md)), (5, vI k)] [vI (pkC bt sz p 12), .ref (a 4)] 42
          refine z_callV C (As := [vI (pkC bt sz p 12)]) (st := []) (c_X6_slotBeginningD l D cy tw a kd co mk al dz rd rw wo sa sz p bt ou bi dm pl re cu (pkC bt sz p 12)  (by omega)) gX3_readRun_X6_slotBeginning kn_X6_slotBeginning rfl ⟨rfl, rfl, Nat.le_of_ble_eq_true rfl, Nat.le_of_ble_eq_true rfl⟩ 4 rfl (ci := 8) rfl rfl (Nat.le_of_ble_eq_true rfl) ⟨Nat.le_of_ble_eq_true rfl, Nat.le_of_ble_eq_true rfl⟩ dX3_readRun_42 (fun u17 hu17 => ?_)
          clear hu17; clear u17
          show V 0 0 (CW cy a kd co mk al dz rd rw wo sa sz p bt ou bi dm pl re cu) [(0, .ref (a 8)), (1, vI (b2i d)), (2, .ref (a 4)), (3, vI len), (4, vI (b2i md)), (5, vI k)] [vI (sbg true (pkC bt sz p 12) 0)] 45
          refine z_nmI (fun sl esl => ?_)
          refine z_istore C (lv' := [(6, vI sl), (0, .ref (a 8)), (1, vI (b2i d)), (2, .ref (a 4)), (3, vI len), (4, vI (b2i md)), (5, vI k)]) dX3_readRun_45 (by decide) rfl ?_
          have hsl : sl = slI (inC bt sz) p d := by rw [esl, cd, slI, hpk]
          have hsr := sbg_rg d (pkI (inC bt sz) p 12) 0 (by omega)
          rw [← slI, ← hsl] at hsr
          refine z_aload_n C dX3_readRun_47 3 rfl ?_
          refine z_iload C dX3_readRun_48 0 rfl ?_
          refine z_callV C (As := [vI sl]) (st := []) (c_X6_bitsOfD l D cy tw a kd co mk al dz rd rw wo sa sz p bt ou bi dm pl re cu sl  (by omega)) gX3_readRun_X6_bitsOf kn_X6_bitsOf rfl ⟨rfl, rfl, Nat.le_of_ble_eq_true rfl, Nat.le_of_ble_eq_true rfl⟩ 4 rfl (ci := 8) rfl rfl (Nat.le_of_ble_eq_true rfl) ⟨Nat.le_of_ble_eq_true rfl, Nat.le_of_ble_eq_true rfl⟩ dX3_readRun_50 (fun u18 hu18 => ?_)
          clear hu18; clear u18
          show V 0 0 (CW cy a kd co mk al dz rd rw wo sa sz p bt ou bi dm pl re cu) [(6, vI sl), (0, .ref (a 8)), (1, vI (b2i d)), (2, .ref (a 4)), (3, vI len), (4, vI (b2i md)), (5, vI k)] [vI (lenC true sl)] 53
          refine z_nmI (fun bl ebl => ?_)
          refine z_istore C (lv' := [(7, vI bl), (6, vI sl), (0, .ref (a 8)), (1, vI (b2i d)), (2, .ref (a 4)), (3, vI len), (4, vI (b2i md)), (5, vI k)]) dX3_readRun_53 (by decide) rfl ?_
          have hbl : bl = lenC d sl := by rw [ebl, cd]
          have hlr := lenC_rg d sl
          rw [← hbl] at hlr
          refine z_iload C dX3_readRun_55 1 rfl ?_
          refine z_if_lt C (by omega) (tgt := 72) dX3_readRun_57 (by decide) (fun hc_19 => ?_) (fun hc_19 => ?_)
          · have i4 : rdRun (inC bt sz) (8 * sz) d 3201 ps 0 false = (if 8 * sz - p < 12 then -1 else if md then -3 else -2, p) := by
              rw [i2, show (3201 - k).toNat = (3201 - (k + 1)).toNat + 1 by omega, rdRun, ← hsl, ← hbl, if_pos (by omega)]
            refine z_aload_n C dX3_readRun_72 2 rfl ?_
            refine z_get C hinX3 (ci := 5) rfl 8 rfl 5 (by decide) k1 rfl (v := .ref (a 5)) rfl dX3_readRun_73 ?_
            refine z_callV C (As := []) (st := []) (c_X0_left l D cy tw a kd co mk al dz rd rw wo sa sz p bt ou bi dm pl re cu   ) gX3_readRun_X0_left kn_X0_left rfl ⟨rfl, rfl, Nat.le_of_ble_eq_true rfl, Nat.le_of_ble_eq_true rfl⟩ 5 rfl (ci := 2) rfl rfl (Nat.le_of_ble_eq_true rfl) ⟨Nat.le_of_ble_eq_true rfl, Nat.le_of_ble_eq_true rfl⟩ dX3_readRun_76 (fun u20 hu20 => ?_)
            clear hu20; clear u20
            show V 0 0 (CW cy a kd co mk al dz rd rw wo sa sz p bt ou bi dm pl re cu) [(7, vI bl), (6, vI sl), (0, .ref (a 8)), (1, vI (b2i d)), (2, .ref (a 4)), (3, vI len), (4, vI (b2i md)), (5, vI k)] [vI (8 * sz - p)] 79
            refine z_bipush C (z := 12) dX3_readRun_79 (by decide) ?_
            refine z_icmp_ge C (by omega) (by decide) (tgt := 86) dX3_readRun_81 (by decide) (fun hc_21 => ?_) (fun hc_21 => ?_)
            · refine z_iload C dX3_readRun_86 6 rfl ?_
              refine z_ifz C (tgt := 96) dX3_readRun_88 (by decide) (fun cm => ?_) (fun cm => ?_)
              · refine z_bipush C (z := (-2)) dX3_readRun_96 (by decide) ?_
                refine z_iret (x := (-2)) C dX3_readRun_98 () ?_ ?_ ?_ (by decide) (by decide)
                · rw [i4, if_neg (by omega), cm]; rfl
                · exact trivial
                · rw [i4]
              · refine z_bipush C (z := (-3)) dX3_readRun_91 (by decide) ?_
                refine z_goto C (tgt := 98) dX3_readRun_93 (by decide) ?_
                refine z_iret (x := (-3)) C dX3_readRun_98 () ?_ ?_ ?_ (by decide) (by decide)
                · rw [i4, if_neg (by omega), cm]; rfl
                · exact trivial
                · rw [i4]
            · refine z_iconst C (z := (-1)) dX3_readRun_84 ?_
              refine z_iret (x := (-1)) C dX3_readRun_85 () ?_ ?_ ?_ (by decide) (by decide)
              · rw [i4, if_pos (by omega)]
              · exact trivial
              · rw [i4]
          · refine z_iload C dX3_readRun_60 0 rfl ?_
            refine z_aload_n C dX3_readRun_62 2 rfl ?_
            refine z_get C hinX3 (ci := 5) rfl 8 rfl 5 (by decide) k1 rfl (v := .ref (a 5)) rfl dX3_readRun_63 ?_
            refine z_callV C (As := []) (st := [vI bl]) (c_X0_left l D cy tw a kd co mk al dz rd rw wo sa sz p bt ou bi dm pl re cu   ) gX3_readRun_X0_left kn_X0_left rfl ⟨rfl, rfl, Nat.le_of_ble_eq_true rfl, Nat.le_of_ble_eq_true rfl⟩ 5 rfl (ci := 2) rfl rfl (Nat.le_of_ble_eq_true rfl) ⟨Nat.le_of_ble_eq_true rfl, Nat.le_of_ble_eq_true rfl⟩ dX3_readRun_66 (fun u22 hu22 => ?_)
            clear hu22; clear u22
            show V 0 0 (CW cy a kd co mk al dz rd rw wo sa sz p bt ou bi dm pl re cu) [(7, vI bl), (6, vI sl), (0, .ref (a 8)), (1, vI (b2i d)), (2, .ref (a 4)), (3, vI len), (4, vI (b2i md)), (5, vI k)] [vI (8 * sz - p), vI bl] 69
            refine z_icmp_le C (by omega) (by omega) (tgt := 99) dX3_readRun_69 (by decide) (fun hc_23 => ?_) (fun hc_23 => ?_)
            · have i4 : rdRun (inC bt sz) (8 * sz) d 3201 ps 0 false = if sl < 64 then (len + runN sl, p + bl) else rdRun (inC bt sz) (8 * sz) d (3201 - (k + 1)).toNat (p + bl) (len + runN sl) true := by
                rw [i2, show (3201 - k).toNat = (3201 - (k + 1)).toNat + 1 by omega, rdRun, ← hsl, ← hbl, if_neg (by omega)]
              have hl2 := lenC_2 (d := d) (s := sl) (by omega)
              rw [← hbl] at hl2
              have hrn := runN_rg (s := sl) (by omega)
              refine z_aload_n C dX3_readRun_99 2 rfl ?_
              refine z_get C hinX3 (ci := 5) rfl 8 rfl 5 (by decide) k1 rfl (v := .ref (a 5)) rfl dX3_readRun_100 ?_
              refine z_iload C dX3_readRun_103 0 rfl ?_
              refine z_callV C (As := [vI bl]) (st := []) (c_X0_passE l D cy tw a kd co mk al dz rd rw wo sa sz p bt ou bi dm pl re cu bl  (by omega) (by omega) (by omega)) gX3_readRun_X0_pass kn_X0_pass rfl ⟨rfl, rfl, Nat.le_of_ble_eq_true rfl, Nat.le_of_ble_eq_true rfl⟩ 5 rfl (ci := 2) rfl rfl (Nat.le_of_ble_eq_true rfl) ⟨Nat.le_of_ble_eq_true rfl, Nat.le_of_ble_eq_true rfl⟩ dX3_readRun_105 (fun u24 hu24 => ?_)
              clear hu24; clear u24
              show V 0 0 (CW cy a kd co mk al dz rd rw wo sa sz (p + bl) bt ou bi dm pl re cu) [(7, vI bl), (6, vI sl), (0, .ref (a 8)), (1, vI (b2i d)), (2, .ref (a 4)), (3, vI len), (4, vI (b2i md)), (5, vI k)] [] 108
              refine z_iload_n C dX3_readRun_108 5 rfl ?_
              refine z_iload C dX3_readRun_109 1 rfl ?_
              refine z_callS C (As := [vI sl]) (st := [vI len]) (c_X6_runOf l D cy tw a kd co mk al dz rd rw wo sa sz (p + bl) bt ou bi dm pl re cu sl  (by omega)) gX3_readRun_X6_runOf kn_X6_runOf ⟨rfl, rfl, Nat.le_of_ble_eq_true rfl, Nat.le_of_ble_eq_true rfl⟩ rfl (Nat.le_of_ble_eq_true rfl) ⟨Nat.le_of_ble_eq_true rfl, Nat.le_of_ble_eq_true rfl⟩ dX3_readRun_111 (fun u25 hu25 => ?_)
              clear hu25; clear u25
              show V 0 0 (CW cy a kd co mk al dz rd rw wo sa sz (p + bl) bt ou bi dm pl re cu) [(7, vI bl), (6, vI sl), (0, .ref (a 8)), (1, vI (b2i d)), (2, .ref (a 4)), (3, vI len), (4, vI (b2i md)), (5, vI k)] [vI (runN sl), vI len] 114
              refine z_iadd C dX3_readRun_114 ?_
              refine z_istore_n C (lv' := [(3, vI (len + (runN sl))), (7, vI bl), (6, vI sl), (0, .ref (a 8)), (1, vI (b2i d)), (2, .ref (a 4)), (4, vI (b2i md)), (5, vI k)]) dX3_readRun_115 rfl (by decide) rfl ?_
              refine z_iload C dX3_readRun_116 2 rfl ?_
              refine z_bipush C (z := 64) dX3_readRun_118 (by decide) ?_
              refine z_icmp_ge C (by omega) (by decide) (tgt := 125) dX3_readRun_120 (by decide) (fun hc_26 => ?_) (fun hc_26 => ?_)
              · refine z_iconst C (z := 1) dX3_readRun_125 ?_
                refine z_istore C (lv' := [(4, vI 1), (3, vI (len + (runN sl))), (7, vI bl), (6, vI sl), (0, .ref (a 8)), (1, vI (b2i d)), (2, .ref (a 4)), (5, vI k)]) dX3_readRun_126 (by decide) rfl ?_
                refine z_iinc C (lv' := [(5, vI (k + 1)), (4, vI 1), (3, vI (len + (runN sl))), (7, vI bl), (6, vI sl), (0, .ref (a 8)), (1, vI (b2i d)), (2, .ref (a 4))]) dX3_readRun_128 7 rfl (by decide) rfl ?_
                refine z_goto C (tgt := 24) dX3_readRun_131 (by decide) ?_
                refine z_lsub C [5, 6, 7, 2, 1, 0] rfl ?_
                exact ih (len + (runN sl)) true (k + 1) (p + bl) (by omega) (by omega) (by omega) (by rw [i4, if_neg (by omega)]) (by omega)
              · refine z_iload_n C dX3_readRun_123 0 rfl ?_
                refine z_iret (x := (len + (runN sl))) C dX3_readRun_124 () ?_ ?_ ?_ (by decide) (by decide)
                · rw [i4, if_pos (by omega)]
                · exact trivial
                · rw [i4, if_pos (by omega)]
            · have i4 : rdRun (inC bt sz) (8 * sz) d 3201 ps 0 false = (if 8 * sz - p < 12 then -1 else if md then -3 else -2, p) := by
                rw [i2, show (3201 - k).toNat = (3201 - (k + 1)).toNat + 1 by omega, rdRun, ← hsl, ← hbl, if_pos (by omega)]
              refine z_aload_n C dX3_readRun_72 2 rfl ?_
              refine z_get C hinX3 (ci := 5) rfl 8 rfl 5 (by decide) k1 rfl (v := .ref (a 5)) rfl dX3_readRun_73 ?_
              refine z_callV C (As := []) (st := []) (c_X0_left l D cy tw a kd co mk al dz rd rw wo sa sz p bt ou bi dm pl re cu   ) gX3_readRun_X0_left kn_X0_left rfl ⟨rfl, rfl, Nat.le_of_ble_eq_true rfl, Nat.le_of_ble_eq_true rfl⟩ 5 rfl (ci := 2) rfl rfl (Nat.le_of_ble_eq_true rfl) ⟨Nat.le_of_ble_eq_true rfl, Nat.le_of_ble_eq_true rfl⟩ dX3_readRun_76 (fun u27 hu27 => ?_)
              clear hu27; clear u27
              show V 0 0 (CW cy a kd co mk al dz rd rw wo sa sz p bt ou bi dm pl re cu) [(7, vI bl), (6, vI sl), (0, .ref (a 8)), (1, vI (b2i d)), (2, .ref (a 4)), (3, vI len), (4, vI (b2i md)), (5, vI k)] [vI (8 * sz - p)] 79
              refine z_bipush C (z := 12) dX3_readRun_79 (by decide) ?_
              refine z_icmp_ge C (by omega) (by decide) (tgt := 86) dX3_readRun_81 (by decide) (fun hc_28 => ?_) (fun hc_28 => ?_)
              · refine z_iload C dX3_readRun_86 6 rfl ?_
                refine z_ifz C (tgt := 96) dX3_readRun_88 (by decide) (fun cm => ?_) (fun cm => ?_)
                · refine z_bipush C (z := (-2)) dX3_readRun_96 (by decide) ?_
                  refine z_iret (x := (-2)) C dX3_readRun_98 () ?_ ?_ ?_ (by decide) (by decide)
                  · rw [i4, if_neg (by omega), cm]; rfl
                  · exact trivial
                  · rw [i4]
                · refine z_bipush C (z := (-3)) dX3_readRun_91 (by decide) ?_
                  refine z_goto C (tgt := 98) dX3_readRun_93 (by decide) ?_
                  refine z_iret (x := (-3)) C dX3_readRun_98 () ?_ ?_ ?_ (by decide) (by decide)
                  · rw [i4, if_neg (by omega), cm]; rfl
                  · exact trivial
                  · rw [i4]
              · refine z_iconst C (z := (-1)) dX3_readRun_84 ?_
                refine z_iret (x := (-1)) C dX3_readRun_85 () ?_ ?_ ?_ (by decide) (by decide)
                · rw [i4, if_pos (by omega)]
                · exact trivial
                · rw [i4]
    refine z_lsub C [4, 5, 3, 2, 1, 0] rfl ?_
    exact J24 _ 0 false 0 ps (by omega) (by omega) (by omega) (rfl) (Nat.lt_succ_self _)
def rdWay (I : Int → Bool) (T p : Int) : Nat → Int × Int
  | 0 => (if T - p < 7 then -1 else -2, p)
  | n + 1 => if wayB (8 - n) ≤ T - p ∧ pkI I p (wayB (8 - n)).toNat = wayC (8 - n) then (((8 - n : Nat) : Int), p + wayB (8 - n)) else rdWay I T p n
theorem rdWay_rg (I : Int → Bool) (T p : Int) (h : p ≤ T) : ∀ n : Nat, n ≤ 9 → (p ≤ (rdWay I T p n).2 ∧ (rdWay I T p n).2 ≤ T) ∧ ((rdWay I T p n).1 = -1 ∨ (rdWay I T p n).1 = -2 ∨ (0 ≤ (rdWay I T p n).1 ∧ (rdWay I T p n).1 ≤ 8 ∧ p + 1 ≤ (rdWay I T p n).2))
  | 0, _ => by rw [rdWay]; simp only; refine ⟨by omega, ?_⟩; split <;> omega
  | n + 1, hn => by
    have hw := way_rg (8 - n) (by omega)
    rw [rdWay]
    split
    · simp only; omega
    · exact rdWay_rg I T p h n (by omega)
theorem kn_X3_readWay : zKn yX3_readWay wsX3_readWay cX3_readWay 3 (some .int) 0 := ⟨⟨_, rfl⟩, by decide +kernel, by decide +kernel, by decide +kernel⟩
set_option maxHeartbeats 400000 in
set_option maxRecDepth 100000 in
theorem c_X3_readWay (l : Launch) (D : va_G) (cy : Nat → ClassId) (tw : Nat → Nat) (a : Nat → Nat) (kd : Int) (co : Int) (mk : Bool) (al : Bool) (dz : Bool) (rd : Bool) (rw : Int) (wo : Nat → BitVec 64) (sa : Nat → Int) (sz : Int) (ps : Int) (bt : Nat → Int) (ou : Nat → BitVec 64) (bi : Int) (dm : Int) (pl : Bool) (re : Int) (cu : Bool)   (h0 : 0 ≤ sz ∧ sz ≤ 400) (h1 : 0 ≤ ps ∧ ps ≤ 8 * sz) : zMet l yX3_readWay wsX3_readWay { frames := 2, cells := 0, slots := 0, locals := 44 } D (zT cy) tw (CW cy a kd co mk al dz rd rw wo sa sz ps bt ou bi dm pl re cu) [.ref (a 8)] 0 0 (S := Unit) (fun _ => some (vI ((rdWay (inC bt sz) (8 * sz) ps 9).1))) (fun _ => CW cy a kd co mk al dz rd rw wo sa sz ((rdWay (inC bt sz) (8 * sz) ps 9).2) bt ou bi dm pl re cu) (fun _ => True) := by
  refine z_met (cc := cX3_readWay) (nL := 3) (ret := some .int) (by decide +kernel) rfl (Nat.le_of_ble_eq_true rfl) (lv := [(0, .ref (a 8))]) rfl ?_
  intro V p_ e_ s_ m_ args_ below_ meth_ c_ A_ C hmn
  have hinX3 : ∀ w ∈ u_ws RX3 TX3 9, w ∈ wsX3_readWay := by decide +kernel
  have k0 : Cond.fieldLink RX3 26 "FaxFilter$Receiver" "in" "LFaxFilter$BitsIn;" ∈ wsX3_readWay := List.mem_of_getElem? (i := 1) rfl
  refine z_iconst C (z := 0) dX3_readWay_0 ?_
  refine z_istore_n C (lv' := [(1, vI 0), (0, .ref (a 8))]) dX3_readWay_1 rfl (by decide) rfl ?_
  have J2 : ∀ (f : Nat) (w : Int), (0 ≤ w ∧ w ≤ 9) → (rdWay (inC bt sz) (8 * sz) ps 9 = rdWay (inC bt sz) (8 * sz) ps (9 - w).toNat) → (9 - w).toNat < f → V 0 0 (CW cy a kd co mk al dz rd rw wo sa sz ps bt ou bi dm pl re cu) [(0, .ref (a 8)), (1, vI w)] [] 2 := by
    intro f
    induction f with
    | zero => intro w i0 i2 hf; exact absurd hf (Nat.not_lt_zero _)
    | succ f ih =>
      intro w i0 i2 hf
      refine z_iload_n C dX3_readWay_2 1 rfl ?_
      refine z_stat0X3 C dX3_readWay_3 ?_
      refine z_statlen0 C dX3_readWay_6 ?_
      refine z_icmp_ge C (by omega) (by decide) (tgt := 67) dX3_readWay_7 (by decide) (fun hc_1 => ?_) (fun hc_1 => ?_)
      · refine z_aload_n C dX3_readWay_67 0 rfl ?_
        refine z_get C hinX3 (ci := 5) rfl 8 rfl 5 (by decide) k0 rfl (v := .ref (a 5)) rfl dX3_readWay_68 ?_
        refine z_callV C (As := []) (st := []) (c_X0_left l D cy tw a kd co mk al dz rd rw wo sa sz ps bt ou bi dm pl re cu   ) gX3_readWay_X0_left kn_X0_left rfl ⟨rfl, rfl, Nat.le_of_ble_eq_true rfl, Nat.le_of_ble_eq_true rfl⟩ 5 rfl (ci := 2) rfl rfl (Nat.le_of_ble_eq_true rfl) ⟨Nat.le_of_ble_eq_true rfl, Nat.le_of_ble_eq_true rfl⟩ dX3_readWay_71 (fun u2 hu2 => ?_)
        clear hu2; clear u2
        show V 0 0 (CW cy a kd co mk al dz rd rw wo sa sz ps bt ou bi dm pl re cu) [(0, .ref (a 8)), (1, vI w)] [vI (8 * sz - ps)] 74
        refine z_bipush C (z := 7) dX3_readWay_74 (by decide) ?_
        refine z_icmp_ge C (by omega) (by decide) (tgt := 83) dX3_readWay_76 (by decide) (fun hc_3 => ?_) (fun hc_3 => ?_)
        · refine z_bipush C (z := (-2)) dX3_readWay_83 (by decide) ?_
          refine z_iret (x := (-2)) C dX3_readWay_85 () ?_ ?_ ?_ (by decide) (by decide)
          · rw [i2, show (9 - w).toNat = 0 by omega, rdWay, if_neg (by omega)]
          · exact trivial
          · rw [i2, show (9 - w).toNat = 0 by omega, rdWay]
        · refine z_iconst C (z := (-1)) dX3_readWay_79 ?_
          refine z_goto C (tgt := 85) dX3_readWay_80 (by decide) ?_
          refine z_iret (x := (-1)) C dX3_readWay_85 () ?_ ?_ ?_ (by decide) (by decide)
          · rw [i2, show (9 - w).toNat = 0 by omega, rdWay, if_pos (by omega)]
          · exact trivial
          · rw [i2, show (9 - w).toNat = 0 by omega, rdWay]
      · refine z_iload_n C dX3_readWay_10 1 rfl ?_
        refine z_stat1X3 C dX3_readWay_11 ?_
        refine z_statlen1 C dX3_readWay_14 ?_
        refine z_icmp_ge C (by omega) (by decide) (tgt := 67) dX3_readWay_15 (by decide) (fun hc_4 => ?_) (fun hc_4 => ?_)
        · exfalso; omega
        · have hw := way_rg w.toNat (by omega)
          refine z_stat1X3 C dX3_readWay_18 ?_
          refine z_iload_n C dX3_readWay_21 1 rfl ?_
          refine z_statld1 C (by omega) (by omega) dX3_readWay_22 ?_
          refine z_istore_n C (lv' := [(2, vI (wayB (w).toNat)), (0, .ref (a 8)), (1, vI w)]) dX3_readWay_23 rfl (by decide) rfl ?_
          refine z_iload_n C dX3_readWay_24 0 rfl ?_
          refine z_aload_n C dX3_readWay_25 1 rfl ?_
          refine z_get C hinX3 (ci := 5) rfl 8 rfl 5 (by decide) k0 rfl (v := .ref (a 5)) rfl dX3_readWay_26 ?_
          refine z_callV C (As := []) (st := [vI (wayB (w).toNat)]) (c_X0_left l D cy tw a kd co mk al dz rd rw wo sa sz ps bt ou bi dm pl re cu   ) gX3_readWay_X0_left kn_X0_left rfl ⟨rfl, rfl, Nat.le_of_ble_eq_true rfl, Nat.le_of_ble_eq_true rfl⟩ 5 rfl (ci := 2) rfl rfl (Nat.le_of_ble_eq_true rfl) ⟨Nat.le_of_ble_eq_true rfl, Nat.le_of_ble_eq_true rfl⟩ dX3_readWay_29 (fun u5 hu5 => ?_)
          clear hu5; clear u5
          show V 0 0 (CW cy a kd co mk al dz rd rw wo sa sz ps bt ou bi dm pl re cu) [(2, vI (wayB (w).toNat)), (0, .ref (a 8)), (1, vI w)] [vI (8 * sz - ps), vI (wayB (w).toNat)] 32
          refine z_icmp_gt C (by omega) (by omega) (tgt := 61) dX3_readWay_32 (by decide) (fun hc_6 => ?_) (fun hc_6 => ?_)
          · have i4 : rdWay (inC bt sz) (8 * sz) ps 9 = rdWay (inC bt sz) (8 * sz) ps (8 - w).toNat := by
              rw [i2, show (9 - w).toNat = (8 - w).toNat + 1 by omega, rdWay, show 8 - (8 - w).toNat = w.toNat by omega, if_neg (by omega)]
            refine z_iinc C (lv' := [(1, vI (w + 1)), (2, vI (wayB (w).toNat)), (0, .ref (a 8))]) dX3_readWay_61 2 rfl (by decide) rfl ?_
            refine z_goto C (tgt := 2) dX3_readWay_64 (by decide) ?_
            refine z_lsub C [2, 0] rfl ?_
            exact ih (w + 1) (by omega) (by rw [show 9 - (w + 1) = 8 - w by omega]; exact i4) (by omega)
          · refine z_aload_n C dX3_readWay_35 1 rfl ?_
            refine z_get C hinX3 (ci := 5) rfl 8 rfl 5 (by decide) k0 rfl (v := .ref (a 5)) rfl dX3_readWay_36 ?_
            refine z_iload_n C dX3_readWay_39 0 rfl ?_
            have hpk : pkC bt sz ps (wayB w.toNat) = pkI (inC bt sz) ps (wayB w.toNat).toNat := pkC_eq h1.1 (by omega)
            have hpr := pkI_rg (inC bt sz) ps (wayB w.toNat).toNat
            have hp7 : (2 : Int) ^ (wayB w.toNat).toNat ≤ 2 ^ 7 := pow2_le (by omega)
            refine z_callV C (As := [vI (wayB (w).toNat)]) (st := []) (c_X0_peek l D cy tw a kd co mk al dz rd rw wo sa sz ps bt ou bi dm pl re cu (wayB (w).toNat)  (by omega) (by omega) (by omega)) gX3_readWay_X0_peek kn_X0_peek rfl ⟨rfl, rfl, Nat.le_of_ble_eq_true rfl, Nat.le_of_ble_eq_true rfl⟩ 5 rfl (ci := 2) rfl rfl (Nat.le_of_ble_eq_true rfl) ⟨Nat.le_of_ble_eq_true rfl, Nat.le_of_ble_eq_true rfl⟩ dX3_readWay_40 (fun u7 hu7 => ?_)
            clear hu7; clear u7
            show V 0 0 (CW cy a kd co mk al dz rd rw wo sa sz ps bt ou bi dm pl re cu) [(2, vI (wayB (w).toNat)), (0, .ref (a 8)), (1, vI w)] [vI (pkC bt sz ps (wayB (w).toNat))] 43
            refine z_stat0X3 C dX3_readWay_43 ?_
            refine z_iload_n C dX3_readWay_46 2 rfl ?_
            refine z_statld0 C (by omega) (by omega) dX3_readWay_47 ?_
            refine z_icmp_ne C (by omega) (by omega) (tgt := 61) dX3_readWay_48 (by decide) (fun hc_8 => ?_) (fun hc_8 => ?_)
            · have i4 : rdWay (inC bt sz) (8 * sz) ps 9 = rdWay (inC bt sz) (8 * sz) ps (8 - w).toNat := by
                rw [i2, show (9 - w).toNat = (8 - w).toNat + 1 by omega, rdWay, show 8 - (8 - w).toNat = w.toNat by omega, if_neg (by omega)]
              refine z_iinc C (lv' := [(1, vI (w + 1)), (2, vI (wayB (w).toNat)), (0, .ref (a 8))]) dX3_readWay_61 2 rfl (by decide) rfl ?_
              refine z_goto C (tgt := 2) dX3_readWay_64 (by decide) ?_
              refine z_lsub C [2, 0] rfl ?_
              exact ih (w + 1) (by omega) (by rw [show 9 - (w + 1) = 8 - w by omega]; exact i4) (by omega)
            · have i4 : rdWay (inC bt sz) (8 * sz) ps 9 = (w, ps + wayB w.toNat) := by
                rw [i2, show (9 - w).toNat = (8 - w).toNat + 1 by omega, rdWay, show 8 - (8 - w).toNat = w.toNat by omega, if_pos (by omega), show ((w.toNat : Nat) : Int) = w by omega]
              refine z_aload_n C dX3_readWay_51 1 rfl ?_
              refine z_get C hinX3 (ci := 5) rfl 8 rfl 5 (by decide) k0 rfl (v := .ref (a 5)) rfl dX3_readWay_52 ?_
              refine z_iload_n C dX3_readWay_55 0 rfl ?_
              refine z_callV C (As := [vI (wayB (w).toNat)]) (st := []) (c_X0_passE l D cy tw a kd co mk al dz rd rw wo sa sz ps bt ou bi dm pl re cu (wayB (w).toNat)  (by omega) (by omega) (by omega)) gX3_readWay_X0_pass kn_X0_pass rfl ⟨rfl, rfl, Nat.le_of_ble_eq_true rfl, Nat.le_of_ble_eq_true rfl⟩ 5 rfl (ci := 2) rfl rfl (Nat.le_of_ble_eq_true rfl) ⟨Nat.le_of_ble_eq_true rfl, Nat.le_of_ble_eq_true rfl⟩ dX3_readWay_56 (fun u9 hu9 => ?_)
              clear hu9; clear u9
              show V 0 0 (CW cy a kd co mk al dz rd rw wo sa sz (ps + (wayB (w).toNat)) bt ou bi dm pl re cu) [(2, vI (wayB (w).toNat)), (0, .ref (a 8)), (1, vI w)] [] 59
              refine z_iload_n C dX3_readWay_59 2 rfl ?_
              refine z_iret (x := w) C dX3_readWay_60 () ?_ ?_ ?_ (by decide) (by decide)
              · rw [i4]
              · exact trivial
              · rw [i4]
  refine z_lsub C [1, 0] rfl ?_
  exact J2 _ 0 (by omega) (rfl) (Nat.lt_succ_self _)
