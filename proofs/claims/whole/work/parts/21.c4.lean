/-! the Sender's words: bits behind bits -/
def cdb (d : Bool) (s : Int) : List Bool := bitsL (codC d s) (lenC d s).toNat
def runB (d : Bool) (n : Int) : List Bool := (if 64 ≤ n then cdb d (63 + n / 64) else []) ++ cdb d (n % 64)
def wayL (w : Int) : List Bool := bitsL (wayC w.toNat) (wayB w.toNat).toNat
def mkB (kd : Int) (pl : Bool) : List Bool := bitsL 1 12 ++ (if kd = 1 then bitsL (b2i pl) 1 else [])
def alB (L : List Bool) (m : Int) : List Bool := bitsL 0 (-((L.length : Int) + m) % 2 ^ 3).toNat
def stB (kd : Int) (mk al : Bool) (L : List Bool) (pl : Bool) : List Bool := if hasMk kd mk then (if al then alB L 12 else []) ++ mkB kd pl else (if al then alB L 0 else [])
def plB (f : Int → Bool) (N : Int) : Nat → Int → Bool → List Bool
  | 0, _, _ => []
  | n + 1, x, d => if x < N then runB d (nxt f N x (!d) - x) ++ plB f N n (nxt f N x (!d)) (!d) else []
theorem plB_ge {f : Int → Bool} {N x : Int} {d : Bool} (n : Nat) (h : N ≤ x) : plB f N n x d = [] := by
  cases n with
  | zero => rfl
  | succ n => rw [plB, if_neg (by omega)]
def drB (f g : Int → Bool) (N : Int) : Nat → Int → Bool → Bool → List Bool
  | 0, _, _, _ => []
  | n + 1, a, d, fi => if a < N then
      (if nxt g N (chC g N (if fi then a else a + 1) (!d)) d < nxt f N a (!d) then wayL 7 ++ drB f g N n (nxt g N (chC g N (if fi then a else a + 1) (!d)) d) d false
       else if chC g N (if fi then a else a + 1) (!d) - 3 ≤ nxt f N a (!d) ∧ nxt f N a (!d) ≤ chC g N (if fi then a else a + 1) (!d) + 3 then wayL (nxt f N a (!d) - chC g N (if fi then a else a + 1) (!d) + 3) ++ drB f g N n (nxt f N a (!d)) (!d) false
       else wayL 8 ++ (runB d (nxt f N a (!d) - a) ++ (runB (!d) (nxt f N (nxt f N a (!d)) d - nxt f N a (!d)) ++ drB f g N n (nxt f N (nxt f N a (!d)) d) d false)))
    else []
theorem drB_ge {f g : Int → Bool} {N a : Int} {d fi : Bool} (n : Nat) (h : N ≤ a) : drB f g N n a d fi = [] := by
  cases n with
  | zero => rfl
  | succ n => rw [drB, if_neg (by omega)]
theorem lenC_rg (d : Bool) (s : Int) : 0 ≤ lenC d s ∧ lenC d s ≤ 12 := by
  unfold lenC
  split
  · have := (tab_rg d s.toNat (by omega)).2.2.1; omega
  · omega
theorem codC_rg (d : Bool) (s : Int) : 0 ≤ codC d s ∧ codC d s < 4096 := by
  unfold codC
  split
  · have := (tab_rg d s.toNat (by omega)).2.2.2; omega
  · omega
theorem cdb_len (d : Bool) (s : Int) : ((cdb d s).length : Int) = lenC d s := by
  have := lenC_rg d s
  rw [cdb, bitsL_len]; omega
theorem tab_pw : ∀ (d : Bool) (j : Nat), j < 74 → tC d j < 2 ^ (tB d j).toNat := by decide +kernel
theorem cod_pw (d : Bool) (s : Int) : codC d s < 2 ^ (lenC d s).toNat := by
  unfold codC lenC
  split
  · exact tab_pw d s.toNat (by omega)
  · exact Int.pow_pos (by decide)
theorem way_pw : ∀ j, j < 9 → wayC j < 2 ^ (wayB j).toNat := by decide
theorem way_rg : ∀ j, j < 9 → (1 ≤ wayC j ∧ wayC j ≤ 3) ∧ (1 ≤ wayB j ∧ wayB j ≤ 7) := by decide
theorem c_X1_sendL (l : Launch) (D : va_G) (cy : Nat → ClassId) (tw : Nat → Nat) (a : Nat → Nat) (kd : Int) (co : Int) (mk : Bool) (al : Bool) (dz : Bool) (rd : Bool) (rw : Int) (wo : Nat → BitVec 64) (sa : Nat → Int) (sz : Int) (ps : Int) (bt : Nat → Int) (ou : Nat → BitVec 64) (dm : Int) (pl : Bool) (re : Int) (cu : Bool) (v : Int) (n : Int) (L : List Bool) (hL : OR ou L) (hco : 1 ≤ co ∧ co ≤ 700) (h1 : 0 ≤ v ∧ v ≤ 65535) (h2 : 0 ≤ n ∧ n ≤ 16) (h3 : ((L.length : Nat) : Int) + n ≤ 8 * (on co : Int)) (h4 : v < 2 ^ n.toNat) : zMet l yX1_send wsX1_send { frames := 0, cells := 0, slots := 0, locals := 0 } D (zT cy) tw (CW cy a kd co mk al dz rd rw wo sa sz ps bt ou ((L.length : Nat) : Int) dm pl re cu) [.ref (a 6), vI v, vI n] 0 0 (S := Nat → BitVec 64) (fun _ => none) (fun u => CW cy a kd co mk al dz rd rw wo sa sz ps bt u (((L ++ bitsL v (n : Int).toNat).length : Nat) : Int) dm pl re cu) (fun u => OR u (L ++ bitsL v (n : Int).toNat)) := by
  have hon := on_eq hco.1
  refine zMet_mono (c_X1_send l D cy tw a kd co mk al dz rd rw wo sa sz ps bt ou ((L.length : Nat) : Int) dm pl re cu v n hco h1 h2 (by omega)) (fun _ => sendA ou (L.length : Int) v n) (fun _ _ => rfl) (fun _ _ => ?_) (fun _ _ => ?_)
  · simp only [List.length_append, bitsL_len]; rw [show ((L.length + n.toNat : Nat) : Int) = (L.length : Int) + n by omega]
  · exact OR_send h1.1 (by omega) h4 hL
theorem c_X1_alignForL (l : Launch) (D : va_G) (cy : Nat → ClassId) (tw : Nat → Nat) (a : Nat → Nat) (kd : Int) (co : Int) (mk : Bool) (al : Bool) (dz : Bool) (rd : Bool) (rw : Int) (wo : Nat → BitVec 64) (sa : Nat → Int) (sz : Int) (ps : Int) (bt : Nat → Int) (ou : Nat → BitVec 64) (dm : Int) (pl : Bool) (re : Int) (cu : Bool) (m : Int) (L : List Bool) (hL : OR ou L) (hco : 1 ≤ co ∧ co ≤ 700) (h1 : 0 ≤ m ∧ m ≤ 100) (h3 : ((L.length : Nat) : Int) + 7 ≤ 8 * (on co : Int)) : zMet l yX1_alignFor wsX1_alignFor { frames := 1, cells := 0, slots := 0, locals := 27 } D (zT cy) tw (CW cy a kd co mk al dz rd rw wo sa sz ps bt ou ((L.length : Nat) : Int) dm pl re cu) [.ref (a 6), vI m] 0 0 (S := Nat → BitVec 64) (fun _ => none) (fun u => CW cy a kd co mk al dz rd rw wo sa sz ps bt u (((L ++ alB L m).length : Nat) : Int) dm pl re cu) (fun u => OR u (L ++ alB L m)) := by
  have hon := on_eq hco.1
  refine zMet_mono (c_X1_alignFor l D cy tw a kd co mk al dz rd rw wo sa sz ps bt ou ((L.length : Nat) : Int) dm pl re cu m hco h1 (by omega)) (fun _ => sendA ou (L.length : Int) 0 (-((L.length : Int) + m) % 2 ^ 3)) (fun _ _ => rfl) (fun _ _ => ?_) (fun _ _ => ?_)
  · simp only [List.length_append, alB, bitsL_len]; rw [Int.natCast_add, Int.toNat_of_nonneg (by omega)]
  · exact OR_send (by decide) (by omega) (Int.pow_pos (by decide)) hL
theorem kn_X4_sendWay : zKn yX4_sendWay wsX4_sendWay cX4_sendWay 2 (none) 1 := ⟨⟨_, rfl⟩, by decide +kernel, by decide +kernel, by decide +kernel⟩
set_option maxHeartbeats 400000 in
set_option maxRecDepth 100000 in
theorem c_X4_sendWay (l : Launch) (D : va_G) (cy : Nat → ClassId) (tw : Nat → Nat) (a : Nat → Nat) (kd : Int) (co : Int) (mk : Bool) (al : Bool) (dz : Bool) (rd : Bool) (rw : Int) (wo : Nat → BitVec 64) (sa : Nat → Int) (sz : Int) (ps : Int) (bt : Nat → Int) (ou : Nat → BitVec 64) (dm : Int) (pl : Bool) (re : Int) (cu : Bool) (w : Int) (L : List Bool) (hL : OR ou L) (hco : 1 ≤ co ∧ co ≤ 700) (hw : 0 ≤ w ∧ w < 9) (hroom : (((L ++ wayL w).length : Nat) : Int) ≤ 8 * (on co : Int)) : zMet l yX4_sendWay wsX4_sendWay { frames := 1, cells := 0, slots := 0, locals := 27 } D (zT cy) tw (CW cy a kd co mk al dz rd rw wo sa sz ps bt ou ((L.length : Nat) : Int) dm pl re cu) [.ref (a 7), vI w] 0 0 (S := Nat → BitVec 64) (fun _ => none) (fun u => CW cy a kd co mk al dz rd rw wo sa sz ps bt u (((L ++ wayL w).length : Nat) : Int) dm pl re cu) (fun u => OR u (L ++ wayL w)) := by
  refine z_met (cc := cX4_sendWay) (nL := 2) (ret := none) (by decide +kernel) rfl (Nat.le_of_ble_eq_true rfl) (lv := [(0, .ref (a 7)), (1, vI w)]) rfl ?_
  intro V p_ e_ s_ m_ args_ below_ meth_ c_ A_ C hmn
  have hinX4 : ∀ w ∈ u_ws RX4 TX4 5, w ∈ wsX4_sendWay := by decide +kernel
  have k0 : Cond.fieldLink RX4 26 "FaxFilter$Sender" "out" "LFaxFilter$BitsOut;" ∈ wsX4_sendWay := List.mem_of_getElem? (i := 1) rfl
  have hon := on_eq hco.1
  have hwy := way_rg w.toNat (by omega)
  have hlen : ((wayL w).length : Int) = wayB w.toNat := by rw [wayL, bitsL_len]; omega
  rw [List.length_append] at hroom
  refine z_iload_n C dX4_sendWay_0 1 rfl ?_
  refine z_if_lt C (by omega) (tgt := 37) dX4_sendWay_1 (by decide) (fun hc_1 => ?_) (fun hc_1 => ?_)
  · exfalso; omega
  · refine z_iload_n C dX4_sendWay_4 1 rfl ?_
    refine z_stat0X4 C dX4_sendWay_5 ?_
    refine z_statlen0 C dX4_sendWay_8 ?_
    refine z_icmp_ge C (by omega) (by decide) (tgt := 37) dX4_sendWay_9 (by decide) (fun hc_2 => ?_) (fun hc_2 => ?_)
    · exfalso; omega
    · refine z_iload_n C dX4_sendWay_12 1 rfl ?_
      refine z_stat1X4 C dX4_sendWay_13 ?_
      refine z_statlen1 C dX4_sendWay_16 ?_
      refine z_icmp_ge C (by omega) (by decide) (tgt := 37) dX4_sendWay_17 (by decide) (fun hc_3 => ?_) (fun hc_3 => ?_)
      · exfalso; omega
      · refine z_aload_n C dX4_sendWay_20 0 rfl ?_
        refine z_get C hinX4 (ci := 6) rfl 7 rfl 4 (by decide) k0 rfl (v := .ref (a 6)) rfl dX4_sendWay_21 ?_
        refine z_stat0X4 C dX4_sendWay_24 ?_
        refine z_iload_n C dX4_sendWay_27 1 rfl ?_
        refine z_statld0 C (by omega) (by omega) dX4_sendWay_28 ?_
        refine z_stat1X4 C dX4_sendWay_29 ?_
        refine z_iload_n C dX4_sendWay_32 1 rfl ?_
        refine z_statld1 C (by omega) (by omega) dX4_sendWay_33 ?_
        refine z_callV C (As := [vI (wayC (w).toNat), vI (wayB (w).toNat)]) (st := []) (c_X1_sendL l D cy tw a kd co mk al dz rd rw wo sa sz ps bt ou dm pl re cu (wayC (w).toNat) (wayB (w).toNat) L (hL) (by omega) (by omega) (by omega) (by omega) (way_pw _ (by omega))) gX4_sendWay_X1_send kn_X1_send rfl ⟨rfl, rfl, Nat.le_of_ble_eq_true rfl, Nat.le_of_ble_eq_true rfl⟩ 6 rfl (ci := 3) rfl rfl (Nat.le_of_ble_eq_true rfl) ⟨Nat.le_of_ble_eq_true rfl, Nat.le_of_ble_eq_true rfl⟩ dX4_sendWay_34 (fun u4 hu4 => ?_)
        show V 0 0 (CW cy a kd co mk al dz rd rw wo sa sz ps bt u4 (((L ++ bitsL (wayC (w).toNat) ((wayB (w).toNat) : Int).toNat).length : Nat) : Int) dm pl re cu) [(0, .ref (a 7)), (1, vI w)] [] 37
        refine z_vret C dX4_sendWay_37 u4 ?_ ?_ ?_ (by decide) (by decide)
        · exact rfl
        · have e : L ++ wayL w = (L ++ bitsL (wayC (w).toNat) ((wayB (w).toNat) : Int).toNat) := by rfl
          rw [e]; exact hu4
        · have e : L ++ wayL w = (L ++ bitsL (wayC (w).toNat) ((wayB (w).toNat) : Int).toNat) := by rfl
          rw [e]
theorem kn_X4_sendMark : zKn yX4_sendMark wsX4_sendMark cX4_sendMark 2 (none) 1 := ⟨⟨_, rfl⟩, by decide +kernel, by decide +kernel, by decide +kernel⟩
set_option maxHeartbeats 400000 in
set_option maxRecDepth 100000 in
theorem c_X4_sendMark (l : Launch) (D : va_G) (cy : Nat → ClassId) (tw : Nat → Nat) (a : Nat → Nat) (kd : Int) (co : Int) (mk : Bool) (al : Bool) (dz : Bool) (rd : Bool) (rw : Int) (wo : Nat → BitVec 64) (sa : Nat → Int) (sz : Int) (ps : Int) (bt : Nat → Int) (ou : Nat → BitVec 64) (dm : Int) (pl : Bool) (re : Int) (cu : Bool) (w : Bool) (L : List Bool) (hL : OR ou L) (hco : 1 ≤ co ∧ co ≤ 700) (hk : 0 ≤ kd ∧ kd ≤ 2) (hroom : ((L.length : Nat) : Int) + 13 ≤ 8 * (on co : Int)) : zMet l yX4_sendMark wsX4_sendMark { frames := 1, cells := 0, slots := 0, locals := 27 } D (zT cy) tw (CW cy a kd co mk al dz rd rw wo sa sz ps bt ou ((L.length : Nat) : Int) dm pl re cu) [.ref (a 7), vI (b2i w)] 0 0 (S := Nat → BitVec 64) (fun _ => none) (fun u => CW cy a kd co mk al dz rd rw wo sa sz ps bt u (((L ++ mkB kd w).length : Nat) : Int) dm pl re cu) (fun u => OR u (L ++ mkB kd w)) := by
  refine z_met (cc := cX4_sendMark) (nL := 2) (ret := none) (by decide +kernel) rfl (Nat.le_of_ble_eq_true rfl) (lv := [(0, .ref (a 7)), (1, vI (b2i w))]) rfl ?_
  intro V p_ e_ s_ m_ args_ below_ meth_ c_ A_ C hmn
  have hinX4 : ∀ w ∈ u_ws RX4 TX4 5, w ∈ wsX4_sendMark := by decide +kernel
  have hinX5 : ∀ w ∈ u_ws RX5 TX5 5, w ∈ wsX4_sendMark := by decide +kernel
  have k0 : Cond.fieldLink RX4 26 "FaxFilter$Sender" "out" "LFaxFilter$BitsOut;" ∈ wsX4_sendMark := List.mem_of_getElem? (i := 1) rfl
  have k1 : Cond.fieldLink RX4 9 "FaxFilter$Sender" "settings" "LFaxFilter$Settings;" ∈ wsX4_sendMark := List.mem_of_getElem? (i := 2) rfl
  have k2 : Cond.fieldLink RX4 41 "FaxFilter$Settings" "kind" "I" ∈ wsX4_sendMark := List.mem_of_getElem? (i := 3) rfl
  have hon := on_eq hco.1
  refine z_aload_n C dX4_sendMark_0 0 rfl ?_
  refine z_get C hinX4 (ci := 6) rfl 7 rfl 4 (by decide) k0 rfl (v := .ref (a 6)) rfl dX4_sendMark_1 ?_
  refine z_iconst C (z := 1) dX4_sendMark_4 ?_
  refine z_bipush C (z := 12) dX4_sendMark_5 (by decide) ?_
  refine z_callV C (As := [vI 1, vI 12]) (st := []) (c_X1_sendL l D cy tw a kd co mk al dz rd rw wo sa sz ps bt ou dm pl re cu 1 12 L (hL) (by omega) (by omega) (by omega) (by omega) (by decide)) gX4_sendMark_X1_send kn_X1_send rfl ⟨rfl, rfl, Nat.le_of_ble_eq_true rfl, Nat.le_of_ble_eq_true rfl⟩ 6 rfl (ci := 3) rfl rfl (Nat.le_of_ble_eq_true rfl) ⟨Nat.le_of_ble_eq_true rfl, Nat.le_of_ble_eq_true rfl⟩ dX4_sendMark_7 (fun u1 hu1 => ?_)
  show V 0 0 (CW cy a kd co mk al dz rd rw wo sa sz ps bt u1 (((L ++ bitsL 1 (12 : Int).toNat).length : Nat) : Int) dm pl re cu) [(0, .ref (a 7)), (1, vI (b2i w))] [] 10
  refine z_aload_n C dX4_sendMark_10 0 rfl ?_
  refine z_get C hinX4 (ci := 6) rfl 7 rfl 0 (by decide) k1 rfl (v := .ref (a 1)) rfl dX4_sendMark_11 ?_
  refine z_get C hinX5 (ci := 7) rfl 1 rfl 0 (by decide) k2 rfl (v := vI kd) rfl dX4_sendMark_14 ?_
  refine z_iconst C (z := 1) dX4_sendMark_17 ?_
  refine z_icmp_ne C (by omega) (by decide) (tgt := 38) dX4_sendMark_18 (by decide) (fun hc_2 => ?_) (fun hc_2 => ?_)
  · refine z_vret C dX4_sendMark_38 u1 ?_ ?_ ?_ (by decide) (by decide)
    · exact rfl
    · have e : L ++ mkB kd w = (L ++ bitsL 1 (12 : Int).toNat) := by rw [mkB, if_neg (by omega), List.append_nil]; rfl
      rw [e]; exact hu1
    · have e : L ++ mkB kd w = (L ++ bitsL 1 (12 : Int).toNat) := by rw [mkB, if_neg (by omega), List.append_nil]; rfl
      rw [e]
  · refine z_aload_n C dX4_sendMark_21 0 rfl ?_
    refine z_get C hinX4 (ci := 6) rfl 7 rfl 4 (by decide) k0 rfl (v := .ref (a 6)) rfl dX4_sendMark_22 ?_
    refine z_iload_n C dX4_sendMark_25 1 rfl ?_
    refine z_ifz C (tgt := 33) dX4_sendMark_26 (by decide) (fun cw => ?_) (fun cw => ?_)
    · refine z_iconst C (z := 0) dX4_sendMark_33 ?_
      refine z_iconst C (z := 1) dX4_sendMark_34 ?_
      refine z_callV C (As := [vI 0, vI 1]) (st := []) (c_X1_sendL l D cy tw a kd co mk al dz rd rw wo sa sz ps bt u1 dm pl re cu 0 1 (L ++ bitsL 1 (12 : Int).toNat) (hu1) (by omega) (by omega) (by omega) (by simp only [List.length_append, bitsL_len]; omega) (by decide)) gX4_sendMark_X1_send kn_X1_send rfl ⟨rfl, rfl, Nat.le_of_ble_eq_true rfl, Nat.le_of_ble_eq_true rfl⟩ 6 rfl (ci := 3) rfl rfl (Nat.le_of_ble_eq_true rfl) ⟨Nat.le_of_ble_eq_true rfl, Nat.le_of_ble_eq_true rfl⟩ dX4_sendMark_35 (fun u3 hu3 => ?_)
      show V 0 0 (CW cy a kd co mk al dz rd rw wo sa sz ps bt u3 ((((L ++ bitsL 1 (12 : Int).toNat) ++ bitsL 0 (1 : Int).toNat).length : Nat) : Int) dm pl re cu) [(0, .ref (a 7)), (1, vI (b2i w))] [] 38
      refine z_vret C dX4_sendMark_38 u3 ?_ ?_ ?_ (by decide) (by decide)
      · exact rfl
      · have e : L ++ mkB kd w = ((L ++ bitsL 1 (12 : Int).toNat) ++ bitsL 0 (1 : Int).toNat) := by subst cw; rw [mkB, if_pos (by omega), ← List.append_assoc]; rfl
        rw [e]; exact hu3
      · have e : L ++ mkB kd w = ((L ++ bitsL 1 (12 : Int).toNat) ++ bitsL 0 (1 : Int).toNat) := by subst cw; rw [mkB, if_pos (by omega), ← List.append_assoc]; rfl
        rw [e]
    · refine z_iconst C (z := 1) dX4_sendMark_29 ?_
      refine z_goto C (tgt := 34) dX4_sendMark_30 (by decide) ?_
      refine z_iconst C (z := 1) dX4_sendMark_34 ?_
      refine z_callV C (As := [vI 1, vI 1]) (st := []) (c_X1_sendL l D cy tw a kd co mk al dz rd rw wo sa sz ps bt u1 dm pl re cu 1 1 (L ++ bitsL 1 (12 : Int).toNat) (hu1) (by omega) (by omega) (by omega) (by simp only [List.length_append, bitsL_len]; omega) (by decide)) gX4_sendMark_X1_send kn_X1_send rfl ⟨rfl, rfl, Nat.le_of_ble_eq_true rfl, Nat.le_of_ble_eq_true rfl⟩ 6 rfl (ci := 3) rfl rfl (Nat.le_of_ble_eq_true rfl) ⟨Nat.le_of_ble_eq_true rfl, Nat.le_of_ble_eq_true rfl⟩ dX4_sendMark_35 (fun u4 hu4 => ?_)
      show V 0 0 (CW cy a kd co mk al dz rd rw wo sa sz ps bt u4 ((((L ++ bitsL 1 (12 : Int).toNat) ++ bitsL 1 (1 : Int).toNat).length : Nat) : Int) dm pl re cu) [(0, .ref (a 7)), (1, vI (b2i w))] [] 38
      refine z_vret C dX4_sendMark_38 u4 ?_ ?_ ?_ (by decide) (by decide)
      · exact rfl
      · have e : L ++ mkB kd w = ((L ++ bitsL 1 (12 : Int).toNat) ++ bitsL 1 (1 : Int).toNat) := by subst cw; rw [mkB, if_pos (by omega), ← List.append_assoc]; rfl
        rw [e]; exact hu4
      · have e : L ++ mkB kd w = ((L ++ bitsL 1 (12 : Int).toNat) ++ bitsL 1 (1 : Int).toNat) := by subst cw; rw [mkB, if_pos (by omega), ← List.append_assoc]; rfl
        rw [e]
theorem runB_len (d : Bool) (n : Int) : ((runB d n).length : Int) = (if 64 ≤ n then lenC d (63 + n / 64) else 0) + lenC d (n % 64) := by
  rw [runB, List.length_append, Int.natCast_add, cdb_len]
  split
  · rw [cdb_len]
  · rfl
theorem kn_X4_sendRun : zKn yX4_sendRun wsX4_sendRun cX4_sendRun 5 (none) 2 := ⟨⟨_, rfl⟩, by decide +kernel, by decide +kernel, by decide +kernel⟩
set_option maxHeartbeats 400000 in
set_option maxRecDepth 100000 in
theorem c_X4_sendRun (l : Launch) (D : va_G) (cy : Nat → ClassId) (tw : Nat → Nat) (a : Nat → Nat) (kd : Int) (co : Int) (mk : Bool) (al : Bool) (dz : Bool) (rd : Bool) (rw : Int) (wo : Nat → BitVec 64) (sa : Nat → Int) (sz : Int) (ps : Int) (bt : Nat → Int) (ou : Nat → BitVec 64) (dm : Int) (pl : Bool) (re : Int) (cu : Bool) (n : Int) (d : Bool) (L : List Bool) (hL : OR ou L) (hco : 1 ≤ co ∧ co ≤ 700) (hn : 0 ≤ n ∧ n ≤ 767) (hroom : (((L ++ runB d n).length : Nat) : Int) ≤ 8 * (on co : Int)) : zMet l yX4_sendRun wsX4_sendRun { frames := 1, cells := 0, slots := 0, locals := 27 } D (zT cy) tw (CW cy a kd co mk al dz rd rw wo sa sz ps bt ou ((L.length : Nat) : Int) dm pl re cu) [.ref (a 7), vI n, vI (b2i d)] 0 0 (S := Nat → BitVec 64) (fun _ => none) (fun u => CW cy a kd co mk al dz rd rw wo sa sz ps bt u (((L ++ runB d n).length : Nat) : Int) dm pl re cu) (fun u => OR u (L ++ runB d n)) := by
  refine z_met (cc := cX4_sendRun) (nL := 5) (ret := none) (by decide +kernel) rfl (Nat.le_of_ble_eq_true rfl) (lv := [(0, .ref (a 7)), (1, vI n), (2, vI (b2i d))]) rfl ?_
  intro V p_ e_ s_ m_ args_ below_ meth_ c_ A_ C hmn
  have hinX4 : ∀ w ∈ u_ws RX4 TX4 5, w ∈ wsX4_sendRun := by decide +kernel
  have k0 : Cond.fieldLink RX4 19 "FaxFilter$Sender" "whiteTable" "LFaxFilter$Table;" ∈ wsX4_sendRun := List.mem_of_getElem? (i := 2) rfl
  have k1 : Cond.fieldLink RX4 26 "FaxFilter$Sender" "out" "LFaxFilter$BitsOut;" ∈ wsX4_sendRun := List.mem_of_getElem? (i := 3) rfl
  have k2 : Cond.fieldLink RX4 23 "FaxFilter$Sender" "darkTable" "LFaxFilter$Table;" ∈ wsX4_sendRun := List.mem_of_getElem? (i := 1) rfl
  have hon := on_eq hco.1
  have hlen := runB_len d n
  rw [List.length_append] at hroom
  refine z_iload_n C dX4_sendRun_0 2 rfl ?_
  refine z_ifz C (tgt := 11) dX4_sendRun_1 (by decide) (fun cd => ?_) (fun cd => ?_)
  · have hl1 := lenC_rg false (63 + n / 64)
    have hl2 := lenC_rg false (n % 64)
    have hc1 := codC_rg false (63 + n / 64)
    have hc2 := codC_rg false (n % 64)
    rw [cd] at hlen hroom
    refine z_aload_n C dX4_sendRun_11 0 rfl ?_
    refine z_get C hinX4 (ci := 6) rfl 7 rfl 2 (by decide) k0 rfl (v := .ref (a 3)) rfl dX4_sendRun_12 ?_
    refine z_astore_n C (lv' := [(3, .ref (a 3)), (0, .ref (a 7)), (1, vI n), (2, vI (b2i d))]) dX4_sendRun_15 rfl (by decide) rfl ?_
    refine z_iload_n C dX4_sendRun_16 2 rfl ?_
    refine z_bipush C (z := 64) dX4_sendRun_17 (by decide) ?_
    refine z_icmp_lt C (by omega) (by decide) (tgt := 47) dX4_sendRun_19 (by decide) (fun hc_1 => ?_) (fun hc_1 => ?_)
    · rw [if_neg (by omega)] at hlen
      refine z_iload_n C dX4_sendRun_47 2 rfl ?_
      refine z_bipush C (z := 64) dX4_sendRun_48 (by decide) ?_
      refine z_irem C dX4_sendRun_50 (by omega) (by decide) ?_
      refine z_istore C (lv' := [(4, vI (n % 64)), (3, .ref (a 3)), (0, .ref (a 7)), (1, vI n), (2, vI (b2i d))]) dX4_sendRun_51 (by decide) rfl ?_
      refine z_aload_n C dX4_sendRun_53 2 rfl ?_
      refine z_get C hinX4 (ci := 6) rfl 7 rfl 4 (by decide) k1 rfl (v := .ref (a 6)) rfl dX4_sendRun_54 ?_
      refine z_aload_n C dX4_sendRun_57 1 rfl ?_
      refine z_iload C dX4_sendRun_58 0 rfl ?_
      refine z_callV C (As := [vI (n % 64)]) (st := [.ref (a 6)]) (c_X6_codeOfW l D cy tw a kd co mk al dz rd rw wo sa sz ps bt ou ((L.length : Nat) : Int) dm pl re cu (n % 64)  (by omega)) gX4_sendRun_X6_codeOf kn_X6_codeOf rfl ⟨rfl, rfl, Nat.le_of_ble_eq_true rfl, Nat.le_of_ble_eq_true rfl⟩ 3 rfl (ci := 8) rfl rfl (Nat.le_of_ble_eq_true rfl) ⟨Nat.le_of_ble_eq_true rfl, Nat.le_of_ble_eq_true rfl⟩ dX4_sendRun_60 (fun u2 hu2 => ?_)
      clear hu2; clear u2
      show V 0 0 (CW cy a kd co mk al dz rd rw wo sa sz ps bt ou ((L.length : Nat) : Int) dm pl re cu) [(4, vI (n % 64)), (3, .ref (a 3)), (0, .ref (a 7)), (1, vI n), (2, vI (b2i d))] [vI (codC false (n % 64)), .ref (a 6)] 63
      refine z_aload_n C dX4_sendRun_63 1 rfl ?_
      refine z_iload C dX4_sendRun_64 0 rfl ?_
      refine z_callV C (As := [vI (n % 64)]) (st := [vI (codC false (n % 64)), .ref (a 6)]) (c_X6_bitsOfW l D cy tw a kd co mk al dz rd rw wo sa sz ps bt ou ((L.length : Nat) : Int) dm pl re cu (n % 64)  (by omega)) gX4_sendRun_X6_bitsOf kn_X6_bitsOf rfl ⟨rfl, rfl, Nat.le_of_ble_eq_true rfl, Nat.le_of_ble_eq_true rfl⟩ 3 rfl (ci := 8) rfl rfl (Nat.le_of_ble_eq_true rfl) ⟨Nat.le_of_ble_eq_true rfl, Nat.le_of_ble_eq_true rfl⟩ dX4_sendRun_66 (fun u3 hu3 => ?_)
      clear hu3; clear u3
      show V 0 0 (CW cy a kd co mk al dz rd rw wo sa sz ps bt ou ((L.length : Nat) : Int) dm pl re cu) [(4, vI (n % 64)), (3, .ref (a 3)), (0, .ref (a 7)), (1, vI n), (2, vI (b2i d))] [vI (lenC false (n % 64)), vI (codC false (n % 64)), .ref (a 6)] 69
      refine z_callV C (As := [vI (codC false (n % 64)), vI (lenC false (n % 64))]) (st := []) (c_X1_sendL l D cy tw a kd co mk al dz rd rw wo sa sz ps bt ou dm pl re cu (codC false (n % 64)) (lenC false (n % 64)) L (hL) (by omega) (by omega) (by omega) (by (try simp only [List.length_append, bitsL_len]); omega) (cod_pw _ _)) gX4_sendRun_X1_send kn_X1_send rfl ⟨rfl, rfl, Nat.le_of_ble_eq_true rfl, Nat.le_of_ble_eq_true rfl⟩ 6 rfl (ci := 3) rfl rfl (Nat.le_of_ble_eq_true rfl) ⟨Nat.le_of_ble_eq_true rfl, Nat.le_of_ble_eq_true rfl⟩ dX4_sendRun_69 (fun u4 hu4 => ?_)
      show V 0 0 (CW cy a kd co mk al dz rd rw wo sa sz ps bt u4 (((L ++ bitsL (codC false (n % 64)) ((lenC false (n % 64)) : Int).toNat).length : Nat) : Int) dm pl re cu) [(4, vI (n % 64)), (3, .ref (a 3)), (0, .ref (a 7)), (1, vI n), (2, vI (b2i d))] [] 72
      refine z_vret C dX4_sendRun_72 u4 ?_ ?_ ?_ (by decide) (by decide)
      · exact rfl
      · have e : L ++ runB d n = (L ++ bitsL (codC false (n % 64)) ((lenC false (n % 64)) : Int).toNat) := by rw [cd, runB]; first | (rw [if_pos (by omega), ← List.append_assoc]; rfl) | (rw [if_neg (by omega)]; rfl)
        rw [e]; exact hu4
      · have e : L ++ runB d n = (L ++ bitsL (codC false (n % 64)) ((lenC false (n % 64)) : Int).toNat) := by rw [cd, runB]; first | (rw [if_pos (by omega), ← List.append_assoc]; rfl) | (rw [if_neg (by omega)]; rfl)
        rw [e]
    · rw [if_pos (by omega)] at hlen
      refine z_iload_n C dX4_sendRun_22 2 rfl ?_
      refine z_callS C (As := [vI n]) (st := []) (c_X6_slotOfMake l D cy tw a kd co mk al dz rd rw wo sa sz ps bt ou ((L.length : Nat) : Int) dm pl re cu n  (by omega)) gX4_sendRun_X6_slotOfMake kn_X6_slotOfMake ⟨rfl, rfl, Nat.le_of_ble_eq_true rfl, Nat.le_of_ble_eq_true rfl⟩ rfl (Nat.le_of_ble_eq_true rfl) ⟨Nat.le_of_ble_eq_true rfl, Nat.le_of_ble_eq_true rfl⟩ dX4_sendRun_23 (fun u5 hu5 => ?_)
      clear hu5; clear u5
      show V 0 0 (CW cy a kd co mk al dz rd rw wo sa sz ps bt ou ((L.length : Nat) : Int) dm pl re cu) [(3, .ref (a 3)), (0, .ref (a 7)), (1, vI n), (2, vI (b2i d))] [vI (63 + n / 64)] 26
      refine z_istore C (lv' := [(4, vI (63 + n / 64)), (3, .ref (a 3)), (0, .ref (a 7)), (1, vI n), (2, vI (b2i d))]) dX4_sendRun_26 (by decide) rfl ?_
      refine z_aload_n C dX4_sendRun_28 2 rfl ?_
      refine z_get C hinX4 (ci := 6) rfl 7 rfl 4 (by decide) k1 rfl (v := .ref (a 6)) rfl dX4_sendRun_29 ?_
      refine z_aload_n C dX4_sendRun_32 1 rfl ?_
      refine z_iload C dX4_sendRun_33 0 rfl ?_
      refine z_callV C (As := [vI (63 + n / 64)]) (st := [.ref (a 6)]) (c_X6_codeOfW l D cy tw a kd co mk al dz rd rw wo sa sz ps bt ou ((L.length : Nat) : Int) dm pl re cu (63 + n / 64)  (by omega)) gX4_sendRun_X6_codeOf kn_X6_codeOf rfl ⟨rfl, rfl, Nat.le_of_ble_eq_true rfl, Nat.le_of_ble_eq_true rfl⟩ 3 rfl (ci := 8) rfl rfl (Nat.le_of_ble_eq_true rfl) ⟨Nat.le_of_ble_eq_true rfl, Nat.le_of_ble_eq_true rfl⟩ dX4_sendRun_35 (fun u6 hu6 => ?_)
      clear hu6; clear u6
      show V 0 0 (CW cy a kd co mk al dz rd rw wo sa sz ps bt ou ((L.length : Nat) : Int) dm pl re cu) [(4, vI (63 + n / 64)), (3, .ref (a 3)), (0, .ref (a 7)), (1, vI n), (2, vI (b2i d))] [vI (codC false (63 + n / 64)), .ref (a 6)] 38
      refine z_aload_n C dX4_sendRun_38 1 rfl ?_
      refine z_iload C dX4_sendRun_39 0 rfl ?_
      refine z_callV C (As := [vI (63 + n / 64)]) (st := [vI (codC false (63 + n / 64)), .ref (a 6)]) (c_X6_bitsOfW l D cy tw a kd co mk al dz rd rw wo sa sz ps bt ou ((L.length : Nat) : Int) dm pl re cu (63 + n / 64)  (by omega)) gX4_sendRun_X6_bitsOf kn_X6_bitsOf rfl ⟨rfl, rfl, Nat.le_of_ble_eq_true rfl, Nat.le_of_ble_eq_true rfl⟩ 3 rfl (ci := 8) rfl rfl (Nat.le_of_ble_eq_true rfl) ⟨Nat.le_of_ble_eq_true rfl, Nat.le_of_ble_eq_true rfl⟩ dX4_sendRun_41 (fun u7 hu7 => ?_)
      clear hu7; clear u7
      show V 0 0 (CW cy a kd co mk al dz rd rw wo sa sz ps bt ou ((L.length : Nat) : Int) dm pl re cu) [(4, vI (63 + n / 64)), (3, .ref (a 3)), (0, .ref (a 7)), (1, vI n), (2, vI (b2i d))] [vI (lenC false (63 + n / 64)), vI (codC false (63 + n / 64)), .ref (a 6)] 44
      refine z_callV C (As := [vI (codC false (63 + n / 64)), vI (lenC false (63 + n / 64))]) (st := []) (c_X1_sendL l D cy tw a kd co mk al dz rd rw wo sa sz ps bt ou dm pl re cu (codC false (63 + n / 64)) (lenC false (63 + n / 64)) L (hL) (by omega) (by omega) (by omega) (by omega) (cod_pw _ _)) gX4_sendRun_X1_send kn_X1_send rfl ⟨rfl, rfl, Nat.le_of_ble_eq_true rfl, Nat.le_of_ble_eq_true rfl⟩ 6 rfl (ci := 3) rfl rfl (Nat.le_of_ble_eq_true rfl) ⟨Nat.le_of_ble_eq_true rfl, Nat.le_of_ble_eq_true rfl⟩ dX4_sendRun_44 (fun u8 hu8 => ?_)
      show V 0 0 (CW cy a kd co mk al dz rd rw wo sa sz ps bt u8 (((L ++ bitsL (codC false (63 + n / 64)) ((lenC false (63 + n / 64)) : Int).toNat).length : Nat) : Int) dm pl re cu) [(4, vI (63 + n / 64)), (3, .ref (a 3)), (0, .ref (a 7)), (1, vI n), (2, vI (b2i d))] [] 47
      refine z_iload_n C dX4_sendRun_47 3 rfl ?_
      refine z_bipush C (z := 64) dX4_sendRun_48 (by decide) ?_
      refine z_irem C dX4_sendRun_50 (by omega) (by decide) ?_
      refine z_istore C (lv' := [(4, vI (n % 64)), (3, .ref (a 3)), (0, .ref (a 7)), (1, vI n), (2, vI (b2i d))]) dX4_sendRun_51 (by decide) rfl ?_
      refine z_aload_n C dX4_sendRun_53 2 rfl ?_
      refine z_get C hinX4 (ci := 6) rfl 7 rfl 4 (by decide) k1 rfl (v := .ref (a 6)) rfl dX4_sendRun_54 ?_
      refine z_aload_n C dX4_sendRun_57 1 rfl ?_
      refine z_iload C dX4_sendRun_58 0 rfl ?_
      refine z_callV C (As := [vI (n % 64)]) (st := [.ref (a 6)]) (c_X6_codeOfW l D cy tw a kd co mk al dz rd rw wo sa sz ps bt u8 (((L ++ bitsL (codC false (63 + n / 64)) ((lenC false (63 + n / 64)) : Int).toNat).length : Nat) : Int) dm pl re cu (n % 64)  (by omega)) gX4_sendRun_X6_codeOf kn_X6_codeOf rfl ⟨rfl, rfl, Nat.le_of_ble_eq_true rfl, Nat.le_of_ble_eq_true rfl⟩ 3 rfl (ci := 8) rfl rfl (Nat.le_of_ble_eq_true rfl) ⟨Nat.le_of_ble_eq_true rfl, Nat.le_of_ble_eq_true rfl⟩ dX4_sendRun_60 (fun u9 hu9 => ?_)
      clear hu9; clear u9
      show V 0 0 (CW cy a kd co mk al dz rd rw wo sa sz ps bt u8 (((L ++ bitsL (codC false (63 + n / 64)) ((lenC false (63 + n / 64)) : Int).toNat).length : Nat) : Int) dm pl re cu) [(4, vI (n % 64)), (3, .ref (a 3)), (0, .ref (a 7)), (1, vI n), (2, vI (b2i d))] [vI (codC false (n % 64)), .ref (a 6)] 63
      refine z_aload_n C dX4_sendRun_63 1 rfl ?_
      refine z_iload C dX4_sendRun_64 0 rfl ?_
      refine z_callV C (As := [vI (n % 64)]) (st := [vI (codC false (n % 64)), .ref (a 6)]) (c_X6_bitsOfW l D cy tw a kd co mk al dz rd rw wo sa sz ps bt u8 (((L ++ bitsL (codC false (63 + n / 64)) ((lenC false (63 + n / 64)) : Int).toNat).length : Nat) : Int) dm pl re cu (n % 64)  (by omega)) gX4_sendRun_X6_bitsOf kn_X6_bitsOf rfl ⟨rfl, rfl, Nat.le_of_ble_eq_true rfl, Nat.le_of_ble_eq_true rfl⟩ 3 rfl (ci := 8) rfl rfl (Nat.le_of_ble_eq_true rfl) ⟨Nat.le_of_ble_eq_true rfl, Nat.le_of_ble_eq_true rfl⟩ dX4_sendRun_66 (fun u10 hu10 => ?_)
      clear hu10; clear u10
      show V 0 0 (CW cy a kd co mk al dz rd rw wo sa sz ps bt u8 (((L ++ bitsL (codC false (63 + n / 64)) ((lenC false (63 + n / 64)) : Int).toNat).length : Nat) : Int) dm pl re cu) [(4, vI (n % 64)), (3, .ref (a 3)), (0, .ref (a 7)), (1, vI n), (2, vI (b2i d))] [vI (lenC false (n % 64)), vI (codC false (n % 64)), .ref (a 6)] 69
      refine z_callV C (As := [vI (codC false (n % 64)), vI (lenC false (n % 64))]) (st := []) (c_X1_sendL l D cy tw a kd co mk al dz rd rw wo sa sz ps bt u8 dm pl re cu (codC false (n % 64)) (lenC false (n % 64)) (L ++ bitsL (codC false (63 + n / 64)) ((lenC false (63 + n / 64)) : Int).toNat) (hu8) (by omega) (by omega) (by omega) (by (try simp only [List.length_append, bitsL_len]); omega) (cod_pw _ _)) gX4_sendRun_X1_send kn_X1_send rfl ⟨rfl, rfl, Nat.le_of_ble_eq_true rfl, Nat.le_of_ble_eq_true rfl⟩ 6 rfl (ci := 3) rfl rfl (Nat.le_of_ble_eq_true rfl) ⟨Nat.le_of_ble_eq_true rfl, Nat.le_of_ble_eq_true rfl⟩ dX4_sendRun_69 (fun u11 hu11 => ?_)
      show V 0 0 (CW cy a kd co mk al dz rd rw wo sa sz ps bt u11 ((((L ++ bitsL (codC false (63 + n / 64)) ((lenC false (63 + n / 64)) : Int).toNat) ++ bitsL (codC false (n % 64)) ((lenC false (n % 64)) : Int).toNat).length : Nat) : Int) dm pl re cu) [(4, vI (n % 64)), (3, .ref (a 3)), (0, .ref (a 7)), (1, vI n), (2, vI (b2i d))] [] 72
      refine z_vret C dX4_sendRun_72 u11 ?_ ?_ ?_ (by decide) (by decide)
      · exact rfl
      · have e : L ++ runB d n = ((L ++ bitsL (codC false (63 + n / 64)) ((lenC false (63 + n / 64)) : Int).toNat) ++ bitsL (codC false (n % 64)) ((lenC false (n % 64)) : Int).toNat) := by rw [cd, runB]; first | (rw [if_pos (by omega), ← List.append_assoc]; rfl) | (rw [if_neg (by omega)]; rfl)
        rw [e]; exact hu11
      · have e : L ++ runB d n = ((L ++ bitsL (codC false (63 + n / 64)) ((lenC false (63 + n / 64)) : Int).toNat) ++ bitsL (codC false (n % 64)) ((lenC false (n % 64)) : Int).toNat) := by rw [cd, runB]; first | (rw [if_pos (by omega), ← List.append_assoc]; rfl) | (rw [if_neg (by omega)]; rfl)
        rw [e]
  · have hl1 := lenC_rg true (63 + n / 64)
    have hl2 := lenC_rg true (n % 64)
    have hc1 := codC_rg true (63 + n / 64)
    have hc2 := codC_rg true (n % 64)
    rw [cd] at hlen hroom
    refine z_aload_n C dX4_sendRun_4 0 rfl ?_
    refine z_get C hinX4 (ci := 6) rfl 7 rfl 3 (by decide) k2 rfl (v := .ref (a 4)) rfl dX4_sendRun_5 ?_
    refine z_goto C (tgt := 15) dX4_sendRun_8 (by decide) ?_
    refine z_astore_n C (lv' := [(3, .ref (a 4)), (0, .ref (a 7)), (1, vI n), (2, vI (b2i d))]) dX4_sendRun_15 rfl (by decide) rfl ?_
    refine z_iload_n C dX4_sendRun_16 2 rfl ?_
    refine z_bipush C (z := 64) dX4_sendRun_17 (by decide) ?_
    refine z_icmp_lt C (by omega) (by decide) (tgt := 47) dX4_sendRun_19 (by decide) (fun hc_12 => ?_) (fun hc_12 => ?_)
    · rw [if_neg (by omega)] at hlen
      refine z_iload_n C dX4_sendRun_47 2 rfl ?_
      refine z_bipush C (z := 64) dX4_sendRun_48 (by decide) ?_
      refine z_irem C dX4_sendRun_50 (by omega) (by decide) ?_
      refine z_istore C (lv' := [(4, vI (n % 64)), (3, .ref (a 4)), (0, .ref (a 7)), (1, vI n), (2, vI (b2i d))]) dX4_sendRun_51 (by decide) rfl ?_
      refine z_aload_n C dX4_sendRun_53 2 rfl ?_
      refine z_get C hinX4 (ci := 6) rfl 7 rfl 4 (by decide) k1 rfl (v := .ref (a 6)) rfl dX4_sendRun_54 ?_
      refine z_aload_n C dX4_sendRun_57 1 rfl ?_
      refine z_iload C dX4_sendRun_58 0 rfl ?_
      refine z_callV C (As := [vI (n % 64)]) (st := [.ref (a 6)]) (c_X6_codeOfD l D cy tw a kd co mk al dz rd rw wo sa sz ps bt ou ((L.length : Nat) : Int) dm pl re cu (n % 64)  (by omega)) gX4_sendRun_X6_codeOf kn_X6_codeOf rfl ⟨rfl, rfl, Nat.le_of_ble_eq_true rfl, Nat.le_of_ble_eq_true rfl⟩ 4 rfl (ci := 8) rfl rfl (Nat.le_of_ble_eq_true rfl) ⟨Nat.le_of_ble_eq_true rfl, Nat.le_of_ble_eq_true rfl⟩ dX4_sendRun_60 (fun u13 hu13 => ?_)
      clear hu13; clear u13
      show V 0 0 (CW cy a kd co mk al dz rd rw wo sa sz ps bt ou ((L.length : Nat) : Int) dm pl re cu) [(4, vI (n % 64)), (3, .ref (a 4)), (0, .ref (a 7)), (1, vI n), (2, vI (b2i d))] [vI (codC true (n % 64)), .ref (a 6)] 63
      refine z_aload_n C dX4_sendRun_63 1 rfl ?_
      refine z_iload C dX4_sendRun_64 0 rfl ?_
      refine z_callV C (As := [vI (n % 64)]) (st := [vI (codC true (n % 64)), .ref (a 6)]) (c_X6_bitsOfD l D cy tw a kd co mk al dz rd rw wo sa sz ps bt ou ((L.length : Nat) : Int) dm pl re cu (n % 64)  (by omega)) gX4_sendRun_X6_bitsOf kn_X6_bitsOf rfl ⟨rfl, rfl, Nat.le_of_ble_eq_true rfl, Nat.le_of_ble_eq_true rfl⟩ 4 rfl (ci := 8) rfl rfl (Nat.le_of_ble_eq_true rfl) ⟨Nat.le_of_ble_eq_true rfl, Nat.le_of_ble_eq_true rfl⟩ dX4_sendRun_66 (fun u14 hu14 => ?_)
      clear hu14; clear u14
      show V 0 0 (CW cy a kd co mk al dz rd rw wo sa sz ps bt ou ((L.length : Nat) : Int) dm pl re cu) [(4, vI (n % 64)), (3, .ref (a 4)), (0, .ref (a 7)), (1, vI n), (2, vI (b2i d))] [vI (lenC true (n % 64)), vI (codC true (n % 64)), .ref (a 6)] 69
      refine z_callV C (As := [vI (codC true (n % 64)), vI (lenC true (n % 64))]) (st := []) (c_X1_sendL l D cy tw a kd co mk al dz rd rw wo sa sz ps bt ou dm pl re cu (codC true (n % 64)) (lenC true (n % 64)) L (hL) (by omega) (by omega) (by omega) (by (try simp only [List.length_append, bitsL_len]); omega) (cod_pw _ _)) gX4_sendRun_X1_send kn_X1_send rfl ⟨rfl, rfl, Nat.le_of_ble_eq_true rfl, Nat.le_of_ble_eq_true rfl⟩ 6 rfl (ci := 3) rfl rfl (Nat.le_of_ble_eq_true rfl) ⟨Nat.le_of_ble_eq_true rfl, Nat.le_of_ble_eq_true rfl⟩ dX4_sendRun_69 (fun u15 hu15 => ?_)
      show V 0 0 (CW cy a kd co mk al dz rd rw wo sa sz ps bt u15 (((L ++ bitsL (codC true (n % 64)) ((lenC true (n % 64)) : Int).toNat).length : Nat) : Int) dm pl re cu) [(4, vI (n % 64)), (3, .ref (a 4)), (0, .ref (a 7)), (1, vI n), (2, vI (b2i d))] [] 72
      refine z_vret C dX4_sendRun_72 u15 ?_ ?_ ?_ (by decide) (by decide)
      · exact rfl
      · have e : L ++ runB d n = (L ++ bitsL (codC true (n % 64)) ((lenC true (n % 64)) : Int).toNat) := by rw [cd, runB]; first | (rw [if_pos (by omega), ← List.append_assoc]; rfl) | (rw [if_neg (by omega)]; rfl)
        rw [e]; exact hu15
      · have e : L ++ runB d n = (L ++ bitsL (codC true (n % 64)) ((lenC true (n % 64)) : Int).toNat) := by rw [cd, runB]; first | (rw [if_pos (by omega), ← List.append_assoc]; rfl) | (rw [if_neg (by omega)]; rfl)
        rw [e]
    · rw [if_pos (by omega)] at hlen
      refine z_iload_n C dX4_sendRun_22 2 rfl ?_
      refine z_callS C (As := [vI n]) (st := []) (c_X6_slotOfMake l D cy tw a kd co mk al dz rd rw wo sa sz ps bt ou ((L.length : Nat) : Int) dm pl re cu n  (by omega)) gX4_sendRun_X6_slotOfMake kn_X6_slotOfMake ⟨rfl, rfl, Nat.le_of_ble_eq_true rfl, Nat.le_of_ble_eq_true rfl⟩ rfl (Nat.le_of_ble_eq_true rfl) ⟨Nat.le_of_ble_eq_true rfl, Nat.le_of_ble_eq_true rfl⟩ dX4_sendRun_23 (fun u16 hu16 => ?_)
      clear hu16; clear u16
      show V 0 0 (CW cy a kd co mk al dz rd rw wo sa sz ps bt ou ((L.length : Nat) : Int) dm pl re cu) [(3, .ref (a 4)), (0, .ref (a 7)), (1, vI n), (2, vI (b2i d))] [vI (63 + n / 64)] 26
      refine z_istore C (lv' := [(4, vI (63 + n / 64)), (3, .ref (a 4)), (0, .ref (a 7)), (1, vI n), (2, vI (b2i d))]) dX4_sendRun_26 (by decide) rfl ?_
      refine z_aload_n C dX4_sendRun_28 2 rfl ?_
      refine z_get C hinX4 (ci := 6) rfl 7 rfl 4 (by decide) k1 rfl (v := .ref (a 6)) rfl dX4_sendRun_29 ?_
      refine z_aload_n C dX4_sendRun_32 1 rfl ?_
      refine z_iload C dX4_sendRun_33 0 rfl ?_
      refine z_callV C (As := [vI (63 + n / 64)]) (st := [.ref (a 6)]) (c_X6_codeOfD l D cy tw a kd co mk al dz rd rw wo sa sz ps bt ou ((L.length : Nat) : Int) dm pl re cu (63 + n / 64)  (by omega)) gX4_sendRun_X6_codeOf kn_X6_codeOf rfl ⟨rfl, rfl, Nat.le_of_ble_eq_true rfl, Nat.le_of_ble_eq_true rfl⟩ 4 rfl (ci := 8) rfl rfl (Nat.le_of_ble_eq_true rfl) ⟨Nat.le_of_ble_eq_true rfl, Nat.le_of_ble_eq_true rfl⟩ dX4_sendRun_35 (fun u17 hu17 => ?_)
      clear hu17; clear u17
      show V 0 0 (CW cy a kd co mk al dz rd rw wo sa sz ps bt ou ((L.length : Nat) : Int) dm pl re cu) [(4, vI (63 + n / 64)), (3, .ref (a 4)), (0, .ref (a 7)), (1, vI n), (2, vI (b2i d))] [vI (codC true (63 + n / 64)), .ref (a 6)] 38
      refine z_aload_n C dX4_sendRun_38 1 rfl ?_
      refine z_iload C dX4_sendRun_39 0 rfl ?_
      refine z_callV C (As := [vI (63 + n / 64)]) (st := [vI (codC true (63 + n / 64)), .ref (a 6)]) (c_X6_bitsOfD l D cy tw a kd co mk al dz rd rw wo sa sz ps bt ou ((L.length : Nat) : Int) dm pl re cu (63 + n / 64)  (by omega)) gX4_sendRun_X6_bitsOf kn_X6_bitsOf rfl ⟨rfl, rfl, Nat.le_of_ble_eq_true rfl, Nat.le_of_ble_eq_true rfl⟩ 4 rfl (ci := 8) rfl rfl (Nat.le_of_ble_eq_true rfl) ⟨Nat.le_of_ble_eq_true rfl, Nat.le_of_ble_eq_true rfl⟩ dX4_sendRun_41 (fun u18 hu18 => ?_)
      clear hu18; clear u18
      show V 0 0 (CW cy a kd co mk al dz rd rw wo sa sz ps bt ou ((L.length : Nat) : Int) dm pl re cu) [(4, vI (63 + n / 64)), (3, .ref (a 4)), (0, .ref (a 7)), (1, vI n), (2, vI (b2i d))] [vI (lenC true (63 + n / 64)), vI (codC true (63 + n / 64)), .ref (a 6)] 44
      refine z_callV C (As := [vI (codC true (63 + n / 64)), vI (lenC true (63 + n / 64))]) (st := []) (c_X1_sendL l D cy tw a kd co mk al dz rd rw wo sa sz ps bt ou dm pl re cu (codC true (63 + n / 64)) (lenC true (63 + n / 64)) L (hL) (by omega) (by omega) (by omega) (by omega) (cod_pw _ _)) gX4_sendRun_X1_send kn_X1_send rfl ⟨rfl, rfl, Nat.le_of_ble_eq_true rfl, Nat.le_of_ble_eq_true rfl⟩ 6 rfl (ci := 3) rfl rfl (Nat.le_of_ble_eq_true rfl) ⟨Nat.le_of_ble_eq_true rfl, Nat.le_of_ble_eq_true rfl⟩ dX4_sendRun_44 (fun u19 hu19 => ?_)
      show V 0 0 (CW cy a kd co mk al dz rd rw wo sa sz ps bt u19 (((L ++ bitsL (codC true (63 + n / 64)) ((lenC true (63 + n / 64)) : Int).toNat).length : Nat) : Int) dm pl re cu) [(4, vI (63 + n / 64)), (3, .ref (a 4)), (0, .ref (a 7)), (1, vI n), (2, vI (b2i d))] [] 47
      refine z_iload_n C dX4_sendRun_47 3 rfl ?_
      refine z_bipush C (z := 64) dX4_sendRun_48 (by decide) ?_
      refine z_irem C dX4_sendRun_50 (by omega) (by decide) ?_
      refine z_istore C (lv' := [(4, vI (n % 64)), (3, .ref (a 4)), (0, .ref (a 7)), (1, vI n), (2, vI (b2i d))]) dX4_sendRun_51 (by decide) rfl ?_
      refine z_aload_n C dX4_sendRun_53 2 rfl ?_
      refine z_get C hinX4 (ci := 6) rfl 7 rfl 4 (by decide) k1 rfl (v := .ref (a 6)) rfl dX4_sendRun_54 ?_
      refine z_aload_n C dX4_sendRun_57 1 rfl ?_
      refine z_iload C dX4_sendRun_58 0 rfl ?_
      refine z_callV C (As := [vI (n % 64)]) (st := [.ref (a 6)]) (c_X6_codeOfD l D cy tw a kd co mk al dz rd rw wo sa sz ps bt u19 (((L ++ bitsL (codC true (63 + n / 64)) ((lenC true (63 + n / 64)) : Int).toNat).length : Nat) : Int) dm pl re cu (n % 64)  (by omega)) gX4_sendRun_X6_codeOf kn_X6_codeOf rfl ⟨rfl, rfl, Nat.le_of_ble_eq_true rfl, Nat.le_of_ble_eq_true rfl⟩ 4 rfl (ci := 8) rfl rfl (Nat.le_of_ble_eq_true rfl) ⟨Nat.le_of_ble_eq_true rfl, Nat.le_of_ble_eq_true rfl⟩ dX4_sendRun_60 (fun u20 hu20 => ?_)
      clear hu20; clear u20
      show V 0 0 (CW cy a kd co mk al dz rd rw wo sa sz ps bt u19 (((L ++ bitsL (codC true (63 + n / 64)) ((lenC true (63 + n / 64)) : Int).toNat).length : Nat) : Int) dm pl re cu) [(4, vI (n % 64)), (3, .ref (a 4)), (0, .ref (a 7)), (1, vI n), (2, vI (b2i d))] [vI (codC true (n % 64)), .ref (a 6)] 63
      refine z_aload_n C dX4_sendRun_63 1 rfl ?_
      refine z_iload C dX4_sendRun_64 0 rfl ?_
      refine z_callV C (As := [vI (n % 64)]) (st := [vI (codC true (n % 64)), .ref (a 6)]) (c_X6_bitsOfD l D cy tw a kd co mk al dz rd rw wo sa sz ps bt u19 (((L ++ bitsL (codC true (63 + n / 64)) ((lenC true (63 + n / 64)) : Int).toNat).length : Nat) : Int) dm pl re cu (n % 64)  (by omega)) gX4_sendRun_X6_bitsOf kn_X6_bitsOf rfl ⟨rfl, rfl, Nat.le_of_ble_eq_true rfl, Nat.le_of_ble_eq_true rfl⟩ 4 rfl (ci := 8) rfl rfl (Nat.le_of_ble_eq_true rfl) ⟨Nat.le_of_ble_eq_true rfl, Nat.le_of_ble_eq_true rfl⟩ dX4_sendRun_66 (fun u21 hu21 => ?_)
      clear hu21; clear u21
      show V 0 0 (CW cy a kd co mk al dz rd rw wo sa sz ps bt u19 (((L ++ bitsL (codC true (63 + n / 64)) ((lenC true (63 + n / 64)) : Int).toNat).length : Nat) : Int) dm pl re cu) [(4, vI (n % 64)), (3, .ref (a 4)), (0, .ref (a 7)), (1, vI n), (2, vI (b2i d))] [vI (lenC true (n % 64)), vI (codC true (n % 64)), .ref (a 6)] 69
      refine z_callV C (As := [vI (codC true (n % 64)), vI (lenC true (n % 64))]) (st := []) (c_X1_sendL l D cy tw a kd co mk al dz rd rw wo sa sz ps bt u19 dm pl re cu (codC true (n % 64)) (lenC true (n % 64)) (L ++ bitsL (codC true (63 + n / 64)) ((lenC true (63 + n / 64)) : Int).toNat) (hu19) (by omega) (by omega) (by omega) (by (try simp only [List.length_append, bitsL_len]); omega) (cod_pw _ _)) gX4_sendRun_X1_send kn_X1_send rfl ⟨rfl, rfl, Nat.le_of_ble_eq_true rfl, Nat.le_of_ble_eq_true rfl⟩ 6 rfl (ci := 3) rfl rfl (Nat.le_of_ble_eq_true rfl) ⟨Nat.le_of_ble_eq_true rfl, Nat.le_of_ble_eq_true rfl⟩ dX4_sendRun_69 (fun u22 hu22 => ?_)
      show V 0 0 (CW cy a kd co mk al dz rd rw wo sa sz ps bt u22 ((((L ++ bitsL (codC true (63 + n / 64)) ((lenC true (63 + n / 64)) : Int).toNat) ++ bitsL (codC true (n % 64)) ((lenC true (n % 64)) : Int).toNat).length : Nat) : Int) dm pl re cu) [(4, vI (n % 64)), (3, .ref (a 4)), (0, .ref (a 7)), (1, vI n), (2, vI (b2i d))] [] 72
      refine z_vret C dX4_sendRun_72 u22 ?_ ?_ ?_ (by decide) (by decide)
      · exact rfl
      · have e : L ++ runB d n = ((L ++ bitsL (codC true (63 + n / 64)) ((lenC true (63 + n / 64)) : Int).toNat) ++ bitsL (codC true (n % 64)) ((lenC true (n % 64)) : Int).toNat) := by rw [cd, runB]; first | (rw [if_pos (by omega), ← List.append_assoc]; rfl) | (rw [if_neg (by omega)]; rfl)
        rw [e]; exact hu22
      · have e : L ++ runB d n = ((L ++ bitsL (codC true (63 + n / 64)) ((lenC true (63 + n / 64)) : Int).toNat) ++ bitsL (codC true (n % 64)) ((lenC true (n % 64)) : Int).toNat) := by rw [cd, runB]; first | (rw [if_pos (by omega), ← List.append_assoc]; rfl) | (rw [if_neg (by omega)]; rfl)
        rw [e]
theorem alB_len (L : List Bool) (m : Int) : (alB L m).length ≤ 7 := by rw [alB, bitsL_len]; omega
theorem mkB_len (kd : Int) (pl : Bool) : (mkB kd pl).length = if kd = 1 then 13 else 12 := by
  rw [mkB, List.length_append, bitsL_len]
  split
  · rw [bitsL_len]
  · rfl
theorem kn_X4_sendStart : zKn yX4_sendStart wsX4_sendStart cX4_sendStart 2 (none) 1 := ⟨⟨_, rfl⟩, by decide +kernel, by decide +kernel, by decide +kernel⟩
set_option maxHeartbeats 400000 in
set_option maxRecDepth 100000 in
theorem c_X4_sendStart (l : Launch) (D : va_G) (cy : Nat → ClassId) (tw : Nat → Nat) (a : Nat → Nat) (kd : Int) (co : Int) (mk : Bool) (al : Bool) (dz : Bool) (rd : Bool) (rw : Int) (wo : Nat → BitVec 64) (sa : Nat → Int) (sz : Int) (ps : Int) (bt : Nat → Int) (ou : Nat → BitVec 64) (dm : Int) (pl : Bool) (re : Int) (cu : Bool) (w : Bool) (L : List Bool) (hL : OR ou L) (hco : 1 ≤ co ∧ co ≤ 700) (hk : 0 ≤ kd ∧ kd ≤ 2) (hroom : ((L.length : Nat) : Int) + 20 ≤ 8 * (on co : Int)) : zMet l yX4_sendStart wsX4_sendStart { frames := 2, cells := 0, slots := 0, locals := 48 } D (zT cy) tw (CW cy a kd co mk al dz rd rw wo sa sz ps bt ou ((L.length : Nat) : Int) dm pl re cu) [.ref (a 7), vI (b2i w)] 0 0 (S := Nat → BitVec 64) (fun _ => none) (fun u => CW cy a kd co mk al dz rd rw wo sa sz ps bt u (((L ++ stB kd mk al L w).length : Nat) : Int) dm pl re cu) (fun u => OR u (L ++ stB kd mk al L w)) := by
  refine z_met (cc := cX4_sendStart) (nL := 2) (ret := none) (by decide +kernel) rfl (Nat.le_of_ble_eq_true rfl) (lv := [(0, .ref (a 7)), (1, vI (b2i w))]) rfl ?_
  intro V p_ e_ s_ m_ args_ below_ meth_ c_ A_ C hmn
  have hinX4 : ∀ w ∈ u_ws RX4 TX4 5, w ∈ wsX4_sendStart := by decide +kernel
  have hinX5 : ∀ w ∈ u_ws RX5 TX5 5, w ∈ wsX4_sendStart := by decide +kernel
  have k0 : Cond.fieldLink RX4 9 "FaxFilter$Sender" "settings" "LFaxFilter$Settings;" ∈ wsX4_sendStart := List.mem_of_getElem? (i := 1) rfl
  have k1 : Cond.fieldLink RX4 64 "FaxFilter$Settings" "aligned" "Z" ∈ wsX4_sendStart := List.mem_of_getElem? (i := 2) rfl
  have k2 : Cond.fieldLink RX4 26 "FaxFilter$Sender" "out" "LFaxFilter$BitsOut;" ∈ wsX4_sendStart := List.mem_of_getElem? (i := 3) rfl
  have hon := on_eq hco.1
  have ha12 := alB_len L 12
  refine z_aload_n C dX4_sendStart_0 0 rfl ?_
  refine z_get C hinX4 (ci := 6) rfl 7 rfl 0 (by decide) k0 rfl (v := .ref (a 1)) rfl dX4_sendStart_1 ?_
  refine z_callV C (As := []) (st := []) (c_X5_hasMarks l D cy tw a kd co mk al dz rd rw wo sa sz ps bt ou ((L.length : Nat) : Int) dm pl re cu   (by omega)) gX4_sendStart_X5_hasMarks kn_X5_hasMarks rfl ⟨rfl, rfl, Nat.le_of_ble_eq_true rfl, Nat.le_of_ble_eq_true rfl⟩ 1 rfl (ci := 7) rfl rfl (Nat.le_of_ble_eq_true rfl) ⟨Nat.le_of_ble_eq_true rfl, Nat.le_of_ble_eq_true rfl⟩ dX4_sendStart_4 (fun u1 hu1 => ?_)
  clear hu1; clear u1
  show V 0 0 (CW cy a kd co mk al dz rd rw wo sa sz ps bt ou ((L.length : Nat) : Int) dm pl re cu) [(0, .ref (a 7)), (1, vI (b2i w))] [vI (b2i (hasMk kd mk))] 7
  refine z_ifnz C (tgt := 29) dX4_sendStart_7 (by decide) (fun cm => ?_) (fun cm => ?_)
  · refine z_aload_n C dX4_sendStart_29 0 rfl ?_
    refine z_get C hinX4 (ci := 6) rfl 7 rfl 0 (by decide) k0 rfl (v := .ref (a 1)) rfl dX4_sendStart_30 ?_
    refine z_get C hinX5 (ci := 7) rfl 1 rfl 2 (by decide) k1 rfl (v := vI (b2i al)) rfl dX4_sendStart_33 ?_
    refine z_ifz C (tgt := 48) dX4_sendStart_36 (by decide) (fun ca => ?_) (fun ca => ?_)
    · refine z_aload_n C dX4_sendStart_48 0 rfl ?_
      refine z_iload_n C dX4_sendStart_49 1 rfl ?_
      refine z_callV C (As := [vI (b2i w)]) (st := []) (c_X4_sendMark l D cy tw a kd co mk al dz rd rw wo sa sz ps bt ou dm pl re cu w L (hL) (by omega) (by omega) (by (try simp only [List.length_append]); omega)) gX4_sendStart_X4_sendMark kn_X4_sendMark rfl ⟨rfl, rfl, Nat.le_of_ble_eq_true rfl, Nat.le_of_ble_eq_true rfl⟩ 7 rfl (ci := 6) rfl rfl (Nat.le_of_ble_eq_true rfl) ⟨Nat.le_of_ble_eq_true rfl, Nat.le_of_ble_eq_true rfl⟩ dX4_sendStart_50 (fun u2 hu2 => ?_)
      show V 0 0 (CW cy a kd co mk al dz rd rw wo sa sz ps bt u2 (((L ++ mkB kd w).length : Nat) : Int) dm pl re cu) [(0, .ref (a 7)), (1, vI (b2i w))] [] 53
      refine z_vret C dX4_sendStart_53 u2 ?_ ?_ ?_ (by decide) (by decide)
      · exact rfl
      · have e : L ++ stB kd mk al L w = (L ++ mkB kd w) := by simp [stB, cm, ca]
        rw [e]; exact hu2
      · have e : L ++ stB kd mk al L w = (L ++ mkB kd w) := by simp [stB, cm, ca]
        rw [e]
    · refine z_aload_n C dX4_sendStart_39 0 rfl ?_
      refine z_get C hinX4 (ci := 6) rfl 7 rfl 4 (by decide) k2 rfl (v := .ref (a 6)) rfl dX4_sendStart_40 ?_
      refine z_bipush C (z := 12) dX4_sendStart_43 (by decide) ?_
      refine z_callV C (As := [vI 12]) (st := []) (c_X1_alignForL l D cy tw a kd co mk al dz rd rw wo sa sz ps bt ou dm pl re cu 12 L (hL) (by omega) (by omega) (by omega)) gX4_sendStart_X1_alignFor kn_X1_alignFor rfl ⟨rfl, rfl, Nat.le_of_ble_eq_true rfl, Nat.le_of_ble_eq_true rfl⟩ 6 rfl (ci := 3) rfl rfl (Nat.le_of_ble_eq_true rfl) ⟨Nat.le_of_ble_eq_true rfl, Nat.le_of_ble_eq_true rfl⟩ dX4_sendStart_45 (fun u3 hu3 => ?_)
      show V 0 0 (CW cy a kd co mk al dz rd rw wo sa sz ps bt u3 (((L ++ alB L 12).length : Nat) : Int) dm pl re cu) [(0, .ref (a 7)), (1, vI (b2i w))] [] 48
      refine z_aload_n C dX4_sendStart_48 0 rfl ?_
      refine z_iload_n C dX4_sendStart_49 1 rfl ?_
      refine z_callV C (As := [vI (b2i w)]) (st := []) (c_X4_sendMark l D cy tw a kd co mk al dz rd rw wo sa sz ps bt u3 dm pl re cu w (L ++ alB L 12) (hu3) (by omega) (by omega) (by (try simp only [List.length_append]); omega)) gX4_sendStart_X4_sendMark kn_X4_sendMark rfl ⟨rfl, rfl, Nat.le_of_ble_eq_true rfl, Nat.le_of_ble_eq_true rfl⟩ 7 rfl (ci := 6) rfl rfl (Nat.le_of_ble_eq_true rfl) ⟨Nat.le_of_ble_eq_true rfl, Nat.le_of_ble_eq_true rfl⟩ dX4_sendStart_50 (fun u4 hu4 => ?_)
      show V 0 0 (CW cy a kd co mk al dz rd rw wo sa sz ps bt u4 ((((L ++ alB L 12) ++ mkB kd w).length : Nat) : Int) dm pl re cu) [(0, .ref (a 7)), (1, vI (b2i w))] [] 53
      refine z_vret C dX4_sendStart_53 u4 ?_ ?_ ?_ (by decide) (by decide)
      · exact rfl
      · have e : L ++ stB kd mk al L w = ((L ++ alB L 12) ++ mkB kd w) := by simp [stB, cm, ca]
        rw [e]; exact hu4
      · have e : L ++ stB kd mk al L w = ((L ++ alB L 12) ++ mkB kd w) := by simp [stB, cm, ca]
        rw [e]
  · refine z_aload_n C dX4_sendStart_10 0 rfl ?_
    refine z_get C hinX4 (ci := 6) rfl 7 rfl 0 (by decide) k0 rfl (v := .ref (a 1)) rfl dX4_sendStart_11 ?_
    refine z_get C hinX5 (ci := 7) rfl 1 rfl 2 (by decide) k1 rfl (v := vI (b2i al)) rfl dX4_sendStart_14 ?_
    refine z_ifz C (tgt := 28) dX4_sendStart_17 (by decide) (fun ca => ?_) (fun ca => ?_)
    · refine z_vret C dX4_sendStart_28 ou ?_ ?_ ?_ (by decide) (by decide)
      · exact rfl
      · have e : L ++ stB kd mk al L w = L := by simp [stB, cm, ca]
        rw [e]; exact hL
      · have e : L ++ stB kd mk al L w = L := by simp [stB, cm, ca]
        rw [e]
    · refine z_aload_n C dX4_sendStart_20 0 rfl ?_
      refine z_get C hinX4 (ci := 6) rfl 7 rfl 4 (by decide) k2 rfl (v := .ref (a 6)) rfl dX4_sendStart_21 ?_
      refine z_iconst C (z := 0) dX4_sendStart_24 ?_
      refine z_callV C (As := [vI 0]) (st := []) (c_X1_alignForL l D cy tw a kd co mk al dz rd rw wo sa sz ps bt ou dm pl re cu 0 L (hL) (by omega) (by omega) (by omega)) gX4_sendStart_X1_alignFor kn_X1_alignFor rfl ⟨rfl, rfl, Nat.le_of_ble_eq_true rfl, Nat.le_of_ble_eq_true rfl⟩ 6 rfl (ci := 3) rfl rfl (Nat.le_of_ble_eq_true rfl) ⟨Nat.le_of_ble_eq_true rfl, Nat.le_of_ble_eq_true rfl⟩ dX4_sendStart_25 (fun u5 hu5 => ?_)
      show V 0 0 (CW cy a kd co mk al dz rd rw wo sa sz ps bt u5 (((L ++ alB L 0).length : Nat) : Int) dm pl re cu) [(0, .ref (a 7)), (1, vI (b2i w))] [] 28
      refine z_vret C dX4_sendStart_28 u5 ?_ ?_ ?_ (by decide) (by decide)
      · exact rfl
      · have e : L ++ stB kd mk al L w = (L ++ alB L 0) := by simp [stB, cm, ca]
        rw [e]; exact hu5
      · have e : L ++ stB kd mk al L w = (L ++ alB L 0) := by simp [stB, cm, ca]
        rw [e]
theorem kn_X4_sendPlain : zKn yX4_sendPlain wsX4_sendPlain cX4_sendPlain 6 (none) 1 := ⟨⟨_, rfl⟩, by decide +kernel, by decide +kernel, by decide +kernel⟩
set_option maxHeartbeats 400000 in
set_option maxRecDepth 100000 in
theorem c_X4_sendPlain (l : Launch) (D : va_G) (cy : Nat → ClassId) (tw : Nat → Nat) (a : Nat → Nat) (kd : Int) (co : Int) (mk : Bool) (al : Bool) (dz : Bool) (rd : Bool) (rw : Int) (wo : Nat → BitVec 64) (sa : Nat → Int) (sz : Int) (ps : Int) (bt : Nat → Int) (ou : Nat → BitVec 64) (dm : Int) (pl : Bool) (re : Int) (cu : Bool) (r : Int) (L : List Bool) (hL : OR ou L) (hco : 1 ≤ co ∧ co ≤ 700) (hr : -50 ≤ r ∧ r ≤ 50) (hroom : (((L ++ plB (px wo co r) co (co + 1).toNat 0 false).length : Nat) : Int) ≤ 8 * (on co : Int)) : zMet l yX4_sendPlain wsX4_sendPlain { frames := 3, cells := 0, slots := 0, locals := 75 } D (zT cy) tw (CW cy a kd co mk al dz rd rw wo sa sz ps bt ou ((L.length : Nat) : Int) dm pl re cu) [.ref (a 7), vI r] 0 0 (S := Nat → BitVec 64) (fun _ => none) (fun u => CW cy a kd co mk al dz rd rw wo sa sz ps bt u (((L ++ plB (px wo co r) co (co + 1).toNat 0 false).length : Nat) : Int) dm pl re cu) (fun u => OR u (L ++ plB (px wo co r) co (co + 1).toNat 0 false)) := by
  refine z_met (cc := cX4_sendPlain) (nL := 6) (ret := none) (by decide +kernel) rfl (Nat.le_of_ble_eq_true rfl) (lv := [(0, .ref (a 7)), (1, vI r)]) rfl ?_
  intro V p_ e_ s_ m_ args_ below_ meth_ c_ A_ C hmn
  have hinX2 : ∀ w ∈ u_ws RX2 TX2 5, w ∈ wsX4_sendPlain := by decide +kernel
  have hinX4 : ∀ w ∈ u_ws RX4 TX4 5, w ∈ wsX4_sendPlain := by decide +kernel
  have k0 : Cond.fieldLink RX4 15 "FaxFilter$Sender" "picture" "LFaxFilter$Picture;" ∈ wsX4_sendPlain := List.mem_of_getElem? (i := 1) rfl
  have k1 : Cond.fieldLink RX4 78 "FaxFilter$Picture" "columns" "I" ∈ wsX4_sendPlain := List.mem_of_getElem? (i := 2) rfl
  have hon := on_eq hco.1
  refine z_iconst C (z := 0) dX4_sendPlain_0 ?_
  refine z_istore_n C (lv' := [(2, vI 0), (0, .ref (a 7)), (1, vI r)]) dX4_sendPlain_1 rfl (by decide) rfl ?_
  refine z_iconst C (z := 0) dX4_sendPlain_2 ?_
  refine z_istore_n C (lv' := [(3, vI 0), (2, vI 0), (0, .ref (a 7)), (1, vI r)]) dX4_sendPlain_3 rfl (by decide) rfl ?_
  refine z_iconst C (z := 0) dX4_sendPlain_4 ?_
  refine z_istore C (lv' := [(4, vI 0), (3, vI 0), (2, vI 0), (0, .ref (a 7)), (1, vI r)]) dX4_sendPlain_5 (by decide) rfl ?_
  have J7 : ∀ (f : Nat) (x : Int) (d : Bool) (k : Int) (o : Nat → BitVec 64) (M : List Bool), (0 ≤ k ∧ k ≤ co + 1) → (0 ≤ x ∧ x ≤ co) → (OR o M) → (L ++ plB (px wo co r) co (co + 1).toNat 0 false = M ++ plB (px wo co r) co (co + 1 - k).toNat x d) → (co + 1 - k).toNat < f → V 0 0 (CW cy a kd co mk al dz rd rw wo sa sz ps bt o ((M.length : Nat) : Int) dm pl re cu) [(0, .ref (a 7)), (1, vI r), (2, vI x), (3, vI (b2i d)), (4, vI k)] [] 7 := by
    intro f
    induction f with
    | zero => intro x d k o M i0 i1 hM i2 hf; exact absurd hf (Nat.not_lt_zero _)
    | succ f ih =>
      intro x d k o M i0 i1 hM i2 hf
      refine z_iload_n C dX4_sendPlain_7 2 rfl ?_
      refine z_aload_n C dX4_sendPlain_8 0 rfl ?_
      refine z_get C hinX4 (ci := 6) rfl 7 rfl 1 (by decide) k0 rfl (v := .ref (a 2)) rfl dX4_sendPlain_9 ?_
      refine z_get C hinX2 (ci := 4) rfl 2 rfl 0 (by decide) k1 rfl (v := vI co) rfl dX4_sendPlain_12 ?_
      refine z_icmp_ge C (by omega) (by omega) (tgt := 78) dX4_sendPlain_15 (by decide) (fun hc_1 => ?_) (fun hc_1 => ?_)
      · refine z_vret C dX4_sendPlain_78 o ?_ ?_ ?_ (by decide) (by decide)
        · exact rfl
        · have e : L ++ plB (px wo co r) co (co + 1).toNat 0 false = M := by rw [i2, plB_ge _ (by omega), List.append_nil]
          rw [e]; exact hM
        · have e : L ++ plB (px wo co r) co (co + 1).toNat 0 false = M := by rw [i2, plB_ge _ (by omega), List.append_nil]
          rw [e]
      · refine z_iload C dX4_sendPlain_18 4 rfl ?_
        refine z_aload_n C dX4_sendPlain_20 0 rfl ?_
        refine z_get C hinX4 (ci := 6) rfl 7 rfl 1 (by decide) k0 rfl (v := .ref (a 2)) rfl dX4_sendPlain_21 ?_
        refine z_get C hinX2 (ci := 4) rfl 2 rfl 0 (by decide) k1 rfl (v := vI co) rfl dX4_sendPlain_24 ?_
        refine z_icmp_gt C (by omega) (by omega) (tgt := 78) dX4_sendPlain_27 (by decide) (fun hc_2 => ?_) (fun hc_2 => ?_)
        · refine z_vret C dX4_sendPlain_78 o ?_ ?_ ?_ (by decide) (by decide)
          · exact rfl
          · have e : L ++ plB (px wo co r) co (co + 1).toNat 0 false = M := by rw [i2, show (co + 1 - k).toNat = 0 by omega, plB, List.append_nil]
            rw [e]; exact hM
          · have e : L ++ plB (px wo co r) co (co + 1).toNat 0 false = M := by rw [i2, show (co + 1 - k).toNat = 0 by omega, plB, List.append_nil]
            rw [e]
        · refine z_aload_n C dX4_sendPlain_30 0 rfl ?_
          refine z_get C hinX4 (ci := 6) rfl 7 rfl 1 (by decide) k0 rfl (v := .ref (a 2)) rfl dX4_sendPlain_31 ?_
          refine z_iload_n C dX4_sendPlain_34 1 rfl ?_
          refine z_iload_n C dX4_sendPlain_35 2 rfl ?_
          refine z_iload_n C dX4_sendPlain_36 3 rfl ?_
          refine z_not C dX4_sendPlain_37 dX4_sendPlain_40 dX4_sendPlain_41 dX4_sendPlain_44 ?_
          refine z_callV C (As := [vI r, vI x, vI (b2i (!d))]) (st := []) (c_X2_nextOf l D cy tw a kd co mk al dz rd rw wo sa sz ps bt o ((M.length : Nat) : Int) dm pl re cu r x (!d)  (by omega) (by omega) (by omega)) gX4_sendPlain_X2_nextOf kn_X2_nextOf rfl ⟨rfl, rfl, Nat.le_of_ble_eq_true rfl, Nat.le_of_ble_eq_true rfl⟩ 2 rfl (ci := 4) rfl rfl (Nat.le_of_ble_eq_true rfl) ⟨Nat.le_of_ble_eq_true rfl, Nat.le_of_ble_eq_true rfl⟩ dX4_sendPlain_45 (fun u3 hu3 => ?_)
          clear hu3; clear u3
          show V 0 0 (CW cy a kd co mk al dz rd rw wo sa sz ps bt o ((M.length : Nat) : Int) dm pl re cu) [(0, .ref (a 7)), (1, vI r), (2, vI x), (3, vI (b2i d)), (4, vI k)] [vI (nxt (px wo co r) co x (!d))] 48
          have hh := nxt_rg (px wo co r) co x (!d)
          refine z_istore C (lv' := [(5, vI (nxt (px wo co r) co x (!d))), (0, .ref (a 7)), (1, vI r), (2, vI x), (3, vI (b2i d)), (4, vI k)]) dX4_sendPlain_48 (by decide) rfl ?_
          refine z_aload_n C dX4_sendPlain_50 1 rfl ?_
          refine z_iload C dX4_sendPlain_51 0 rfl ?_
          refine z_iload_n C dX4_sendPlain_53 3 rfl ?_
          refine z_isub C dX4_sendPlain_54 ?_
          refine z_iload_n C dX4_sendPlain_55 4 rfl ?_
          refine z_callV C (As := [vI ((nxt (px wo co r) co x (!d)) - x), vI (b2i d)]) (st := []) (c_X4_sendRun l D cy tw a kd co mk al dz rd rw wo sa sz ps bt o dm pl re cu ((nxt (px wo co r) co x (!d)) - x) d M (hM) (by omega) (by omega) (by have q := congrArg List.length i2; rw [show (co + 1 - k).toNat = (co + 1 - (k + 1)).toNat + 1 by omega, plB, if_pos (by omega)] at q; simp only [List.length_append] at *; omega)) gX4_sendPlain_X4_sendRun kn_X4_sendRun rfl ⟨rfl, rfl, Nat.le_of_ble_eq_true rfl, Nat.le_of_ble_eq_true rfl⟩ 7 rfl (ci := 6) rfl rfl (Nat.le_of_ble_eq_true rfl) ⟨Nat.le_of_ble_eq_true rfl, Nat.le_of_ble_eq_true rfl⟩ dX4_sendPlain_56 (fun u4 hu4 => ?_)
          show V 0 0 (CW cy a kd co mk al dz rd rw wo sa sz ps bt u4 (((M ++ runB d ((nxt (px wo co r) co x (!d)) - x)).length : Nat) : Int) dm pl re cu) [(5, vI (nxt (px wo co r) co x (!d))), (0, .ref (a 7)), (1, vI r), (2, vI x), (3, vI (b2i d)), (4, vI k)] [] 59
          refine z_iload C dX4_sendPlain_59 0 rfl ?_
          refine z_istore_n C (lv' := [(2, vI (nxt (px wo co r) co x (!d))), (5, vI (nxt (px wo co r) co x (!d))), (0, .ref (a 7)), (1, vI r), (3, vI (b2i d)), (4, vI k)]) dX4_sendPlain_61 rfl (by decide) rfl ?_
          refine z_iload_n C dX4_sendPlain_62 4 rfl ?_
          refine z_not C dX4_sendPlain_63 dX4_sendPlain_66 dX4_sendPlain_67 dX4_sendPlain_70 ?_
          refine z_istore_n C (lv' := [(3, vI (b2i (!d))), (2, vI (nxt (px wo co r) co x (!d))), (5, vI (nxt (px wo co r) co x (!d))), (0, .ref (a 7)), (1, vI r), (4, vI k)]) dX4_sendPlain_71 rfl (by decide) rfl ?_
          refine z_iinc C (lv' := [(4, vI (k + 1)), (3, vI (b2i (!d))), (2, vI (nxt (px wo co r) co x (!d))), (5, vI (nxt (px wo co r) co x (!d))), (0, .ref (a 7)), (1, vI r)]) dX4_sendPlain_72 5 rfl (by decide) rfl ?_
          refine z_goto C (tgt := 7) dX4_sendPlain_75 (by decide) ?_
          refine z_lsub C [4, 5, 2, 1, 0] rfl ?_
          exact ih (nxt (px wo co r) co x (!d)) (!d) (k + 1) u4 (M ++ runB d ((nxt (px wo co r) co x (!d)) - x)) (by omega) (by omega) (hu4) (by rw [i2, show (co + 1 - k).toNat = (co + 1 - (k + 1)).toNat + 1 by omega, plB, if_pos (by omega), List.append_assoc]) (by omega)
  refine z_lsub C [3, 4, 2, 1, 0] rfl ?_
  exact J7 _ 0 false 0 ou L (by omega) (by omega) (hL) (by simp) (Nat.lt_succ_self _)
def repM (kd : Int) : Nat → List Bool
  | 0 => []
  | n + 1 => mkB kd true ++ repM kd n
theorem repM_s (kd : Int) : ∀ n, repM kd (n + 1) = repM kd n ++ mkB kd true
  | 0 => by simp [repM]
  | n + 1 => by rw [repM, repM_s kd n, ← List.append_assoc, show mkB kd true ++ repM kd n = repM kd (n + 1) from rfl, repM_s kd n]
theorem repM_len (kd : Int) : ∀ n, (repM kd n).length = n * (if kd = 1 then 13 else 12)
  | 0 => by rw [Nat.zero_mul]; rfl
  | n + 1 => by rw [repM, List.length_append, repM_len kd n, mkB_len, Nat.succ_mul, Nat.add_comm]
def en1 (kd : Int) (al : Bool) (L : List Bool) : List Bool := L ++ (if decide (kd = 2) && al then alB L 0 else [])
def en2 (kd : Int) (mk al : Bool) (L : List Bool) : List Bool := en1 kd al L ++ repM kd (if hasMk kd mk then 6 else if kd = 2 then 2 else 0)
def enB (kd : Int) (mk al : Bool) (L : List Bool) : List Bool := en2 kd mk al L ++ alB (en2 kd mk al L) 0
