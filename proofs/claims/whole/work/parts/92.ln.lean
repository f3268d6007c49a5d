/-! pure: where class and reference say the same in other words -/
def cF (g : Int → Bool) (N x : Int) : Int := if x < N then b2i (chg g x) + cF g N (x + 1) else 0
termination_by (N - x).toNat
decreasing_by omega
theorem cF_lt {g : Int → Bool} {N x : Int} (h : x < N) : cF g N x = b2i (chg g x) + cF g N (x + 1) := by rw [cF, if_pos h]
theorem cF_ge {g : Int → Bool} {N x : Int} (h : N ≤ x) : cF g N x = 0 := by rw [cF, if_neg (by omega)]
theorem cF_rg (g : Int → Bool) (N x : Int) : 0 ≤ cF g N x := by
  rcases Int.lt_or_le x N with h | h
  · rw [cF_lt h]
    have := b2i_01 (chg g x)
    have := cF_rg g N (x + 1)
    omega
  · rw [cF_ge h]; exact Int.le_refl 0
termination_by (N - x).toNat
decreasing_by omega
theorem cF_cnt (g : Int → Bool) (N : Int) : ∀ n : Nat, (n : Int) ≤ N → cntC g n + cF g N n = cF g N 0
  | 0, h => by rw [cntC, Int.zero_add]; rfl
  | n + 1, h => by
    have ih := cF_cnt g N n (by omega)
    rw [cF_lt (x := (n : Int)) (by omega)] at ih
    rw [cntC, show ((n + 1 : Nat) : Int) = (n : Int) + 1 by omega]
    omega
theorem cnt_cF (g : Int → Bool) {N : Int} (h : 0 ≤ N) : cntC g N.toNat = cF g N 0 := by
  have h1 := cF_cnt g N N.toNat (by omega)
  rw [show ((N.toNat : Nat) : Int) = N by omega, cF_ge (Int.le_refl N)] at h1
  omega
theorem chg_d {g : Int → Bool} {x : Int} {d : Bool} (h0 : g (x - 1) = d) (h1 : g x = d) : chg g x = false := by
  rw [chg, h0, h1]; simp
theorem chg_n {g : Int → Bool} {x : Int} {d : Bool} (h0 : g (x - 1) = d) (h1 : g x = !d) : chg g x = true := by
  rw [chg, h0, h1]; cases d <;> rfl
theorem not_of {a d : Bool} (h : ¬ a = !d) : a = d := by cases a <;> cases d <;> first | rfl | exact absurd rfl h
theorem cF_nx (g : Int → Bool) (N : Int) (d : Bool) (z : Int) (h : g (z - 1) = d) : cF g N z = if nxt g N z (!d) < N then 1 + cF g N (nxt g N z (!d) + 1) else 0 := by
  rcases Int.lt_or_le z N with h1 | h1
  · by_cases hf : g z = !d
    · rw [nxt_at h1 hf, if_pos h1, cF_lt h1, chg_n h hf]; rfl
    · have hd := not_of hf
      rw [nxt_ne h1 hf, cF_lt h1, chg_d h hd, cF_nx g N d (z + 1) (by rw [show z + 1 - 1 = z by omega]; exact hd)]
      rw [b2i_f, Int.zero_add]
  · rw [nxt_ge h1, if_neg (by omega), cF_ge h1]
termination_by (N - z).toNat
decreasing_by omega
theorem nxt_hit {g : Int → Bool} {N z : Int} {d : Bool} (h : nxt g N z d < N) : g (nxt g N z d) = d := nxt_eq h
theorem crun_cF (g : Int → Bool) (N : Int) : ∀ (n : Nat) (x z : Int) (d : Bool), x < N → z ≤ N → g (z - 1) = d → nxt g N x (!d) = nxt g N z (!d) → N - z + 1 ≤ n → crun g N n x d = 1 + cF g N z
  | 0, x, z, d, hx, hz, h1, h2, h3 => by omega
  | n + 1, x, z, d, hx, hz, h1, h2, h3 => by
    have hr := nxt_rg g N z (!d)
    have hy := hr.2 hz
    rw [crun, if_pos hx, h2, cF_nx g N d z h1]
    by_cases hl : nxt g N z (!d) < N
    · have hh := nxt_hit hl
      rw [if_pos hl]
      generalize nxt g N z (!d) = y at *
      rw [crun_cF g N n y (y + 1) (!d) hl (by omega) (by rw [show y + 1 - 1 = y by omega]; exact hh) (by rw [nxt_ne hl (by rw [hh]; cases d <;> decide)]) (by omega)]
    · rw [if_neg hl, crun_ge n (by omega)]
theorem crun_cnt {g : Int → Bool} {N : Int} (hN : 1 ≤ N) (h0 : g (-1) = false) : crun g N (N + 1).toNat 0 false = 1 + cntC g N.toNat := by
  rw [cnt_cF g (by omega)]
  exact crun_cF g N _ 0 0 false (by omega) (by omega) h0 rfl (by omega)
def lF (g : Int → Bool) (N i c x : Int) : Int := if x < N then b2i (decide (c + b2i (chg g x) = i)) + lF g N i (c + b2i (chg g x)) (x + 1) else 0
termination_by (N - x).toNat
decreasing_by omega
theorem lF_lt {g : Int → Bool} {N i c x : Int} (h : x < N) : lF g N i c x = b2i (decide (c + b2i (chg g x) = i)) + lF g N i (c + b2i (chg g x)) (x + 1) := by rw [lF, if_pos h]
theorem lF_ge {g : Int → Bool} {N i c x : Int} (h : N ≤ x) : lF g N i c x = 0 := by rw [lF, if_neg (by omega)]
theorem lF_0 (g : Int → Bool) (N i c x : Int) (h : i < c) : lF g N i c x = 0 := by
  rcases Int.lt_or_le x N with h1 | h1
  · have h2 := b2i_01 (chg g x)
    rw [lF_lt h1, decide_eq_false (by omega), b2i_f, Int.zero_add]
    exact lF_0 g N i _ (x + 1) (by omega)
  · exact lF_ge h1
termination_by (N - x).toNat
decreasing_by omega
theorem lF_rg (g : Int → Bool) (N i c x : Int) : 0 ≤ lF g N i c x ∧ (x ≤ N → lF g N i c x ≤ N - x) := by
  rcases Int.lt_or_le x N with h1 | h1
  · have h2 := b2i_01 (decide (c + b2i (chg g x) = i))
    have h3 := lF_rg g N i (c + b2i (chg g x)) (x + 1)
    rw [lF_lt h1]
    omega
  · rw [lF_ge h1]; omega
termination_by (N - x).toNat
decreasing_by omega
theorem lF_ln (g : Int → Bool) (N i : Int) : ∀ n : Nat, (n : Int) ≤ N → lnC g i n + lF g N i (cntC g n) n = lF g N i 0 0
  | 0, h => by rw [lnC, cntC, Int.zero_add]; rfl
  | n + 1, h => by
    have ih := lF_ln g N i n (by omega)
    rw [lF_lt (x := (n : Int)) (by omega)] at ih
    rw [lnC, show ((n + 1 : Nat) : Int) = (n : Int) + 1 by omega, cntC]
    omega
theorem ln_lF (g : Int → Bool) {N : Int} (i : Int) (h : 0 ≤ N) : lnC g i N.toNat = lF g N i 0 0 := by
  have h1 := lF_ln g N i N.toNat (by omega)
  rw [show ((N.toNat : Nat) : Int) = N by omega, lF_ge (Int.le_refl N)] at h1
  omega
theorem lF_nx (g : Int → Bool) (N i : Int) (d : Bool) (c z : Int) (hz : z ≤ N) (h : g (z - 1) = d) : lF g N i c z = (if c = i then nxt g N z (!d) - z else 0) + (if nxt g N z (!d) < N then (if c + 1 = i then 1 else 0) + lF g N i (c + 1) (nxt g N z (!d) + 1) else 0) := by
  rcases Int.lt_or_le z N with h1 | h1
  · by_cases hf : g z = !d
    · rw [nxt_at h1 hf, if_pos h1, lF_lt h1, chg_n h hf, b2i_t, dec_b2i, Int.sub_self]
      split <;> omega
    · have hd := not_of hf
      rw [nxt_ne h1 hf, lF_lt h1, chg_d h hd, b2i_f, Int.add_zero, dec_b2i, lF_nx g N i d c (z + 1) (by omega) (by rw [show z + 1 - 1 = z by omega]; exact hd)]
      split <;> omega
  · have e : z = N := by omega
    rw [nxt_ge h1, lF_ge h1, e, Int.sub_self, if_neg (Int.lt_irrefl N)]
    split <;> rfl
termination_by (N - z).toNat
decreasing_by omega
theorem lrun_lF (g : Int → Bool) (N i : Int) : ∀ (n : Nat) (r x z : Int) (d : Bool), x < N → z ≤ N → g (z - 1) = d → nxt g N x (!d) = nxt g N z (!d) → N - z + 1 ≤ n → lrun g N i n r x d = if r ≤ i ∧ i ≤ r + cF g N z then (if r = i then z - x else 0) + lF g N i r z else -2
  | 0, r, x, z, d, hx, hz, h1, h2, h3 => by omega
  | n + 1, r, x, z, d, hx, hz, h1, h2, h3 => by
    have hr := nxt_rg g N z (!d)
    have hy := hr.2 hz
    have hc := cF_rg g N z
    rw [lrun, if_pos hx, h2]
    have hcn := cF_nx g N d z h1
    have hln := lF_nx g N i d r z hz h1
    by_cases hri : r = i
    · rw [if_pos hri, if_pos (by omega), if_pos hri, hln, if_pos hri]
      by_cases hl : nxt g N z (!d) < N
      · rw [if_pos hl, if_neg (by omega), lF_0 g N i (r + 1) _ (by omega)]; omega
      · rw [if_neg hl]; omega
    · rw [if_neg hri]
      rw [if_neg hri] at hln
      by_cases hl : nxt g N z (!d) < N
      · have hh := nxt_hit hl
        rw [if_pos hl] at hcn hln
        generalize nxt g N z (!d) = y at *
        rw [lrun_lF g N i n (r + 1) y (y + 1) (!d) hl (by omega) (by rw [show y + 1 - 1 = y by omega]; exact hh) (by rw [nxt_ne hl (by rw [hh]; cases d <;> decide)]) (by omega)]
        by_cases hq : r ≤ i ∧ i ≤ r + cF g N z
        · rw [if_pos hq, if_pos (by omega), if_neg hri, hln, show y + 1 - y = 1 by omega]; omega
        · rw [if_neg hq, if_neg (by omega)]
      · rw [if_neg hl] at hcn
        rw [lrun_ge n (by omega), if_neg (by omega)]
theorem lrun_ln {g : Int → Bool} {N : Int} (i : Int) (hN : 1 ≤ N) (h0 : g (-1) = false) : lrun g N i (N + 1).toNat 0 0 false = if 0 ≤ i ∧ i < 1 + cntC g N.toNat then lnC g i N.toNat else -2 := by
  rw [cnt_cF g (by omega), ln_lF g i (by omega), lrun_lF g N i _ 0 0 0 false (by omega) (by omega) h0 rfl (by omega)]
  by_cases h : 0 ≤ i ∧ i < 1 + cF g N 0
  · rw [if_pos h, if_pos (by omega)]; split <;> omega
  · rw [if_neg h, if_neg (by omega)]
theorem lnC_le (g : Int → Bool) (i : Int) (n : Nat) : 0 ≤ lnC g i n ∧ lnC g i n ≤ n := lnC_rg g i n
theorem chg_cg {g h : Int → Bool} {x N : Int} (hh : ∀ j, j < N → g j = h j) (hx : x < N) : chg g x = chg h x := by
  rw [chg, chg, hh x hx, hh (x - 1) (by omega)]
theorem cntC_cg {g h : Int → Bool} {N : Int} (hh : ∀ j, j < N → g j = h j) : ∀ n : Nat, (n : Int) ≤ N → cntC g n = cntC h n
  | 0, _ => rfl
  | n + 1, hn => by rw [cntC, cntC, cntC_cg hh n (by omega), chg_cg hh (by omega)]
theorem lnC_cg {g h : Int → Bool} {N : Int} (i : Int) (hh : ∀ j, j < N → g j = h j) : ∀ n : Nat, (n : Int) ≤ N → lnC g i n = lnC h i n
  | 0, _ => rfl
  | n + 1, hn => by rw [lnC, lnC, lnC_cg i hh n (by omega), cntC_cg hh (n + 1) hn]
theorem plB_cg {g h : Int → Bool} {N : Int} (hh : ∀ j, j < N → g j = h j) : ∀ (n : Nat) (x : Int) (d : Bool), plB g N n x d = plB h N n x d
  | 0, _, _ => rfl
  | n + 1, x, d => by rw [plB, plB, nxt_cg hh x (!d), plB_cg hh n]
theorem drB_cg {g h a c : Int → Bool} {N : Int} (hh : ∀ j, j < N → g j = h j) (ha : ∀ j, j < N → a j = c j) : ∀ (n : Nat) (x : Int) (d fi : Bool), drB g a N n x d fi = drB h c N n x d fi
  | 0, _, _, _ => rfl
  | n + 1, x, d, fi => by
    rw [drB, drB]
    rcases Int.lt_or_le x N with hx | hx
    · rw [if_pos hx, if_pos hx, chC_cg ha (x := if fi then x else x + 1) (by split <;> omega) (!d), nxt_cg ha _ d, nxt_cg hh x (!d), nxt_cg hh _ d]
      simp only [drB_cg hh ha n]
    · rw [if_neg (by omega), if_neg (by omega)]
theorem encR_cg (kd : Int) (mk al : Bool) {co : Int} {P P' : Int → Int → Bool} {rw : Int} (hP : ∀ r j, -1 ≤ r → r < rw → j < co → P r j = P' r j) : ∀ n : Nat, (n : Int) ≤ rw → encR kd mk al co P n = encR kd mk al co P' n
  | 0, _ => rfl
  | n + 1, hn => by
    have e : bodyB kd co P n = bodyB kd co P' n := by
      unfold bodyB
      rw [plB_cg (fun j hj => hP n j (by omega) (by omega) hj), drB_cg (fun j hj => hP n j (by omega) (by omega) hj) (fun j hj => hP ((n : Int) - 1) j (by omega) (by omega) hj)]
    rw [encR, encR, encR_cg kd mk al hP n (by omega), e]
theorem encA_cg (kd : Int) (mk al : Bool) {co : Int} {P P' : Int → Int → Bool} {rw : Int} (h0 : 0 ≤ rw) (hP : ∀ r j, -1 ≤ r → r < rw → j < co → P r j = P' r j) : encA kd mk al co P rw = encA kd mk al co P' rw := by
  unfold encA
  rw [encR_cg kd mk al hP rw.toNat (by omega)]
theorem b2i_tb (m k : Nat) : b2i (m.testBit k) = ((m / 2 ^ k % 2 : Nat) : Int) := by
  rw [Nat.testBit_eq_decide_div_mod_eq, b2i]
  by_cases h : m / 2 ^ k % 2 = 1
  · rw [decide_eq_true h, if_pos rfl, h]; rfl
  · rw [decide_eq_false h, if_neg (by decide), show m / 2 ^ k % 2 = 0 by omega]; rfl
theorem byte_bits (x : BitVec 64) {s : Nat} (hs : s ≤ 56) : (x >>> s).toInt % 2 ^ 8 = b2i (x.getMsbD (56 - s)) * 128 + b2i (x.getMsbD (56 - s + 1)) * 64 + b2i (x.getMsbD (56 - s + 2)) * 32 + b2i (x.getMsbD (56 - s + 3)) * 16 + b2i (x.getMsbD (56 - s + 4)) * 8 + b2i (x.getMsbD (56 - s + 5)) * 4 + b2i (x.getMsbD (56 - s + 6)) * 2 + b2i (x.getMsbD (56 - s + 7)) := by
  have e : ∀ k, k < 8 → b2i (x.getMsbD (56 - s + k)) = ((x.toNat / 2 ^ s / 2 ^ (7 - k) % 2 : Nat) : Int) := fun k hk => by
    rw [BitVec.getMsbD, decide_eq_true (by omega), Bool.true_and, show 64 - 1 - (56 - s + k) = (7 - k) + s by omega, ← BitVec.testBit_toNat, ← Nat.testBit_div_two_pow, b2i_tb]
  have e0 := e 0 (by decide)
  rw [Nat.add_zero] at e0
  rw [e0, e 1 (by decide), e 2 (by decide), e 3 (by decide), e 4 (by decide), e 5 (by decide), e 6 (by decide), e 7 (by decide)]
  have q : (x >>> s).toInt % 2 ^ 8 = ((x.toNat / 2 ^ s % 256 : Nat) : Int) := by
    rw [BitVec.toInt_eq_toNat_cond, BitVec.toNat_ushiftRight, Nat.shiftRight_eq_div_pow]
    split <;> omega
  rw [q]
  generalize x.toNat / 2 ^ s = m
  omega
theorem byte_link {ou : Nat → BitVec 64} {oz : Nat → Bool} {L : List Bool} {co i : Int} (h1 : OR ou L) (h2 : OZ oz L) (hi : 0 ≤ i) (hL : 8 * i + 7 < (L.length : Int)) (hon : i < (on co : Int)) : obC ou co i = byN oz i 8 := by
  have how : i / 8 < (ow co : Int) := by unfold on at hon; unfold ow; omega
  rw [obC, if_pos ⟨hi, how⟩, byte_bits _ (by omega)]
  have e : ∀ k : Nat, k < 8 → (ou (i / 8).toNat).getMsbD (56 - ((56 - i % 8 * 8) % 64).toNat + k) = oz (8 * i + (k : Nat) : Int).toNat := fun k hk => by
    rw [h2 _ (by omega), h1 _ (by omega) _ (by omega)]
    congr 1; omega
  have e0 := e 0 (by decide)
  have e1 := e 1 (by decide)
  have e2 := e 2 (by decide)
  have e3 := e 3 (by decide)
  have e4 := e 4 (by decide)
  have e5 := e 5 (by decide)
  have e6 := e 6 (by decide)
  have e7 := e 7 (by decide)
  rw [Nat.add_zero] at e0
  simp only [byN]
  rw [e0, e1, e2, e3, e4, e5, e6, e7]
  omega
theorem inC_cg {bt b2 : Nat → Int} {sz : Int} (h : ∀ i : Nat, (i : Int) < sz → bt i % 256 = b2 i % 256) : inC bt sz = inC b2 sz := by
  have e : ∀ i, byC bt sz i = byC b2 sz i := fun i => by
    unfold byC
    by_cases hi : 0 ≤ i ∧ i < sz
    · rw [if_pos hi, if_pos hi, h i.toNat (by omega)]
    · rw [if_neg hi, if_neg hi]
  funext i
  unfold inC bitC
  rw [e]
theorem ad_link (w : BitVec 64) {i : Nat} (h : i < 8) : adM w i = adG w i := by
  have e1 : BitVec.sshiftRight w (8 * i) &&& 255#64 = (w >>> (8 * i)) &&& 255#64 := by
    apply BitVec.eq_of_getLsbD_eq
    intro j hj
    rw [BitVec.getLsbD_and, BitVec.getLsbD_and]
    by_cases hj8 : j < 8
    · rw [BitVec.getLsbD_sshiftRight, BitVec.getLsbD_ushiftRight, if_pos (by omega)]
      rw [decide_eq_false (by omega), Bool.not_false, Bool.true_and]
    · have : (255#64).getLsbD j = false := by
        have key : ∀ j : Fin 64, ¬ j.val < 8 → (255#64).getLsbD j.val = false := by decide
        exact key ⟨j, hj⟩ hj8
      rw [this, Bool.and_false, Bool.and_false]
  rw [adM, adG, e1]
  generalize w >>> (8 * i) = x
  have h2 : (x &&& 255#64).toNat = x.toNat % 256 := by
    rw [BitVec.toNat_and]
    exact Nat.and_two_pow_sub_one_eq_mod x.toNat 8
  have h3 := x.isLt
  rw [BitVec.toInt_eq_toNat_cond, BitVec.toInt_eq_toNat_cond, h2]
  split <;> split <;> omega
theorem adG_rg (w : BitVec 64) (i : Nat) : 0 ≤ adG w i ∧ adG w i < 256 := by unfold adG; omega
theorem ap_link {bt b2 : Nat → Int} {z : Int} {g h : Nat → Int} (hz : 0 ≤ z) : ∀ n : Nat, (∀ i : Nat, (i : Int) < z → bt i % 256 = b2 i % 256) → (∀ i : Nat, i < n → g i % 256 = h i % 256) → ∀ i : Nat, (i : Int) < z + n → apF bt z g n i % 256 = apM b2 z h n i % 256
  | 0, h1, _, i, hi => h1 i (by omega)
  | n + 1, h1, h2, i, hi => by
    rw [apF, apM]
    unfold va_up
    by_cases e : i = (z + (n : Nat) : Int).toNat
    · rw [if_pos e, if_pos e, sb_mod]; exact h2 n (Nat.lt_succ_self n)
    · rw [if_neg e, if_neg e]
      exact ap_link hz n h1 (fun i hi => h2 i (by omega)) i (by omega)
theorem apM_rg {b2 : Nat → Int} {z : Int} {h : Nat → Int} (h0 : ∀ j, 0 ≤ b2 j ∧ b2 j < 256) : ∀ n : Nat, (∀ i, i < n → 0 ≤ h i ∧ h i < 256) → ∀ j, 0 ≤ apM b2 z h n j ∧ apM b2 z h n j < 256
  | 0, _, j => h0 j
  | n + 1, h1, j => by
    rw [apM]
    unfold va_up
    split
    · exact h1 n (Nat.lt_succ_self n)
    · exact apM_rg h0 n (fun i hi => h1 i (by omega)) j
theorem sltC_sl {z : Int} : (isR z = true → sltC z = slI' z ∧ 0 ≤ sltC z ∧ sltC z < 74) ∧ (isR z = false → sltC z = -2) := by
  constructor
  · intro h
    have h1 := of_decide_eq_true h
    unfold sltC slI'
    by_cases c : 0 ≤ z ∧ z < 64
    · rw [if_pos c, if_pos c.2]; omega
    · rw [if_neg c, if_pos (by omega), if_neg (by omega)]; omega
  · intro h
    have h1 := of_decide_eq_false h
    unfold sltC
    rw [if_neg (by omega), if_neg (by omega)]
