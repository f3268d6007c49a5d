theorem ra_R (I : Int → Bool) (T N kd : Int) (mk al rd : Bool) : ∀ (n : Nat) (rw p dm : Int) (P : Int → Int → Bool) (S : Nat → Int), rw ≤ (rdAll I T N kd mk al rd n rw p dm P S).1 ∧ (rdAll I T N kd mk al rd n rw p dm P S).1 ≤ rw + n
  | 0, rw, p, dm, P, S => ⟨Int.le_refl _, by show rw ≤ rw + ((0 : Nat) : Int); omega⟩
  | n + 1, rw, p, dm, P, S => by
    rw [rdAll]
    split
    · show rw ≤ rw ∧ rw ≤ rw + ((n + 1 : Nat) : Int); omega
    · split
      · show rw ≤ rw ∧ rw ≤ rw + ((n + 1 : Nat) : Int); omega
      · split
        · have h := ra_R I T N kd mk al rd n (rw + 1) (rdQ I T N kd mk al P rw p).2.1 (if (rdQ I T N kd mk al P rw p).1 = 3 then dm + 1 else dm) (upR P rw (clp N (rdG rd P rw (rdQ I T N kd mk al P rw p)))) (va_up S rw.toNat (rdQ I T N kd mk al P rw p).1)
          omega
        · show rw ≤ rw + 1 ∧ rw + 1 ≤ rw + ((n + 1 : Nat) : Int); omega
theorem bit_eq (p q : Bool) : b2i (!(p == q)) = if p = q then 0 else 1 := by cases p <;> cases q <;> rfl
theorem cB_b2 (d : Bool) : cB (b2i d) = d := by cases d <;> rfl
set_option maxHeartbeats 2000000 in
set_option maxRecDepth 100000 in
theorem lw_told {V : zV} {p : Program} {l : Launch} {e : Env} {s : State} {m : MethodId} {args : Array Value} {below : List Frame} {meth : Method} {c : Code} {D : va_G} {cy : Nat → ClassId} {tw sr : Nat → Nat} {A : Nat → Prop} {Q : State → Prop} {scr N : Nat} {zx : Nat → Int} (H : LC V p l e s m args below meth c D cy tw sr A Q scr N zx) (a b : Nat → Nat) (o : Nat) {k n : Nat} (hk : k + 1 ≤ 600384 ∧ n + 6 ≤ 7290968) {i : Int} (hi : 0 ≤ i ∧ i + 5 ≤ (N : Int)) {kd co : Int} (fo : Nat → BitVec 64) (mk al dz rd : Bool) (rw : Int) (wo : Nat → BitVec 64) (sa : Nat → Int) (sz ps : Int) (bt : Nat → Int) (ou : Nat → BitVec 64) (L : List Bool) (dm : Int) (pl : Bool) (re : Int) (cu : Bool) (th sx aa : Int) (dk fi : Bool) (bb cz : Int) (hm : Bool) (se da : Nat → Bool) (sa2 bt2 : Nat → Int) (oz : Nat → Bool) (hI : LI kd co mk al dz rd rw wo sa sz ps bt ou L dm se da sa2 bt2 oz) (KK : LKK V cy a b o scr i k n kd co) : V k n (([(o, aJ (cy 2) 1 fo)] ++ CW cy a kd co mk al dz rd rw wo sa sz ps bt ou ((L.length : Nat) : Int) dm pl re cu) ++ MW cy b kd co th rw sz ((L.length : Nat) : Int) ps dm sx aa dk fi bb cz hm se da sa2 bt2 oz) [(0, .ref scr), (1, .ref (a 0)), (2, .ref (b 0)), (3, .ref o), (4, vI i)] [] 136 := by
  obtain ⟨C, XL, hX, hbl, hbA, hN, hzx, hl9⟩ := H
  obtain ⟨⟨hkd, hco, hrw, hsz, hps, hdm⟩, ⟨rfl, rfl, rfl, rfl⟩, hPX, hSA, ⟨hBT, hB2⟩, hOR, hOZ, h8, hLn⟩ := hI
  have hk0 : k + 0 ≤ (room_1).cells ∧ n + 0 ≤ (room_1).slots := ⟨by show k ≤ 600384; omega, by show n ≤ 7290968; omega⟩
  have hk1 : k + 1 ≤ (room_1).cells ∧ n + 6 ≤ (room_1).slots := hk
  have hk2 : k + 1 + 0 ≤ (room_1).cells ∧ n + 6 + 0 ≤ (room_1).slots := hk
  have e8 : (((L.length : Nat) : Int) + 7) / 8 = ((L.length : Nat) : Int) / 8 := by omega
  obtain ⟨z1, ez1, hz1⟩ : ∃ z, zx (i + 1).toNat = z ∧ (-2147483648 ≤ z ∧ z < 2147483648) := ⟨_, rfl, hzx _⟩
  by_cases hin : 0 ≤ z1 ∧ z1 ≤ 6
  · refine z_aload_n C dL_law_136 1 rfl ?_
    refine z_aload_n C dL_law_137 0 rfl ?_
    refine z_iload C dL_law_138 4 rfl ?_
    refine z_iconst C (z := 1) dL_law_140 ?_
    refine z_iadd C dL_law_141 ?_
    refine z_sldv C hX hbl hbA ez1 (by omega) (by omega) hN dL_law_142 ?_
    refine z_aload_n C dL_law_143 3 rfl ?_
    show V k n (([] ++ ([(o, aJ (cy 2) 1 fo)] ++ CW cy a kd co (se 0) (se 1) (se 2) (se 3) rw wo sa sz ps bt ou ((L.length : Nat) : Int) dm pl re cu)) ++ MW cy b kd co th rw sz ((L.length : Nat) : Int) ps dm sx aa dk fi bb cz hm se da sa2 bt2 oz) [(0, .ref scr), (1, .ref (a 0)), (2, .ref (b 0)), (3, .ref o), (4, vI i)] ([.ref (a 0), vI z1, .ref o].reverse ++ []) 144
    refine z_callSWF C XL (X := []) (W0 := [(o, aJ (cy 2) 1 fo)] ++ CW cy a kd co (se 0) (se 1) (se 2) (se 3) rw wo sa sz ps bt ou ((L.length : Nat) : Int) dm pl re cu) (Y := MW cy b kd co th rw sz ((L.length : Nat) : Int) ps dm sx aa dk fi bb cz hm se da sa2 bt2 oz) (As := [.ref (a 0), vI z1, .ref o]) (st := []) (c_L_told l D cy tw sr o a fo kd co (se 0) (se 1) (se 2) (se 3) rw wo sa sz ps bt ou ((L.length : Nat) : Int) dm pl re cu z1 (by omega) (by omega) (by (repeat' split) <;> omega)) (goodIn_mo wsL_law_in gL_law_L_told) kn_L_told ⟨rfl, rfl, Nat.le_of_ble_eq_true rfl, Nat.le_of_ble_eq_true rfl⟩ rfl (Nat.le_of_ble_eq_true rfl) hk0 dL_law_144 (fun y_1 hy_1 => ?_)
    show V k n (([(o, aJ (cy 2) 1 (va_up fo (0 : Int).toNat (BitVec.ofInt 64 (if z1 = 0 then kd else if z1 = 1 then co else if z1 = 2 then rw else if z1 = 3 then sz else if z1 = 4 then (((L.length : Nat) : Int) + 7) / 8 else if z1 = 5 then ps else dm))))] ++ CW cy a kd co (se 0) (se 1) (se 2) (se 3) rw wo sa sz ps bt ou ((L.length : Nat) : Int) dm pl re cu) ++ MW cy b kd co th rw sz ((L.length : Nat) : Int) ps dm sx aa dk fi bb cz hm se da sa2 bt2 oz) [(0, .ref scr), (1, .ref (a 0)), (2, .ref (b 0)), (3, .ref o), (4, vI i)] [vI 0] 147
    refine z_istore C (lv' := [(5, vI 0), (0, .ref scr), (1, .ref (a 0)), (2, .ref (b 0)), (3, .ref o), (4, vI i)]) dL_law_147 (by decide) rfl ?_
    refine z_aload_n C dL_law_149 3 rfl ?_
    refine z_aload_n C dL_law_150 1 rfl ?_
    refine z_iload C dL_law_151 5 rfl ?_
    refine z_iconst C (z := 1) dL_law_153 ?_
    refine z_iadd C dL_law_154 ?_
    refine z_sldv C hX hbl hbA ez1 (by omega) (by omega) hN dL_law_155 ?_
    show V k n (([(o, aJ (cy 2) 1 (va_up fo (0 : Int).toNat (BitVec.ofInt 64 (if z1 = 0 then kd else if z1 = 1 then co else if z1 = 2 then rw else if z1 = 3 then sz else if z1 = 4 then (((L.length : Nat) : Int) + 7) / 8 else if z1 = 5 then ps else dm))))] ++ CW cy a kd co (se 0) (se 1) (se 2) (se 3) rw wo sa sz ps bt ou ((L.length : Nat) : Int) dm pl re cu) ++ MW cy b kd co th rw sz ((L.length : Nat) : Int) ps dm sx aa dk fi bb cz hm se da sa2 bt2 oz) [(5, vI 0), (0, .ref scr), (1, .ref (a 0)), (2, .ref (b 0)), (3, .ref o), (4, vI i)] ([vI z1].reverse ++ .ref (b 0) :: []) 156
    refine z_callVE C (X := [(o, aJ (cy 2) 1 (va_up fo (0 : Int).toNat (BitVec.ofInt 64 (if z1 = 0 then kd else if z1 = 1 then co else if z1 = 2 then rw else if z1 = 3 then sz else if z1 = 4 then (((L.length : Nat) : Int) + 7) / 8 else if z1 = 5 then ps else dm))))] ++ CW cy a kd co (se 0) (se 1) (se 2) (se 3) rw wo sa sz ps bt ou ((L.length : Nat) : Int) dm pl re cu) (W0 := MW cy b kd co th rw sz ((L.length : Nat) : Int) ps dm sx aa dk fi bb cz hm se da sa2 bt2 oz) (As := [vI z1]) (st := []) (c_X8_told l D cy tw b kd co th rw sz ((L.length : Nat) : Int) ps dm sx aa dk fi bb cz hm se da sa2 bt2 oz z1 (by omega) (by omega)) (goodIn_mo wsL_law_in gL_law_X8_told) kn_X8_told rfl ⟨rfl, rfl, Nat.le_of_ble_eq_true rfl, Nat.le_of_ble_eq_true rfl⟩ 0 rfl (ci := 10) rfl rfl (Nat.le_of_ble_eq_true rfl) hk0 dL_law_156 (fun y_2 hy_2 => ?_)
    show V k n (([(o, aJ (cy 2) 1 (va_up fo (0 : Int).toNat (BitVec.ofInt 64 (if z1 = 0 then kd else if z1 = 1 then co else if z1 = 2 then rw else if z1 = 3 then sz else if z1 = 4 then (((L.length : Nat) : Int) + 7) / 8 else if z1 = 5 then ps else dm))))] ++ CW cy a kd co (se 0) (se 1) (se 2) (se 3) rw wo sa sz ps bt ou ((L.length : Nat) : Int) dm pl re cu) ++ MW cy b kd co (if 0 ≤ z1 ∧ z1 ≤ 6 then 0 else 1) rw sz ((L.length : Nat) : Int) ps dm sx aa dk fi bb cz hm se da sa2 bt2 oz) [(5, vI 0), (0, .ref scr), (1, .ref (a 0)), (2, .ref (b 0)), (3, .ref o), (4, vI i)] [vI (if 0 ≤ z1 ∧ z1 ≤ 6 then (if z1 = 0 then kd else if z1 = 1 then co else if z1 = 2 then rw else if z1 = 3 then sz else if z1 = 4 then ((L.length : Nat) : Int) / 8 else if z1 = 5 then ps else dm) else 0)] 159
    refine z_res (ws' := (([(o, aJ (cy 2) 1 (va_up fo (0 : Int).toNat (BitVec.ofInt 64 (if z1 = 0 then kd else if z1 = 1 then co else if z1 = 2 then rw else if z1 = 3 then sz else if z1 = 4 then (((L.length : Nat) : Int) + 7) / 8 else if z1 = 5 then ps else dm))))] ++ CW cy a kd co (se 0) (se 1) (se 2) (se 3) rw wo sa sz ps bt ou ((L.length : Nat) : Int) dm pl re cu) ++ MW cy b kd co 0 rw sz ((L.length : Nat) : Int) ps dm sx aa dk fi bb cz hm se da sa2 bt2 oz)) (y := if z1 = 0 then kd else if z1 = 1 then co else if z1 = 2 then rw else if z1 = 3 then sz else if z1 = 4 then (((L.length : Nat) : Int) + 7) / 8 else if z1 = 5 then ps else dm) (by rw [if_pos hin]) (by rw [if_pos hin, e8]) ?_
    show V k n (([(o, aJ (cy 2) 1 (va_up fo (0 : Int).toNat (BitVec.ofInt 64 (if z1 = 0 then kd else if z1 = 1 then co else if z1 = 2 then rw else if z1 = 3 then sz else if z1 = 4 then (((L.length : Nat) : Int) + 7) / 8 else if z1 = 5 then ps else dm))))] ++ CW cy a kd co (se 0) (se 1) (se 2) (se 3) rw wo sa sz ps bt ou ((L.length : Nat) : Int) dm pl re cu) ++ MW cy b kd co 0 rw sz ((L.length : Nat) : Int) ps dm sx aa dk fi bb cz hm se da sa2 bt2 oz) [(5, vI 0), (0, .ref scr), (1, .ref (a 0)), (2, .ref (b 0)), (3, .ref o), (4, vI i)] [vI (if z1 = 0 then kd else if z1 = 1 then co else if z1 = 2 then rw else if z1 = 3 then sz else if z1 = 4 then (((L.length : Nat) : Int) + 7) / 8 else if z1 = 5 then ps else dm)] 159
    refine z_istore C (lv' := [(6, vI (if z1 = 0 then kd else if z1 = 1 then co else if z1 = 2 then rw else if z1 = 3 then sz else if z1 = 4 then (((L.length : Nat) : Int) + 7) / 8 else if z1 = 5 then ps else dm)), (5, vI 0), (0, .ref scr), (1, .ref (a 0)), (2, .ref (b 0)), (3, .ref o), (4, vI i)]) dL_law_159 (by decide) rfl ?_
    refine z_aload_n C dL_law_161 4 rfl ?_
    show V k n (([(o, aJ (cy 2) 1 (va_up fo (0 : Int).toNat (BitVec.ofInt 64 (if z1 = 0 then kd else if z1 = 1 then co else if z1 = 2 then rw else if z1 = 3 then sz else if z1 = 4 then (((L.length : Nat) : Int) + 7) / 8 else if z1 = 5 then ps else dm))))] ++ CW cy a kd co (se 0) (se 1) (se 2) (se 3) rw wo sa sz ps bt ou ((L.length : Nat) : Int) dm pl re cu) ++ MW cy b kd co 0 rw sz ((L.length : Nat) : Int) ps dm sx aa dk fi bb cz hm se da sa2 bt2 oz) [(6, vI (if z1 = 0 then kd else if z1 = 1 then co else if z1 = 2 then rw else if z1 = 3 then sz else if z1 = 4 then (((L.length : Nat) : Int) + 7) / 8 else if z1 = 5 then ps else dm)), (5, vI 0), (0, .ref scr), (1, .ref (a 0)), (2, .ref (b 0)), (3, .ref o), (4, vI i)] ([].reverse ++ .ref (b 0) :: []) 162
    refine z_callVE C (X := [(o, aJ (cy 2) 1 (va_up fo (0 : Int).toNat (BitVec.ofInt 64 (if z1 = 0 then kd else if z1 = 1 then co else if z1 = 2 then rw else if z1 = 3 then sz else if z1 = 4 then (((L.length : Nat) : Int) + 7) / 8 else if z1 = 5 then ps else dm))))] ++ CW cy a kd co (se 0) (se 1) (se 2) (se 3) rw wo sa sz ps bt ou ((L.length : Nat) : Int) dm pl re cu) (W0 := MW cy b kd co 0 rw sz ((L.length : Nat) : Int) ps dm sx aa dk fi bb cz hm se da sa2 bt2 oz) (As := []) (st := []) (c_X8_thrown l D cy tw b kd co 0 rw sz ((L.length : Nat) : Int) ps dm sx aa dk fi bb cz hm se da sa2 bt2 oz  ) (goodIn_mo wsL_law_in gL_law_X8_thrown) kn_X8_thrown rfl ⟨rfl, rfl, Nat.le_of_ble_eq_true rfl, Nat.le_of_ble_eq_true rfl⟩ 0 rfl (ci := 10) rfl rfl (Nat.le_of_ble_eq_true rfl) hk0 dL_law_162 (fun y_3 hy_3 => ?_)
    show V k n (([(o, aJ (cy 2) 1 (va_up fo (0 : Int).toNat (BitVec.ofInt 64 (if z1 = 0 then kd else if z1 = 1 then co else if z1 = 2 then rw else if z1 = 3 then sz else if z1 = 4 then (((L.length : Nat) : Int) + 7) / 8 else if z1 = 5 then ps else dm))))] ++ CW cy a kd co (se 0) (se 1) (se 2) (se 3) rw wo sa sz ps bt ou ((L.length : Nat) : Int) dm pl re cu) ++ MW cy b kd co 0 rw sz ((L.length : Nat) : Int) ps dm sx aa dk fi bb cz hm se da sa2 bt2 oz) [(6, vI (if z1 = 0 then kd else if z1 = 1 then co else if z1 = 2 then rw else if z1 = 3 then sz else if z1 = 4 then (((L.length : Nat) : Int) + 7) / 8 else if z1 = 5 then ps else dm)), (5, vI 0), (0, .ref scr), (1, .ref (a 0)), (2, .ref (b 0)), (3, .ref o), (4, vI i)] [vI 0] 165
    refine z_iload C dL_law_165 1 rfl ?_
    refine z_icmp_eq C (by decide) (by decide) (tgt := 172) dL_law_167 (by decide) (fun _ => ?_) (fun hc => absurd rfl hc)
    refine z_iload C dL_law_172 1 rfl ?_
    refine z_if_ne C (by decide) (tgt := 189) dL_law_174 (by decide) (fun hc_4 => ?_) (fun hc_4 => ?_)
    · exact absurd hc_4 (by decide)
    refine z_aload_n C dL_law_177 5 rfl ?_
    refine z_iconst C (z := 0) dL_law_178 ?_
    refine z_lald C 0 2 (g := (va_up fo (0 : Int).toNat (BitVec.ofInt 64 (if z1 = 0 then kd else if z1 = 1 then co else if z1 = 2 then rw else if z1 = 3 then sz else if z1 = 4 then (((L.length : Nat) : Int) + 7) / 8 else if z1 = 5 then ps else dm)))) rfl rfl (by decide) (by decide) (by decide) dL_law_179 ?_
    refine z_iload C dL_law_180 0 rfl ?_
    refine z_i2l C (by omega) dL_law_182 ?_
    refine z_lcmp C dL_law_183 ?_
    refine z_if_eq C (lcm_rg _ _) (tgt := 189) dL_law_184 (by decide) (fun _ => ?_) (fun hc => absurd (lcm_same rfl) hc)
    refine z_goto C (tgt := 949) dL_law_189 (by decide) ?_
    refine z_lsub C [2, 3, 4, 5, 6] rfl ?_
    exact KK _ _ _ _ _ _ _ _ _ _ _ _ _ _ _ _ _ _ _ _ _ _ _ _ _ _ _ _ _ _ _ _ (by omega) (by omega) (LI_mk ⟨hkd, hco⟩ (hrw) (hsz) (hps) (hdm) (⟨rfl, rfl, rfl, rfl⟩) (hPX) (hSA) (⟨hBT, hB2⟩) (⟨hOR, hOZ, h8, hLn⟩))
  · refine z_aload_n C dL_law_136 1 rfl ?_
    refine z_aload_n C dL_law_137 0 rfl ?_
    refine z_iload C dL_law_138 4 rfl ?_
    refine z_iconst C (z := 1) dL_law_140 ?_
    refine z_iadd C dL_law_141 ?_
    refine z_sldv C hX hbl hbA ez1 (by omega) (by omega) hN dL_law_142 ?_
    refine z_aload_n C dL_law_143 3 rfl ?_
    show V k n (([] ++ ([(o, aJ (cy 2) 1 fo)] ++ CW cy a kd co (se 0) (se 1) (se 2) (se 3) rw wo sa sz ps bt ou ((L.length : Nat) : Int) dm pl re cu)) ++ MW cy b kd co th rw sz ((L.length : Nat) : Int) ps dm sx aa dk fi bb cz hm se da sa2 bt2 oz) [(0, .ref scr), (1, .ref (a 0)), (2, .ref (b 0)), (3, .ref o), (4, vI i)] ([.ref (a 0), vI z1, .ref o].reverse ++ []) 144
    refine z_callSWF C XL (X := []) (W0 := [(o, aJ (cy 2) 1 fo)] ++ CW cy a kd co (se 0) (se 1) (se 2) (se 3) rw wo sa sz ps bt ou ((L.length : Nat) : Int) dm pl re cu) (Y := MW cy b kd co th rw sz ((L.length : Nat) : Int) ps dm sx aa dk fi bb cz hm se da sa2 bt2 oz) (As := [.ref (a 0), vI z1, .ref o]) (st := []) (c_L_toldX l hl9 D cy tw sr o a fo kd co (se 0) (se 1) (se 2) (se 3) rw wo sa sz ps bt ou ((L.length : Nat) : Int) dm pl re cu z1 (by omega) (by omega)) (goodIn_mo wsL_law_in gL_law_L_told) kn_L_told ⟨rfl, rfl, Nat.le_of_ble_eq_true rfl, Nat.le_of_ble_eq_true rfl⟩ rfl (Nat.le_of_ble_eq_true rfl) hk1 dL_law_144 (fun y_1 hy_1 => ?_)
    show V (k + 1) (n + 6) (([(o, aJ (cy 2) 1 fo)] ++ CW cy a kd co (se 0) (se 1) (se 2) (se 3) rw wo sa sz ps bt ou ((L.length : Nat) : Int) dm pl re cu) ++ MW cy b kd co th rw sz ((L.length : Nat) : Int) ps dm sx aa dk fi bb cz hm se da sa2 bt2 oz) [(0, .ref scr), (1, .ref (a 0)), (2, .ref (b 0)), (3, .ref o), (4, vI i)] [vI 1] 147
    refine z_istore C (lv' := [(5, vI 1), (0, .ref scr), (1, .ref (a 0)), (2, .ref (b 0)), (3, .ref o), (4, vI i)]) dL_law_147 (by decide) rfl ?_
    refine z_aload_n C dL_law_149 3 rfl ?_
    refine z_aload_n C dL_law_150 1 rfl ?_
    refine z_iload C dL_law_151 5 rfl ?_
    refine z_iconst C (z := 1) dL_law_153 ?_
    refine z_iadd C dL_law_154 ?_
    refine z_sldv C hX hbl hbA ez1 (by omega) (by omega) hN dL_law_155 ?_
    show V (k + 1) (n + 6) (([(o, aJ (cy 2) 1 fo)] ++ CW cy a kd co (se 0) (se 1) (se 2) (se 3) rw wo sa sz ps bt ou ((L.length : Nat) : Int) dm pl re cu) ++ MW cy b kd co th rw sz ((L.length : Nat) : Int) ps dm sx aa dk fi bb cz hm se da sa2 bt2 oz) [(5, vI 1), (0, .ref scr), (1, .ref (a 0)), (2, .ref (b 0)), (3, .ref o), (4, vI i)] ([vI z1].reverse ++ .ref (b 0) :: []) 156
    refine z_callVE C (X := [(o, aJ (cy 2) 1 fo)] ++ CW cy a kd co (se 0) (se 1) (se 2) (se 3) rw wo sa sz ps bt ou ((L.length : Nat) : Int) dm pl re cu) (W0 := MW cy b kd co th rw sz ((L.length : Nat) : Int) ps dm sx aa dk fi bb cz hm se da sa2 bt2 oz) (As := [vI z1]) (st := []) (c_X8_told l D cy tw b kd co th rw sz ((L.length : Nat) : Int) ps dm sx aa dk fi bb cz hm se da sa2 bt2 oz z1 (by omega) (by omega)) (goodIn_mo wsL_law_in gL_law_X8_told) kn_X8_told rfl ⟨rfl, rfl, Nat.le_of_ble_eq_true rfl, Nat.le_of_ble_eq_true rfl⟩ 0 rfl (ci := 10) rfl rfl (Nat.le_of_ble_eq_true rfl) hk2 dL_law_156 (fun y_2 hy_2 => ?_)
    show V (k + 1) (n + 6) (([(o, aJ (cy 2) 1 fo)] ++ CW cy a kd co (se 0) (se 1) (se 2) (se 3) rw wo sa sz ps bt ou ((L.length : Nat) : Int) dm pl re cu) ++ MW cy b kd co (if 0 ≤ z1 ∧ z1 ≤ 6 then 0 else 1) rw sz ((L.length : Nat) : Int) ps dm sx aa dk fi bb cz hm se da sa2 bt2 oz) [(5, vI 1), (0, .ref scr), (1, .ref (a 0)), (2, .ref (b 0)), (3, .ref o), (4, vI i)] [vI (if 0 ≤ z1 ∧ z1 ≤ 6 then (if z1 = 0 then kd else if z1 = 1 then co else if z1 = 2 then rw else if z1 = 3 then sz else if z1 = 4 then ((L.length : Nat) : Int) / 8 else if z1 = 5 then ps else dm) else 0)] 159
    refine z_res (ws' := (([(o, aJ (cy 2) 1 fo)] ++ CW cy a kd co (se 0) (se 1) (se 2) (se 3) rw wo sa sz ps bt ou ((L.length : Nat) : Int) dm pl re cu) ++ MW cy b kd co 1 rw sz ((L.length : Nat) : Int) ps dm sx aa dk fi bb cz hm se da sa2 bt2 oz)) (y := 0) (by rw [if_neg hin]) (by rw [if_neg hin]) ?_
    show V (k + 1) (n + 6) (([(o, aJ (cy 2) 1 fo)] ++ CW cy a kd co (se 0) (se 1) (se 2) (se 3) rw wo sa sz ps bt ou ((L.length : Nat) : Int) dm pl re cu) ++ MW cy b kd co 1 rw sz ((L.length : Nat) : Int) ps dm sx aa dk fi bb cz hm se da sa2 bt2 oz) [(5, vI 1), (0, .ref scr), (1, .ref (a 0)), (2, .ref (b 0)), (3, .ref o), (4, vI i)] [vI 0] 159
    refine z_istore C (lv' := [(6, vI 0), (5, vI 1), (0, .ref scr), (1, .ref (a 0)), (2, .ref (b 0)), (3, .ref o), (4, vI i)]) dL_law_159 (by decide) rfl ?_
    refine z_aload_n C dL_law_161 4 rfl ?_
    show V (k + 1) (n + 6) (([(o, aJ (cy 2) 1 fo)] ++ CW cy a kd co (se 0) (se 1) (se 2) (se 3) rw wo sa sz ps bt ou ((L.length : Nat) : Int) dm pl re cu) ++ MW cy b kd co 1 rw sz ((L.length : Nat) : Int) ps dm sx aa dk fi bb cz hm se da sa2 bt2 oz) [(6, vI 0), (5, vI 1), (0, .ref scr), (1, .ref (a 0)), (2, .ref (b 0)), (3, .ref o), (4, vI i)] ([].reverse ++ .ref (b 0) :: []) 162
    refine z_callVE C (X := [(o, aJ (cy 2) 1 fo)] ++ CW cy a kd co (se 0) (se 1) (se 2) (se 3) rw wo sa sz ps bt ou ((L.length : Nat) : Int) dm pl re cu) (W0 := MW cy b kd co 1 rw sz ((L.length : Nat) : Int) ps dm sx aa dk fi bb cz hm se da sa2 bt2 oz) (As := []) (st := []) (c_X8_thrown l D cy tw b kd co 1 rw sz ((L.length : Nat) : Int) ps dm sx aa dk fi bb cz hm se da sa2 bt2 oz  ) (goodIn_mo wsL_law_in gL_law_X8_thrown) kn_X8_thrown rfl ⟨rfl, rfl, Nat.le_of_ble_eq_true rfl, Nat.le_of_ble_eq_true rfl⟩ 0 rfl (ci := 10) rfl rfl (Nat.le_of_ble_eq_true rfl) hk2 dL_law_162 (fun y_3 hy_3 => ?_)
    show V (k + 1) (n + 6) (([(o, aJ (cy 2) 1 fo)] ++ CW cy a kd co (se 0) (se 1) (se 2) (se 3) rw wo sa sz ps bt ou ((L.length : Nat) : Int) dm pl re cu) ++ MW cy b kd co 1 rw sz ((L.length : Nat) : Int) ps dm sx aa dk fi bb cz hm se da sa2 bt2 oz) [(6, vI 0), (5, vI 1), (0, .ref scr), (1, .ref (a 0)), (2, .ref (b 0)), (3, .ref o), (4, vI i)] [vI 1] 165
    refine z_iload C dL_law_165 1 rfl ?_
    refine z_icmp_eq C (by decide) (by decide) (tgt := 172) dL_law_167 (by decide) (fun _ => ?_) (fun hc => absurd rfl hc)
    refine z_iload C dL_law_172 1 rfl ?_
    refine z_if_ne C (by decide) (tgt := 189) dL_law_174 (by decide) (fun hc_4 => ?_) (fun hc_4 => ?_)
    rotate_left; · exact absurd hc_4 (by decide)
    refine z_goto C (tgt := 949) dL_law_189 (by decide) ?_
    refine z_lsub C [2, 3, 4, 5, 6] rfl ?_
    exact KK _ _ _ _ _ _ _ _ _ _ _ _ _ _ _ _ _ _ _ _ _ _ _ _ _ _ _ _ _ _ _ _ (by omega) (by omega) (LI_mk ⟨hkd, hco⟩ (hrw) (hsz) (hps) (hdm) (⟨rfl, rfl, rfl, rfl⟩) (hPX) (hSA) (⟨hBT, hB2⟩) (⟨hOR, hOZ, h8, hLn⟩))
set_option maxHeartbeats 2000000 in
set_option maxRecDepth 100000 in
theorem lw_setting {V : zV} {p : Program} {l : Launch} {e : Env} {s : State} {m : MethodId} {args : Array Value} {below : List Frame} {meth : Method} {c : Code} {D : va_G} {cy : Nat → ClassId} {tw sr : Nat → Nat} {A : Nat → Prop} {Q : State → Prop} {scr N : Nat} {zx : Nat → Int} (H : LC V p l e s m args below meth c D cy tw sr A Q scr N zx) (a b : Nat → Nat) (o : Nat) {k n : Nat} (hk : k + 1 ≤ 600384 ∧ n + 6 ≤ 7290968) {i : Int} (hi : 0 ≤ i ∧ i + 5 ≤ (N : Int)) {kd co : Int} (fo : Nat → BitVec 64) (mk al dz rd : Bool) (rw : Int) (wo : Nat → BitVec 64) (sa : Nat → Int) (sz ps : Int) (bt : Nat → Int) (ou : Nat → BitVec 64) (L : List Bool) (dm : Int) (pl : Bool) (re : Int) (cu : Bool) (th sx aa : Int) (dk fi : Bool) (bb cz : Int) (hm : Bool) (se da : Nat → Bool) (sa2 bt2 : Nat → Int) (oz : Nat → Bool) (hI : LI kd co mk al dz rd rw wo sa sz ps bt ou L dm se da sa2 bt2 oz) (KK : LKK V cy a b o scr i k n kd co) : V k n (([(o, aJ (cy 2) 1 fo)] ++ CW cy a kd co mk al dz rd rw wo sa sz ps bt ou ((L.length : Nat) : Int) dm pl re cu) ++ MW cy b kd co th rw sz ((L.length : Nat) : Int) ps dm sx aa dk fi bb cz hm se da sa2 bt2 oz) [(0, .ref scr), (1, .ref (a 0)), (2, .ref (b 0)), (3, .ref o), (4, vI i)] [] 192 := by
  obtain ⟨C, XL, hX, hbl, hbA, hN, hzx, hl9⟩ := H
  obtain ⟨⟨hkd, hco, hrw, hsz, hps, hdm⟩, ⟨rfl, rfl, rfl, rfl⟩, hPX, hSA, ⟨hBT, hB2⟩, hOR, hOZ, h8, hLn⟩ := hI
  have hk0 : k + 0 ≤ (room_1).cells ∧ n + 0 ≤ (room_1).slots := ⟨by show k ≤ 600384; omega, by show n ≤ 7290968; omega⟩
  have hk1 : k + 1 ≤ (room_1).cells ∧ n + 6 ≤ (room_1).slots := hk
  have hk2 : k + 1 + 0 ≤ (room_1).cells ∧ n + 6 + 0 ≤ (room_1).slots := hk
  have e8 : (((L.length : Nat) : Int) + 7) / 8 = ((L.length : Nat) : Int) / 8 := by omega
  obtain ⟨z1, ez1, hz1⟩ : ∃ z, zx (i + 1).toNat = z ∧ (-2147483648 ≤ z ∧ z < 2147483648) := ⟨_, rfl, hzx _⟩
  obtain ⟨z2, ez2, hz2⟩ : ∃ z, zx (i + 2).toNat = z ∧ (-2147483648 ≤ z ∧ z < 2147483648) := ⟨_, rfl, hzx _⟩
  by_cases hin : 0 ≤ z1 ∧ z1 ≤ 3
  · refine z_aload_n C dL_law_192 1 rfl ?_
    refine z_aload_n C dL_law_193 0 rfl ?_
    refine z_iload C dL_law_194 4 rfl ?_
    refine z_iconst C (z := 1) dL_law_196 ?_
    refine z_iadd C dL_law_197 ?_
    refine z_sldv C hX hbl hbA ez1 (by omega) (by omega) hN dL_law_198 ?_
    refine z_aload_n C dL_law_199 0 rfl ?_
    refine z_iload C dL_law_200 4 rfl ?_
    refine z_iconst C (z := 2) dL_law_202 ?_
    refine z_iadd C dL_law_203 ?_
    refine z_sldv C hX hbl hbA ez2 (by omega) (by omega) hN dL_law_204 ?_
    refine z_selz C (fun z => decide (¬ z = 0)) (by omega) (Or.inl ⟨rfl, rfl⟩) dL_law_205 dL_law_208 dL_law_209 dL_law_212 ?_
    show V k n (([(o, aJ (cy 2) 1 fo)] ++ (CW cy a kd co (se 0) (se 1) (se 2) (se 3) rw wo sa sz ps bt ou ((L.length : Nat) : Int) dm pl re cu)) ++ MW cy b kd co th rw sz ((L.length : Nat) : Int) ps dm sx aa dk fi bb cz hm se da sa2 bt2 oz) [(0, .ref scr), (1, .ref (a 0)), (2, .ref (b 0)), (3, .ref o), (4, vI i)] ([.ref (a 0), vI z1, vI (b2i (decide (¬ z2 = 0)))].reverse ++ []) 213
    refine z_callSWF C XL (X := [(o, aJ (cy 2) 1 fo)]) (W0 := CW cy a kd co (se 0) (se 1) (se 2) (se 3) rw wo sa sz ps bt ou ((L.length : Nat) : Int) dm pl re cu) (Y := MW cy b kd co th rw sz ((L.length : Nat) : Int) ps dm sx aa dk fi bb cz hm se da sa2 bt2 oz) (As := [.ref (a 0), vI z1, vI (b2i (decide (¬ z2 = 0)))]) (st := []) (c_L_setting l D cy tw sr a kd co (se 0) (se 1) (se 2) (se 3) rw wo sa sz ps bt ou ((L.length : Nat) : Int) dm pl re cu z1 (decide (¬ z2 = 0)) (by omega)) (goodIn_mo wsL_law_in gL_law_L_setting) kn_L_setting ⟨rfl, rfl, Nat.le_of_ble_eq_true rfl, Nat.le_of_ble_eq_true rfl⟩ rfl (Nat.le_of_ble_eq_true rfl) hk0 dL_law_213 (fun y_1 hy_1 => ?_)
    show V k n (([(o, aJ (cy 2) 1 fo)] ++ CW cy a kd co (if z1 = 0 then (decide (¬ z2 = 0)) else (se 0)) (if z1 = 1 then (decide (¬ z2 = 0)) else (se 1)) (if z1 = 2 then (decide (¬ z2 = 0)) else (se 2)) (if z1 = 3 then (decide (¬ z2 = 0)) else (se 3)) rw wo sa sz ps bt ou ((L.length : Nat) : Int) dm pl re cu) ++ MW cy b kd co th rw sz ((L.length : Nat) : Int) ps dm sx aa dk fi bb cz hm se da sa2 bt2 oz) [(0, .ref scr), (1, .ref (a 0)), (2, .ref (b 0)), (3, .ref o), (4, vI i)] [vI 0] 216
    refine z_istore C (lv' := [(5, vI 0), (0, .ref scr), (1, .ref (a 0)), (2, .ref (b 0)), (3, .ref o), (4, vI i)]) dL_law_216 (by decide) rfl ?_
    refine z_aload_n C dL_law_218 3 rfl ?_
    refine z_aload_n C dL_law_219 1 rfl ?_
    refine z_iload C dL_law_220 5 rfl ?_
    refine z_iconst C (z := 1) dL_law_222 ?_
    refine z_iadd C dL_law_223 ?_
    refine z_sldv C hX hbl hbA ez1 (by omega) (by omega) hN dL_law_224 ?_
    refine z_aload_n C dL_law_225 1 rfl ?_
    refine z_iload C dL_law_226 5 rfl ?_
    refine z_iconst C (z := 2) dL_law_228 ?_
    refine z_iadd C dL_law_229 ?_
    refine z_sldv C hX hbl hbA ez2 (by omega) (by omega) hN dL_law_230 ?_
    refine z_selz C (fun z => decide (¬ z = 0)) (by omega) (Or.inl ⟨rfl, rfl⟩) dL_law_231 dL_law_234 dL_law_235 dL_law_238 ?_
    show V k n (([(o, aJ (cy 2) 1 fo)] ++ CW cy a kd co (if z1 = 0 then (decide (¬ z2 = 0)) else (se 0)) (if z1 = 1 then (decide (¬ z2 = 0)) else (se 1)) (if z1 = 2 then (decide (¬ z2 = 0)) else (se 2)) (if z1 = 3 then (decide (¬ z2 = 0)) else (se 3)) rw wo sa sz ps bt ou ((L.length : Nat) : Int) dm pl re cu) ++ MW cy b kd co th rw sz ((L.length : Nat) : Int) ps dm sx aa dk fi bb cz hm se da sa2 bt2 oz) [(5, vI 0), (0, .ref scr), (1, .ref (a 0)), (2, .ref (b 0)), (3, .ref o), (4, vI i)] ([vI z1, vI (b2i (decide (¬ z2 = 0)))].reverse ++ .ref (b 0) :: []) 239
    refine z_callVE C (X := [(o, aJ (cy 2) 1 fo)] ++ CW cy a kd co (if z1 = 0 then (decide (¬ z2 = 0)) else (se 0)) (if z1 = 1 then (decide (¬ z2 = 0)) else (se 1)) (if z1 = 2 then (decide (¬ z2 = 0)) else (se 2)) (if z1 = 3 then (decide (¬ z2 = 0)) else (se 3)) rw wo sa sz ps bt ou ((L.length : Nat) : Int) dm pl re cu) (W0 := MW cy b kd co th rw sz ((L.length : Nat) : Int) ps dm sx aa dk fi bb cz hm se da sa2 bt2 oz) (As := [vI z1, vI (b2i (decide (¬ z2 = 0)))]) (st := []) (c_X8_setting l D cy tw b kd co th rw sz ((L.length : Nat) : Int) ps dm sx aa dk fi bb cz hm se da sa2 bt2 oz z1 (decide (¬ z2 = 0)) (by omega)) (goodIn_mo wsL_law_in gL_law_X8_setting) kn_X8_setting rfl ⟨rfl, rfl, Nat.le_of_ble_eq_true rfl, Nat.le_of_ble_eq_true rfl⟩ 0 rfl (ci := 10) rfl rfl (Nat.le_of_ble_eq_true rfl) hk0 dL_law_239 (fun y_2 hy_2 => ?_)
    show V k n (([(o, aJ (cy 2) 1 fo)] ++ CW cy a kd co (if z1 = 0 then (decide (¬ z2 = 0)) else (se 0)) (if z1 = 1 then (decide (¬ z2 = 0)) else (se 1)) (if z1 = 2 then (decide (¬ z2 = 0)) else (se 2)) (if z1 = 3 then (decide (¬ z2 = 0)) else (se 3)) rw wo sa sz ps bt ou ((L.length : Nat) : Int) dm pl re cu) ++ MW cy b kd co (if 0 ≤ z1 ∧ z1 ≤ 3 then 0 else 1) rw sz ((L.length : Nat) : Int) ps dm sx aa dk fi bb cz hm (if 0 ≤ z1 ∧ z1 ≤ 3 then va_up se (z1 : Int).toNat (decide (¬ z2 = 0)) else se) da sa2 bt2 oz) [(5, vI 0), (0, .ref scr), (1, .ref (a 0)), (2, .ref (b 0)), (3, .ref o), (4, vI i)] [] 242
    refine z_Wq (ws' := (([(o, aJ (cy 2) 1 fo)] ++ CW cy a kd co (if z1 = 0 then (decide (¬ z2 = 0)) else (se 0)) (if z1 = 1 then (decide (¬ z2 = 0)) else (se 1)) (if z1 = 2 then (decide (¬ z2 = 0)) else (se 2)) (if z1 = 3 then (decide (¬ z2 = 0)) else (se 3)) rw wo sa sz ps bt ou ((L.length : Nat) : Int) dm pl re cu) ++ MW cy b kd co 0 rw sz ((L.length : Nat) : Int) ps dm sx aa dk fi bb cz hm (va_up se (z1 : Int).toNat (decide (¬ z2 = 0))) da sa2 bt2 oz)) (by simp only [if_pos hin]) ?_
    show V k n (([(o, aJ (cy 2) 1 fo)] ++ CW cy a kd co (if z1 = 0 then (decide (¬ z2 = 0)) else (se 0)) (if z1 = 1 then (decide (¬ z2 = 0)) else (se 1)) (if z1 = 2 then (decide (¬ z2 = 0)) else (se 2)) (if z1 = 3 then (decide (¬ z2 = 0)) else (se 3)) rw wo sa sz ps bt ou ((L.length : Nat) : Int) dm pl re cu) ++ MW cy b kd co 0 rw sz ((L.length : Nat) : Int) ps dm sx aa dk fi bb cz hm (va_up se (z1 : Int).toNat (decide (¬ z2 = 0))) da sa2 bt2 oz) [(5, vI 0), (0, .ref scr), (1, .ref (a 0)), (2, .ref (b 0)), (3, .ref o), (4, vI i)] [] 242
    refine z_aload_n C dL_law_242 3 rfl ?_
    show V k n (([(o, aJ (cy 2) 1 fo)] ++ CW cy a kd co (if z1 = 0 then (decide (¬ z2 = 0)) else (se 0)) (if z1 = 1 then (decide (¬ z2 = 0)) else (se 1)) (if z1 = 2 then (decide (¬ z2 = 0)) else (se 2)) (if z1 = 3 then (decide (¬ z2 = 0)) else (se 3)) rw wo sa sz ps bt ou ((L.length : Nat) : Int) dm pl re cu) ++ MW cy b kd co 0 rw sz ((L.length : Nat) : Int) ps dm sx aa dk fi bb cz hm (va_up se (z1 : Int).toNat (decide (¬ z2 = 0))) da sa2 bt2 oz) [(5, vI 0), (0, .ref scr), (1, .ref (a 0)), (2, .ref (b 0)), (3, .ref o), (4, vI i)] ([].reverse ++ .ref (b 0) :: []) 243
    refine z_callVE C (X := [(o, aJ (cy 2) 1 fo)] ++ CW cy a kd co (if z1 = 0 then (decide (¬ z2 = 0)) else (se 0)) (if z1 = 1 then (decide (¬ z2 = 0)) else (se 1)) (if z1 = 2 then (decide (¬ z2 = 0)) else (se 2)) (if z1 = 3 then (decide (¬ z2 = 0)) else (se 3)) rw wo sa sz ps bt ou ((L.length : Nat) : Int) dm pl re cu) (W0 := MW cy b kd co 0 rw sz ((L.length : Nat) : Int) ps dm sx aa dk fi bb cz hm (va_up se (z1 : Int).toNat (decide (¬ z2 = 0))) da sa2 bt2 oz) (As := []) (st := []) (c_X8_thrown l D cy tw b kd co 0 rw sz ((L.length : Nat) : Int) ps dm sx aa dk fi bb cz hm (va_up se (z1 : Int).toNat (decide (¬ z2 = 0))) da sa2 bt2 oz  ) (goodIn_mo wsL_law_in gL_law_X8_thrown) kn_X8_thrown rfl ⟨rfl, rfl, Nat.le_of_ble_eq_true rfl, Nat.le_of_ble_eq_true rfl⟩ 0 rfl (ci := 10) rfl rfl (Nat.le_of_ble_eq_true rfl) hk0 dL_law_243 (fun y_3 hy_3 => ?_)
    show V k n (([(o, aJ (cy 2) 1 fo)] ++ CW cy a kd co (if z1 = 0 then (decide (¬ z2 = 0)) else (se 0)) (if z1 = 1 then (decide (¬ z2 = 0)) else (se 1)) (if z1 = 2 then (decide (¬ z2 = 0)) else (se 2)) (if z1 = 3 then (decide (¬ z2 = 0)) else (se 3)) rw wo sa sz ps bt ou ((L.length : Nat) : Int) dm pl re cu) ++ MW cy b kd co 0 rw sz ((L.length : Nat) : Int) ps dm sx aa dk fi bb cz hm (va_up se (z1 : Int).toNat (decide (¬ z2 = 0))) da sa2 bt2 oz) [(5, vI 0), (0, .ref scr), (1, .ref (a 0)), (2, .ref (b 0)), (3, .ref o), (4, vI i)] [vI 0] 246
    refine z_iload C dL_law_246 0 rfl ?_
    refine z_icmp_eq C (by decide) (by decide) (tgt := 253) dL_law_248 (by decide) (fun _ => ?_) (fun hc => absurd rfl hc)
    refine z_goto C (tgt := 949) dL_law_253 (by decide) ?_
    refine z_lsub C [1, 2, 3, 4, 5] rfl ?_
    exact KK _ _ _ _ _ _ _ _ _ _ _ _ _ _ _ _ _ _ _ _ _ _ _ _ _ _ _ _ _ _ _ _ (by omega) (by omega) (LI_mk ⟨hkd, hco⟩ (hrw) (hsz) (hps) (hdm) (set_up hin ⟨rfl, rfl, rfl, rfl⟩) (hPX) (hSA) (⟨hBT, hB2⟩) (⟨hOR, hOZ, h8, hLn⟩))
  · refine z_aload_n C dL_law_192 1 rfl ?_
    refine z_aload_n C dL_law_193 0 rfl ?_
    refine z_iload C dL_law_194 4 rfl ?_
    refine z_iconst C (z := 1) dL_law_196 ?_
    refine z_iadd C dL_law_197 ?_
    refine z_sldv C hX hbl hbA ez1 (by omega) (by omega) hN dL_law_198 ?_
    refine z_aload_n C dL_law_199 0 rfl ?_
    refine z_iload C dL_law_200 4 rfl ?_
    refine z_iconst C (z := 2) dL_law_202 ?_
    refine z_iadd C dL_law_203 ?_
    refine z_sldv C hX hbl hbA ez2 (by omega) (by omega) hN dL_law_204 ?_
    refine z_selz C (fun z => decide (¬ z = 0)) (by omega) (Or.inl ⟨rfl, rfl⟩) dL_law_205 dL_law_208 dL_law_209 dL_law_212 ?_
    show V k n (([(o, aJ (cy 2) 1 fo)] ++ (CW cy a kd co (se 0) (se 1) (se 2) (se 3) rw wo sa sz ps bt ou ((L.length : Nat) : Int) dm pl re cu)) ++ MW cy b kd co th rw sz ((L.length : Nat) : Int) ps dm sx aa dk fi bb cz hm se da sa2 bt2 oz) [(0, .ref scr), (1, .ref (a 0)), (2, .ref (b 0)), (3, .ref o), (4, vI i)] ([.ref (a 0), vI z1, vI (b2i (decide (¬ z2 = 0)))].reverse ++ []) 213
    refine z_callSWF C XL (X := [(o, aJ (cy 2) 1 fo)]) (W0 := CW cy a kd co (se 0) (se 1) (se 2) (se 3) rw wo sa sz ps bt ou ((L.length : Nat) : Int) dm pl re cu) (Y := MW cy b kd co th rw sz ((L.length : Nat) : Int) ps dm sx aa dk fi bb cz hm se da sa2 bt2 oz) (As := [.ref (a 0), vI z1, vI (b2i (decide (¬ z2 = 0)))]) (st := []) (c_L_settingX l hl9 D cy tw sr a kd co (se 0) (se 1) (se 2) (se 3) rw wo sa sz ps bt ou ((L.length : Nat) : Int) dm pl re cu z1 (decide (¬ z2 = 0)) (by omega) (by omega)) (goodIn_mo wsL_law_in gL_law_L_setting) kn_L_setting ⟨rfl, rfl, Nat.le_of_ble_eq_true rfl, Nat.le_of_ble_eq_true rfl⟩ rfl (Nat.le_of_ble_eq_true rfl) hk1 dL_law_213 (fun y_1 hy_1 => ?_)
    show V (k + 1) (n + 6) (([(o, aJ (cy 2) 1 fo)] ++ CW cy a kd co (se 0) (se 1) (se 2) (se 3) rw wo sa sz ps bt ou ((L.length : Nat) : Int) dm pl re cu) ++ MW cy b kd co th rw sz ((L.length : Nat) : Int) ps dm sx aa dk fi bb cz hm se da sa2 bt2 oz) [(0, .ref scr), (1, .ref (a 0)), (2, .ref (b 0)), (3, .ref o), (4, vI i)] [vI 1] 216
    refine z_istore C (lv' := [(5, vI 1), (0, .ref scr), (1, .ref (a 0)), (2, .ref (b 0)), (3, .ref o), (4, vI i)]) dL_law_216 (by decide) rfl ?_
    refine z_aload_n C dL_law_218 3 rfl ?_
    refine z_aload_n C dL_law_219 1 rfl ?_
    refine z_iload C dL_law_220 5 rfl ?_
    refine z_iconst C (z := 1) dL_law_222 ?_
    refine z_iadd C dL_law_223 ?_
    refine z_sldv C hX hbl hbA ez1 (by omega) (by omega) hN dL_law_224 ?_
    refine z_aload_n C dL_law_225 1 rfl ?_
    refine z_iload C dL_law_226 5 rfl ?_
    refine z_iconst C (z := 2) dL_law_228 ?_
    refine z_iadd C dL_law_229 ?_
    refine z_sldv C hX hbl hbA ez2 (by omega) (by omega) hN dL_law_230 ?_
    refine z_selz C (fun z => decide (¬ z = 0)) (by omega) (Or.inl ⟨rfl, rfl⟩) dL_law_231 dL_law_234 dL_law_235 dL_law_238 ?_
    show V (k + 1) (n + 6) (([(o, aJ (cy 2) 1 fo)] ++ CW cy a kd co (se 0) (se 1) (se 2) (se 3) rw wo sa sz ps bt ou ((L.length : Nat) : Int) dm pl re cu) ++ MW cy b kd co th rw sz ((L.length : Nat) : Int) ps dm sx aa dk fi bb cz hm se da sa2 bt2 oz) [(5, vI 1), (0, .ref scr), (1, .ref (a 0)), (2, .ref (b 0)), (3, .ref o), (4, vI i)] ([vI z1, vI (b2i (decide (¬ z2 = 0)))].reverse ++ .ref (b 0) :: []) 239
    refine z_callVE C (X := [(o, aJ (cy 2) 1 fo)] ++ CW cy a kd co (se 0) (se 1) (se 2) (se 3) rw wo sa sz ps bt ou ((L.length : Nat) : Int) dm pl re cu) (W0 := MW cy b kd co th rw sz ((L.length : Nat) : Int) ps dm sx aa dk fi bb cz hm se da sa2 bt2 oz) (As := [vI z1, vI (b2i (decide (¬ z2 = 0)))]) (st := []) (c_X8_setting l D cy tw b kd co th rw sz ((L.length : Nat) : Int) ps dm sx aa dk fi bb cz hm se da sa2 bt2 oz z1 (decide (¬ z2 = 0)) (by omega)) (goodIn_mo wsL_law_in gL_law_X8_setting) kn_X8_setting rfl ⟨rfl, rfl, Nat.le_of_ble_eq_true rfl, Nat.le_of_ble_eq_true rfl⟩ 0 rfl (ci := 10) rfl rfl (Nat.le_of_ble_eq_true rfl) hk2 dL_law_239 (fun y_2 hy_2 => ?_)
    show V (k + 1) (n + 6) (([(o, aJ (cy 2) 1 fo)] ++ CW cy a kd co (se 0) (se 1) (se 2) (se 3) rw wo sa sz ps bt ou ((L.length : Nat) : Int) dm pl re cu) ++ MW cy b kd co (if 0 ≤ z1 ∧ z1 ≤ 3 then 0 else 1) rw sz ((L.length : Nat) : Int) ps dm sx aa dk fi bb cz hm (if 0 ≤ z1 ∧ z1 ≤ 3 then va_up se (z1 : Int).toNat (decide (¬ z2 = 0)) else se) da sa2 bt2 oz) [(5, vI 1), (0, .ref scr), (1, .ref (a 0)), (2, .ref (b 0)), (3, .ref o), (4, vI i)] [] 242
    refine z_Wq (ws' := (([(o, aJ (cy 2) 1 fo)] ++ CW cy a kd co (se 0) (se 1) (se 2) (se 3) rw wo sa sz ps bt ou ((L.length : Nat) : Int) dm pl re cu) ++ MW cy b kd co 1 rw sz ((L.length : Nat) : Int) ps dm sx aa dk fi bb cz hm se da sa2 bt2 oz)) (by simp only [if_neg hin]) ?_
    show V (k + 1) (n + 6) (([(o, aJ (cy 2) 1 fo)] ++ CW cy a kd co (se 0) (se 1) (se 2) (se 3) rw wo sa sz ps bt ou ((L.length : Nat) : Int) dm pl re cu) ++ MW cy b kd co 1 rw sz ((L.length : Nat) : Int) ps dm sx aa dk fi bb cz hm se da sa2 bt2 oz) [(5, vI 1), (0, .ref scr), (1, .ref (a 0)), (2, .ref (b 0)), (3, .ref o), (4, vI i)] [] 242
    refine z_aload_n C dL_law_242 3 rfl ?_
    show V (k + 1) (n + 6) (([(o, aJ (cy 2) 1 fo)] ++ CW cy a kd co (se 0) (se 1) (se 2) (se 3) rw wo sa sz ps bt ou ((L.length : Nat) : Int) dm pl re cu) ++ MW cy b kd co 1 rw sz ((L.length : Nat) : Int) ps dm sx aa dk fi bb cz hm se da sa2 bt2 oz) [(5, vI 1), (0, .ref scr), (1, .ref (a 0)), (2, .ref (b 0)), (3, .ref o), (4, vI i)] ([].reverse ++ .ref (b 0) :: []) 243
    refine z_callVE C (X := [(o, aJ (cy 2) 1 fo)] ++ CW cy a kd co (se 0) (se 1) (se 2) (se 3) rw wo sa sz ps bt ou ((L.length : Nat) : Int) dm pl re cu) (W0 := MW cy b kd co 1 rw sz ((L.length : Nat) : Int) ps dm sx aa dk fi bb cz hm se da sa2 bt2 oz) (As := []) (st := []) (c_X8_thrown l D cy tw b kd co 1 rw sz ((L.length : Nat) : Int) ps dm sx aa dk fi bb cz hm se da sa2 bt2 oz  ) (goodIn_mo wsL_law_in gL_law_X8_thrown) kn_X8_thrown rfl ⟨rfl, rfl, Nat.le_of_ble_eq_true rfl, Nat.le_of_ble_eq_true rfl⟩ 0 rfl (ci := 10) rfl rfl (Nat.le_of_ble_eq_true rfl) hk2 dL_law_243 (fun y_3 hy_3 => ?_)
    show V (k + 1) (n + 6) (([(o, aJ (cy 2) 1 fo)] ++ CW cy a kd co (se 0) (se 1) (se 2) (se 3) rw wo sa sz ps bt ou ((L.length : Nat) : Int) dm pl re cu) ++ MW cy b kd co 1 rw sz ((L.length : Nat) : Int) ps dm sx aa dk fi bb cz hm se da sa2 bt2 oz) [(5, vI 1), (0, .ref scr), (1, .ref (a 0)), (2, .ref (b 0)), (3, .ref o), (4, vI i)] [vI 1] 246
    refine z_iload C dL_law_246 0 rfl ?_
    refine z_icmp_eq C (by decide) (by decide) (tgt := 253) dL_law_248 (by decide) (fun _ => ?_) (fun hc => absurd rfl hc)
    refine z_goto C (tgt := 949) dL_law_253 (by decide) ?_
    refine z_lsub C [1, 2, 3, 4, 5] rfl ?_
    exact KK _ _ _ _ _ _ _ _ _ _ _ _ _ _ _ _ _ _ _ _ _ _ _ _ _ _ _ _ _ _ _ _ (by omega) (by omega) (LI_mk ⟨hkd, hco⟩ (hrw) (hsz) (hps) (hdm) (⟨rfl, rfl, rfl, rfl⟩) (hPX) (hSA) (⟨hBT, hB2⟩) (⟨hOR, hOZ, h8, hLn⟩))
set_option maxHeartbeats 2000000 in
set_option maxRecDepth 100000 in
theorem lw_add {V : zV} {p : Program} {l : Launch} {e : Env} {s : State} {m : MethodId} {args : Array Value} {below : List Frame} {meth : Method} {c : Code} {D : va_G} {cy : Nat → ClassId} {tw sr : Nat → Nat} {A : Nat → Prop} {Q : State → Prop} {scr N : Nat} {zx : Nat → Int} (H : LC V p l e s m args below meth c D cy tw sr A Q scr N zx) (a b : Nat → Nat) (o : Nat) {k n : Nat} (hk : k + 1 ≤ 600384 ∧ n + 6 ≤ 7290968) {i : Int} (hi : 0 ≤ i ∧ i + 5 ≤ (N : Int)) {kd co : Int} (fo : Nat → BitVec 64) (mk al dz rd : Bool) (rw : Int) (wo : Nat → BitVec 64) (sa : Nat → Int) (sz ps : Int) (bt : Nat → Int) (ou : Nat → BitVec 64) (L : List Bool) (dm : Int) (pl : Bool) (re : Int) (cu : Bool) (th sx aa : Int) (dk fi : Bool) (bb cz : Int) (hm : Bool) (se da : Nat → Bool) (sa2 bt2 : Nat → Int) (oz : Nat → Bool) (hI : LI kd co mk al dz rd rw wo sa sz ps bt ou L dm se da sa2 bt2 oz) (KK : LKK V cy a b o scr i k n kd co) : V k n (([(o, aJ (cy 2) 1 fo)] ++ CW cy a kd co mk al dz rd rw wo sa sz ps bt ou ((L.length : Nat) : Int) dm pl re cu) ++ MW cy b kd co th rw sz ((L.length : Nat) : Int) ps dm sx aa dk fi bb cz hm se da sa2 bt2 oz) [(0, .ref scr), (1, .ref (a 0)), (2, .ref (b 0)), (3, .ref o), (4, vI i)] [] 256 := by
  obtain ⟨C, XL, hX, hbl, hbA, hN, hzx, hl9⟩ := H
  obtain ⟨⟨hkd, hco, hrw, hsz, hps, hdm⟩, ⟨rfl, rfl, rfl, rfl⟩, hPX, hSA, ⟨hBT, hB2⟩, hOR, hOZ, h8, hLn⟩ := hI
  have hk0 : k + 0 ≤ (room_1).cells ∧ n + 0 ≤ (room_1).slots := ⟨by show k ≤ 600384; omega, by show n ≤ 7290968; omega⟩
  have hk1 : k + 1 ≤ (room_1).cells ∧ n + 6 ≤ (room_1).slots := hk
  have hk2 : k + 1 + 0 ≤ (room_1).cells ∧ n + 6 + 0 ≤ (room_1).slots := hk
  have e8 : (((L.length : Nat) : Int) + 7) / 8 = ((L.length : Nat) : Int) / 8 := by omega
  obtain ⟨z1, ez1, hz1⟩ : ∃ z, zx (i + 1).toNat = z ∧ (-2147483648 ≤ z ∧ z < 2147483648) := ⟨_, rfl, hzx _⟩
  obtain ⟨z2, ez2, hz2⟩ : ∃ z, zx (i + 2).toNat = z ∧ (-2147483648 ≤ z ∧ z < 2147483648) := ⟨_, rfl, hzx _⟩
  obtain ⟨z3, ez3, hz3⟩ : ∃ z, zx (i + 3).toNat = z ∧ (-2147483648 ≤ z ∧ z < 2147483648) := ⟨_, rfl, hzx _⟩
  by_cases hg : decide (1 ≤ z3 ∧ z3 ≤ 8 ∧ sz + z3 ≤ 400) = true
  · have hp := of_decide_eq_true hg
    refine z_aload_n C dL_law_256 1 rfl ?_
    refine z_aload_n C dL_law_257 0 rfl ?_
    refine z_iload C dL_law_258 4 rfl ?_
    refine z_iconst C (z := 1) dL_law_260 ?_
    refine z_iadd C dL_law_261 ?_
    refine z_sldv C hX hbl hbA ez1 (by omega) (by omega) hN dL_law_262 ?_
    refine z_i2l C (by omega) dL_law_263 ?_
    refine z_bipush C (z := 32) dL_law_264 (by decide) ?_
    refine z_lshl C (y := 32) 32 (by decide) (by decide) dL_law_266 ?_
    refine z_aload_n C dL_law_267 0 rfl ?_
    refine z_iload C dL_law_268 4 rfl ?_
    refine z_iconst C (z := 2) dL_law_270 ?_
    refine z_iadd C dL_law_271 ?_
    refine z_sldv C hX hbl hbA ez2 (by omega) (by omega) hN dL_law_272 ?_
    refine z_i2l C (by omega) dL_law_273 ?_
    refine z_ldc2 C (w := 4294967295#64) ldL77 dL_law_274 ?_
    refine z_land C dL_law_277 ?_
    refine z_lor C dL_law_278 ?_
    refine z_aload_n C dL_law_279 0 rfl ?_
    refine z_iload C dL_law_280 4 rfl ?_
    refine z_iconst C (z := 3) dL_law_282 ?_
    refine z_iadd C dL_law_283 ?_
    refine z_sldv C hX hbl hbA ez3 (by omega) (by omega) hN dL_law_284 ?_
    show V k n (([(o, aJ (cy 2) 1 fo)] ++ CW cy a kd co (se 0) (se 1) (se 2) (se 3) rw wo sa sz ps bt ou ((L.length : Nat) : Int) dm pl re cu) ++ MW cy b kd co th rw sz ((L.length : Nat) : Int) ps dm sx aa dk fi bb cz hm se da sa2 bt2 oz) [(0, .ref scr), (1, .ref (a 0)), (2, .ref (b 0)), (3, .ref o), (4, vI i)] ([vJ (((BitVec.ofInt 64 z1) <<< 32) ||| ((BitVec.ofInt 64 z2) &&& (4294967295#64))), vI z3].reverse ++ .ref (a 0) :: []) 285
    refine z_callVF C (X := [(o, aJ (cy 2) 1 fo)]) (W0 := CW cy a kd co (se 0) (se 1) (se 2) (se 3) rw wo sa sz ps bt ou ((L.length : Nat) : Int) dm pl re cu) (Y := MW cy b kd co th rw sz ((L.length : Nat) : Int) ps dm sx aa dk fi bb cz hm se da sa2 bt2 oz) (As := [vJ (((BitVec.ofInt 64 z1) <<< 32) ||| ((BitVec.ofInt 64 z2) &&& (4294967295#64))), vI z3]) (st := []) (c_X7_add l D cy tw a kd co (se 0) (se 1) (se 2) (se 3) rw wo sa sz ps bt ou ((L.length : Nat) : Int) dm pl re cu (((BitVec.ofInt 64 z1) <<< 32) ||| ((BitVec.ofInt 64 z2) &&& (4294967295#64))) z3 (by omega) (by omega)) (goodIn_mo wsL_law_in gL_law_X7_add) kn_X7_add rfl ⟨rfl, rfl, Nat.le_of_ble_eq_true rfl, Nat.le_of_ble_eq_true rfl⟩ 0 rfl (ci := 9) rfl rfl (Nat.le_of_ble_eq_true rfl) hk0 dL_law_285 (fun y_1 hy_1 => ?_)
    show V k n (([(o, aJ (cy 2) 1 fo)] ++ CW cy a kd co (se 0) (se 1) (se 2) (se 3) rw wo sa (if decide (1 ≤ z3 ∧ z3 ≤ 8 ∧ sz + z3 ≤ 400) = true then sz + z3 else sz) ps (if decide (1 ≤ z3 ∧ z3 ≤ 8 ∧ sz + z3 ≤ 400) = true then apF bt sz (adG (((BitVec.ofInt 64 z1) <<< 32) ||| ((BitVec.ofInt 64 z2) &&& (4294967295#64)))) z3.toNat else bt) ou ((L.length : Nat) : Int) dm pl re cu) ++ MW cy b kd co th rw sz ((L.length : Nat) : Int) ps dm sx aa dk fi bb cz hm se da sa2 bt2 oz) [(0, .ref scr), (1, .ref (a 0)), (2, .ref (b 0)), (3, .ref o), (4, vI i)] [vI (b2i (decide (1 ≤ z3 ∧ z3 ≤ 8 ∧ sz + z3 ≤ 400)))] 288
    refine z_res (ws' := (([(o, aJ (cy 2) 1 fo)] ++ CW cy a kd co (se 0) (se 1) (se 2) (se 3) rw wo sa (sz + z3) ps (apF bt sz (adG (((BitVec.ofInt 64 z1) <<< 32) ||| ((BitVec.ofInt 64 z2) &&& (4294967295#64)))) z3.toNat) ou ((L.length : Nat) : Int) dm pl re cu) ++ MW cy b kd co th rw sz ((L.length : Nat) : Int) ps dm sx aa dk fi bb cz hm se da sa2 bt2 oz)) (y := b2i (decide (1 ≤ z3 ∧ z3 ≤ 8 ∧ sz + z3 ≤ 400))) (by rw [if_pos hg, if_pos hg]) (rfl) ?_
    show V k n (([(o, aJ (cy 2) 1 fo)] ++ CW cy a kd co (se 0) (se 1) (se 2) (se 3) rw wo sa (sz + z3) ps (apF bt sz (adG (((BitVec.ofInt 64 z1) <<< 32) ||| ((BitVec.ofInt 64 z2) &&& (4294967295#64)))) z3.toNat) ou ((L.length : Nat) : Int) dm pl re cu) ++ MW cy b kd co th rw sz ((L.length : Nat) : Int) ps dm sx aa dk fi bb cz hm se da sa2 bt2 oz) [(0, .ref scr), (1, .ref (a 0)), (2, .ref (b 0)), (3, .ref o), (4, vI i)] [vI (b2i (decide (1 ≤ z3 ∧ z3 ≤ 8 ∧ sz + z3 ≤ 400)))] 288
    refine z_aload_n C dL_law_288 2 rfl ?_
    refine z_aload_n C dL_law_289 0 rfl ?_
    refine z_iload C dL_law_290 4 rfl ?_
    refine z_iconst C (z := 1) dL_law_292 ?_
    refine z_iadd C dL_law_293 ?_
    refine z_sldv C hX hbl hbA ez1 (by omega) (by omega) hN dL_law_294 ?_
    refine z_i2l C (by omega) dL_law_295 ?_
    refine z_bipush C (z := 32) dL_law_296 (by decide) ?_
    refine z_lshl C (y := 32) 32 (by decide) (by decide) dL_law_298 ?_
    refine z_aload_n C dL_law_299 0 rfl ?_
    refine z_iload C dL_law_300 4 rfl ?_
    refine z_iconst C (z := 2) dL_law_302 ?_
    refine z_iadd C dL_law_303 ?_
    refine z_sldv C hX hbl hbA ez2 (by omega) (by omega) hN dL_law_304 ?_
    refine z_i2l C (by omega) dL_law_305 ?_
    refine z_ldc2 C (w := 4294967295#64) ldL77 dL_law_306 ?_
    refine z_land C dL_law_309 ?_
    refine z_lor C dL_law_310 ?_
    refine z_aload_n C dL_law_311 0 rfl ?_
    refine z_iload C dL_law_312 4 rfl ?_
    refine z_iconst C (z := 3) dL_law_314 ?_
    refine z_iadd C dL_law_315 ?_
    refine z_sldv C hX hbl hbA ez3 (by omega) (by omega) hN dL_law_316 ?_
    show V k n (([(o, aJ (cy 2) 1 fo)] ++ CW cy a kd co (se 0) (se 1) (se 2) (se 3) rw wo sa (sz + z3) ps (apF bt sz (adG (((BitVec.ofInt 64 z1) <<< 32) ||| ((BitVec.ofInt 64 z2) &&& (4294967295#64)))) z3.toNat) ou ((L.length : Nat) : Int) dm pl re cu) ++ MW cy b kd co th rw sz ((L.length : Nat) : Int) ps dm sx aa dk fi bb cz hm se da sa2 bt2 oz) [(0, .ref scr), (1, .ref (a 0)), (2, .ref (b 0)), (3, .ref o), (4, vI i)] ([vJ (((BitVec.ofInt 64 z1) <<< 32) ||| ((BitVec.ofInt 64 z2) &&& (4294967295#64))), vI z3].reverse ++ .ref (b 0) :: [vI (b2i (decide (1 ≤ z3 ∧ z3 ≤ 8 ∧ sz + z3 ≤ 400)))]) 317
    refine z_callVE C (X := [(o, aJ (cy 2) 1 fo)] ++ CW cy a kd co (se 0) (se 1) (se 2) (se 3) rw wo sa (sz + z3) ps (apF bt sz (adG (((BitVec.ofInt 64 z1) <<< 32) ||| ((BitVec.ofInt 64 z2) &&& (4294967295#64)))) z3.toNat) ou ((L.length : Nat) : Int) dm pl re cu) (W0 := MW cy b kd co th rw sz ((L.length : Nat) : Int) ps dm sx aa dk fi bb cz hm se da sa2 bt2 oz) (As := [vJ (((BitVec.ofInt 64 z1) <<< 32) ||| ((BitVec.ofInt 64 z2) &&& (4294967295#64))), vI z3]) (st := [vI (b2i (decide (1 ≤ z3 ∧ z3 ≤ 8 ∧ sz + z3 ≤ 400)))]) (c_X8_add l D cy tw b kd co th rw sz ((L.length : Nat) : Int) ps dm sx aa dk fi bb cz hm se da sa2 bt2 oz (((BitVec.ofInt 64 z1) <<< 32) ||| ((BitVec.ofInt 64 z2) &&& (4294967295#64))) z3 (by omega) (by omega)) (goodIn_mo wsL_law_in gL_law_X8_add) kn_X8_add rfl ⟨rfl, rfl, Nat.le_of_ble_eq_true rfl, Nat.le_of_ble_eq_true rfl⟩ 0 rfl (ci := 10) rfl rfl (Nat.le_of_ble_eq_true rfl) hk0 dL_law_317 (fun y_2 hy_2 => ?_)
    show V k n (([(o, aJ (cy 2) 1 fo)] ++ CW cy a kd co (se 0) (se 1) (se 2) (se 3) rw wo sa (sz + z3) ps (apF bt sz (adG (((BitVec.ofInt 64 z1) <<< 32) ||| ((BitVec.ofInt 64 z2) &&& (4294967295#64)))) z3.toNat) ou ((L.length : Nat) : Int) dm pl re cu) ++ MW cy b kd co 0 rw (if decide (1 ≤ z3 ∧ z3 ≤ 8 ∧ sz + z3 ≤ 400) = true then sz + z3 else sz) ((L.length : Nat) : Int) ps dm sx aa dk fi bb cz hm se da sa2 (if decide (1 ≤ z3 ∧ z3 ≤ 8 ∧ sz + z3 ≤ 400) = true then apM bt2 sz (adM (((BitVec.ofInt 64 z1) <<< 32) ||| ((BitVec.ofInt 64 z2) &&& (4294967295#64)))) z3.toNat else bt2) oz) [(0, .ref scr), (1, .ref (a 0)), (2, .ref (b 0)), (3, .ref o), (4, vI i)] [vI (b2i (decide (1 ≤ z3 ∧ z3 ≤ 8 ∧ sz + z3 ≤ 400))), vI (b2i (decide (1 ≤ z3 ∧ z3 ≤ 8 ∧ sz + z3 ≤ 400)))] 320
    refine z_res (ws' := (([(o, aJ (cy 2) 1 fo)] ++ CW cy a kd co (se 0) (se 1) (se 2) (se 3) rw wo sa (sz + z3) ps (apF bt sz (adG (((BitVec.ofInt 64 z1) <<< 32) ||| ((BitVec.ofInt 64 z2) &&& (4294967295#64)))) z3.toNat) ou ((L.length : Nat) : Int) dm pl re cu) ++ MW cy b kd co 0 rw (sz + z3) ((L.length : Nat) : Int) ps dm sx aa dk fi bb cz hm se da sa2 (apM bt2 sz (adM (((BitVec.ofInt 64 z1) <<< 32) ||| ((BitVec.ofInt 64 z2) &&& (4294967295#64)))) z3.toNat) oz)) (y := b2i (decide (1 ≤ z3 ∧ z3 ≤ 8 ∧ sz + z3 ≤ 400))) (by rw [if_pos hg, if_pos hg]) (rfl) ?_
    show V k n (([(o, aJ (cy 2) 1 fo)] ++ CW cy a kd co (se 0) (se 1) (se 2) (se 3) rw wo sa (sz + z3) ps (apF bt sz (adG (((BitVec.ofInt 64 z1) <<< 32) ||| ((BitVec.ofInt 64 z2) &&& (4294967295#64)))) z3.toNat) ou ((L.length : Nat) : Int) dm pl re cu) ++ MW cy b kd co 0 rw (sz + z3) ((L.length : Nat) : Int) ps dm sx aa dk fi bb cz hm se da sa2 (apM bt2 sz (adM (((BitVec.ofInt 64 z1) <<< 32) ||| ((BitVec.ofInt 64 z2) &&& (4294967295#64)))) z3.toNat) oz) [(0, .ref scr), (1, .ref (a 0)), (2, .ref (b 0)), (3, .ref o), (4, vI i)] [vI (b2i (decide (1 ≤ z3 ∧ z3 ≤ 8 ∧ sz + z3 ≤ 400))), vI (b2i (decide (1 ≤ z3 ∧ z3 ≤ 8 ∧ sz + z3 ≤ 400)))] 320
    refine z_icmp_eq C (b2i_R _) (b2i_R _) (tgt := 949) dL_law_320 (by decide) (fun _ => ?_) (fun hc => absurd rfl hc)
    exact KK _ _ _ _ _ _ _ _ _ _ _ _ _ _ _ _ _ _ _ _ _ _ _ _ _ _ _ _ _ _ _ _ (by omega) (by omega) (LI_mk ⟨hkd, hco⟩ (hrw) (by omega) (hps) (hdm) (⟨rfl, rfl, rfl, rfl⟩) (hPX) (hSA) (⟨fun i hi => ap_link hsz.1 z3.toNat hBT (fun i hi => by rw [ad_link _ (by omega)]) i (by omega), apM_rg hB2 z3.toNat (fun i hi => by rw [ad_link _ (by omega)]; exact adG_rg _ i)⟩) (⟨hOR, hOZ, h8, hLn⟩))
  · refine z_aload_n C dL_law_256 1 rfl ?_
    refine z_aload_n C dL_law_257 0 rfl ?_
    refine z_iload C dL_law_258 4 rfl ?_
    refine z_iconst C (z := 1) dL_law_260 ?_
    refine z_iadd C dL_law_261 ?_
    refine z_sldv C hX hbl hbA ez1 (by omega) (by omega) hN dL_law_262 ?_
    refine z_i2l C (by omega) dL_law_263 ?_
    refine z_bipush C (z := 32) dL_law_264 (by decide) ?_
    refine z_lshl C (y := 32) 32 (by decide) (by decide) dL_law_266 ?_
    refine z_aload_n C dL_law_267 0 rfl ?_
    refine z_iload C dL_law_268 4 rfl ?_
    refine z_iconst C (z := 2) dL_law_270 ?_
    refine z_iadd C dL_law_271 ?_
    refine z_sldv C hX hbl hbA ez2 (by omega) (by omega) hN dL_law_272 ?_
    refine z_i2l C (by omega) dL_law_273 ?_
    refine z_ldc2 C (w := 4294967295#64) ldL77 dL_law_274 ?_
    refine z_land C dL_law_277 ?_
    refine z_lor C dL_law_278 ?_
    refine z_aload_n C dL_law_279 0 rfl ?_
    refine z_iload C dL_law_280 4 rfl ?_
    refine z_iconst C (z := 3) dL_law_282 ?_
    refine z_iadd C dL_law_283 ?_
    refine z_sldv C hX hbl hbA ez3 (by omega) (by omega) hN dL_law_284 ?_
    show V k n (([(o, aJ (cy 2) 1 fo)] ++ CW cy a kd co (se 0) (se 1) (se 2) (se 3) rw wo sa sz ps bt ou ((L.length : Nat) : Int) dm pl re cu) ++ MW cy b kd co th rw sz ((L.length : Nat) : Int) ps dm sx aa dk fi bb cz hm se da sa2 bt2 oz) [(0, .ref scr), (1, .ref (a 0)), (2, .ref (b 0)), (3, .ref o), (4, vI i)] ([vJ (((BitVec.ofInt 64 z1) <<< 32) ||| ((BitVec.ofInt 64 z2) &&& (4294967295#64))), vI z3].reverse ++ .ref (a 0) :: []) 285
    refine z_callVF C (X := [(o, aJ (cy 2) 1 fo)]) (W0 := CW cy a kd co (se 0) (se 1) (se 2) (se 3) rw wo sa sz ps bt ou ((L.length : Nat) : Int) dm pl re cu) (Y := MW cy b kd co th rw sz ((L.length : Nat) : Int) ps dm sx aa dk fi bb cz hm se da sa2 bt2 oz) (As := [vJ (((BitVec.ofInt 64 z1) <<< 32) ||| ((BitVec.ofInt 64 z2) &&& (4294967295#64))), vI z3]) (st := []) (c_X7_add l D cy tw a kd co (se 0) (se 1) (se 2) (se 3) rw wo sa sz ps bt ou ((L.length : Nat) : Int) dm pl re cu (((BitVec.ofInt 64 z1) <<< 32) ||| ((BitVec.ofInt 64 z2) &&& (4294967295#64))) z3 (by omega) (by omega)) (goodIn_mo wsL_law_in gL_law_X7_add) kn_X7_add rfl ⟨rfl, rfl, Nat.le_of_ble_eq_true rfl, Nat.le_of_ble_eq_true rfl⟩ 0 rfl (ci := 9) rfl rfl (Nat.le_of_ble_eq_true rfl) hk0 dL_law_285 (fun y_1 hy_1 => ?_)
    show V k n (([(o, aJ (cy 2) 1 fo)] ++ CW cy a kd co (se 0) (se 1) (se 2) (se 3) rw wo sa (if decide (1 ≤ z3 ∧ z3 ≤ 8 ∧ sz + z3 ≤ 400) = true then sz + z3 else sz) ps (if decide (1 ≤ z3 ∧ z3 ≤ 8 ∧ sz + z3 ≤ 400) = true then apF bt sz (adG (((BitVec.ofInt 64 z1) <<< 32) ||| ((BitVec.ofInt 64 z2) &&& (4294967295#64)))) z3.toNat else bt) ou ((L.length : Nat) : Int) dm pl re cu) ++ MW cy b kd co th rw sz ((L.length : Nat) : Int) ps dm sx aa dk fi bb cz hm se da sa2 bt2 oz) [(0, .ref scr), (1, .ref (a 0)), (2, .ref (b 0)), (3, .ref o), (4, vI i)] [vI (b2i (decide (1 ≤ z3 ∧ z3 ≤ 8 ∧ sz + z3 ≤ 400)))] 288
    refine z_res (ws' := (([(o, aJ (cy 2) 1 fo)] ++ CW cy a kd co (se 0) (se 1) (se 2) (se 3) rw wo sa sz ps bt ou ((L.length : Nat) : Int) dm pl re cu) ++ MW cy b kd co th rw sz ((L.length : Nat) : Int) ps dm sx aa dk fi bb cz hm se da sa2 bt2 oz)) (y := b2i (decide (1 ≤ z3 ∧ z3 ≤ 8 ∧ sz + z3 ≤ 400))) (by rw [if_neg hg, if_neg hg]) (rfl) ?_
    show V k n (([(o, aJ (cy 2) 1 fo)] ++ CW cy a kd co (se 0) (se 1) (se 2) (se 3) rw wo sa sz ps bt ou ((L.length : Nat) : Int) dm pl re cu) ++ MW cy b kd co th rw sz ((L.length : Nat) : Int) ps dm sx aa dk fi bb cz hm se da sa2 bt2 oz) [(0, .ref scr), (1, .ref (a 0)), (2, .ref (b 0)), (3, .ref o), (4, vI i)] [vI (b2i (decide (1 ≤ z3 ∧ z3 ≤ 8 ∧ sz + z3 ≤ 400)))] 288
    refine z_aload_n C dL_law_288 2 rfl ?_
    refine z_aload_n C dL_law_289 0 rfl ?_
    refine z_iload C dL_law_290 4 rfl ?_
    refine z_iconst C (z := 1) dL_law_292 ?_
    refine z_iadd C dL_law_293 ?_
    refine z_sldv C hX hbl hbA ez1 (by omega) (by omega) hN dL_law_294 ?_
    refine z_i2l C (by omega) dL_law_295 ?_
    refine z_bipush C (z := 32) dL_law_296 (by decide) ?_
    refine z_lshl C (y := 32) 32 (by decide) (by decide) dL_law_298 ?_
    refine z_aload_n C dL_law_299 0 rfl ?_
    refine z_iload C dL_law_300 4 rfl ?_
    refine z_iconst C (z := 2) dL_law_302 ?_
    refine z_iadd C dL_law_303 ?_
    refine z_sldv C hX hbl hbA ez2 (by omega) (by omega) hN dL_law_304 ?_
    refine z_i2l C (by omega) dL_law_305 ?_
    refine z_ldc2 C (w := 4294967295#64) ldL77 dL_law_306 ?_
    refine z_land C dL_law_309 ?_
    refine z_lor C dL_law_310 ?_
    refine z_aload_n C dL_law_311 0 rfl ?_
    refine z_iload C dL_law_312 4 rfl ?_
    refine z_iconst C (z := 3) dL_law_314 ?_
    refine z_iadd C dL_law_315 ?_
    refine z_sldv C hX hbl hbA ez3 (by omega) (by omega) hN dL_law_316 ?_
    show V k n (([(o, aJ (cy 2) 1 fo)] ++ CW cy a kd co (se 0) (se 1) (se 2) (se 3) rw wo sa sz ps bt ou ((L.length : Nat) : Int) dm pl re cu) ++ MW cy b kd co th rw sz ((L.length : Nat) : Int) ps dm sx aa dk fi bb cz hm se da sa2 bt2 oz) [(0, .ref scr), (1, .ref (a 0)), (2, .ref (b 0)), (3, .ref o), (4, vI i)] ([vJ (((BitVec.ofInt 64 z1) <<< 32) ||| ((BitVec.ofInt 64 z2) &&& (4294967295#64))), vI z3].reverse ++ .ref (b 0) :: [vI (b2i (decide (1 ≤ z3 ∧ z3 ≤ 8 ∧ sz + z3 ≤ 400)))]) 317
    refine z_callVE C (X := [(o, aJ (cy 2) 1 fo)] ++ CW cy a kd co (se 0) (se 1) (se 2) (se 3) rw wo sa sz ps bt ou ((L.length : Nat) : Int) dm pl re cu) (W0 := MW cy b kd co th rw sz ((L.length : Nat) : Int) ps dm sx aa dk fi bb cz hm se da sa2 bt2 oz) (As := [vJ (((BitVec.ofInt 64 z1) <<< 32) ||| ((BitVec.ofInt 64 z2) &&& (4294967295#64))), vI z3]) (st := [vI (b2i (decide (1 ≤ z3 ∧ z3 ≤ 8 ∧ sz + z3 ≤ 400)))]) (c_X8_add l D cy tw b kd co th rw sz ((L.length : Nat) : Int) ps dm sx aa dk fi bb cz hm se da sa2 bt2 oz (((BitVec.ofInt 64 z1) <<< 32) ||| ((BitVec.ofInt 64 z2) &&& (4294967295#64))) z3 (by omega) (by omega)) (goodIn_mo wsL_law_in gL_law_X8_add) kn_X8_add rfl ⟨rfl, rfl, Nat.le_of_ble_eq_true rfl, Nat.le_of_ble_eq_true rfl⟩ 0 rfl (ci := 10) rfl rfl (Nat.le_of_ble_eq_true rfl) hk0 dL_law_317 (fun y_2 hy_2 => ?_)
    show V k n (([(o, aJ (cy 2) 1 fo)] ++ CW cy a kd co (se 0) (se 1) (se 2) (se 3) rw wo sa sz ps bt ou ((L.length : Nat) : Int) dm pl re cu) ++ MW cy b kd co 0 rw (if decide (1 ≤ z3 ∧ z3 ≤ 8 ∧ sz + z3 ≤ 400) = true then sz + z3 else sz) ((L.length : Nat) : Int) ps dm sx aa dk fi bb cz hm se da sa2 (if decide (1 ≤ z3 ∧ z3 ≤ 8 ∧ sz + z3 ≤ 400) = true then apM bt2 sz (adM (((BitVec.ofInt 64 z1) <<< 32) ||| ((BitVec.ofInt 64 z2) &&& (4294967295#64)))) z3.toNat else bt2) oz) [(0, .ref scr), (1, .ref (a 0)), (2, .ref (b 0)), (3, .ref o), (4, vI i)] [vI (b2i (decide (1 ≤ z3 ∧ z3 ≤ 8 ∧ sz + z3 ≤ 400))), vI (b2i (decide (1 ≤ z3 ∧ z3 ≤ 8 ∧ sz + z3 ≤ 400)))] 320
    refine z_res (ws' := (([(o, aJ (cy 2) 1 fo)] ++ CW cy a kd co (se 0) (se 1) (se 2) (se 3) rw wo sa sz ps bt ou ((L.length : Nat) : Int) dm pl re cu) ++ MW cy b kd co 0 rw sz ((L.length : Nat) : Int) ps dm sx aa dk fi bb cz hm se da sa2 bt2 oz)) (y := b2i (decide (1 ≤ z3 ∧ z3 ≤ 8 ∧ sz + z3 ≤ 400))) (by rw [if_neg hg, if_neg hg]) (rfl) ?_
    show V k n (([(o, aJ (cy 2) 1 fo)] ++ CW cy a kd co (se 0) (se 1) (se 2) (se 3) rw wo sa sz ps bt ou ((L.length : Nat) : Int) dm pl re cu) ++ MW cy b kd co 0 rw sz ((L.length : Nat) : Int) ps dm sx aa dk fi bb cz hm se da sa2 bt2 oz) [(0, .ref scr), (1, .ref (a 0)), (2, .ref (b 0)), (3, .ref o), (4, vI i)] [vI (b2i (decide (1 ≤ z3 ∧ z3 ≤ 8 ∧ sz + z3 ≤ 400))), vI (b2i (decide (1 ≤ z3 ∧ z3 ≤ 8 ∧ sz + z3 ≤ 400)))] 320
    refine z_icmp_eq C (b2i_R _) (b2i_R _) (tgt := 949) dL_law_320 (by decide) (fun _ => ?_) (fun hc => absurd rfl hc)
    exact KK _ _ _ _ _ _ _ _ _ _ _ _ _ _ _ _ _ _ _ _ _ _ _ _ _ _ _ _ _ _ _ _ (by omega) (by omega) (LI_mk ⟨hkd, hco⟩ (hrw) (hsz) (hps) (hdm) (⟨rfl, rfl, rfl, rfl⟩) (hPX) (hSA) (⟨hBT, hB2⟩) (⟨hOR, hOZ, h8, hLn⟩))
set_option maxHeartbeats 2000000 in
set_option maxRecDepth 100000 in
theorem lw_take {V : zV} {p : Program} {l : Launch} {e : Env} {s : State} {m : MethodId} {args : Array Value} {below : List Frame} {meth : Method} {c : Code} {D : va_G} {cy : Nat → ClassId} {tw sr : Nat → Nat} {A : Nat → Prop} {Q : State → Prop} {scr N : Nat} {zx : Nat → Int} (H : LC V p l e s m args below meth c D cy tw sr A Q scr N zx) (a b : Nat → Nat) (o : Nat) {k n : Nat} (hk : k + 1 ≤ 600384 ∧ n + 6 ≤ 7290968) {i : Int} (hi : 0 ≤ i ∧ i + 5 ≤ (N : Int)) {kd co : Int} (fo : Nat → BitVec 64) (mk al dz rd : Bool) (rw : Int) (wo : Nat → BitVec 64) (sa : Nat → Int) (sz ps : Int) (bt : Nat → Int) (ou : Nat → BitVec 64) (L : List Bool) (dm : Int) (pl : Bool) (re : Int) (cu : Bool) (th sx aa : Int) (dk fi : Bool) (bb cz : Int) (hm : Bool) (se da : Nat → Bool) (sa2 bt2 : Nat → Int) (oz : Nat → Bool) (hI : LI kd co mk al dz rd rw wo sa sz ps bt ou L dm se da sa2 bt2 oz) (KK : LKK V cy a b o scr i k n kd co) : V k n (([(o, aJ (cy 2) 1 fo)] ++ CW cy a kd co mk al dz rd rw wo sa sz ps bt ou ((L.length : Nat) : Int) dm pl re cu) ++ MW cy b kd co th rw sz ((L.length : Nat) : Int) ps dm sx aa dk fi bb cz hm se da sa2 bt2 oz) [(0, .ref scr), (1, .ref (a 0)), (2, .ref (b 0)), (3, .ref o), (4, vI i)] [] 325 := by
  obtain ⟨C, XL, hX, hbl, hbA, hN, hzx, hl9⟩ := H
  obtain ⟨⟨hkd, hco, hrw, hsz, hps, hdm⟩, ⟨rfl, rfl, rfl, rfl⟩, hPX, hSA, ⟨hBT, hB2⟩, hOR, hOZ, h8, hLn⟩ := hI
  have hk0 : k + 0 ≤ (room_1).cells ∧ n + 0 ≤ (room_1).slots := ⟨by show k ≤ 600384; omega, by show n ≤ 7290968; omega⟩
  have hk1 : k + 1 ≤ (room_1).cells ∧ n + 6 ≤ (room_1).slots := hk
  have hk2 : k + 1 + 0 ≤ (room_1).cells ∧ n + 6 + 0 ≤ (room_1).slots := hk
  have e8 : (((L.length : Nat) : Int) + 7) / 8 = ((L.length : Nat) : Int) / 8 := by omega
  have hmn := mn_rg (a := 400) (b := ((L.length : Nat) : Int) / 8) (x := 0) (by decide) (by omega)
  refine z_aload_n C dL_law_325 1 rfl ?_
  show V k n (([(o, aJ (cy 2) 1 fo)] ++ CW cy a kd co (se 0) (se 1) (se 2) (se 3) rw wo sa sz ps bt ou ((L.length : Nat) : Int) dm pl re cu) ++ MW cy b kd co th rw sz ((L.length : Nat) : Int) ps dm sx aa dk fi bb cz hm se da sa2 bt2 oz) [(0, .ref scr), (1, .ref (a 0)), (2, .ref (b 0)), (3, .ref o), (4, vI i)] ([].reverse ++ .ref (a 0) :: []) 326
  refine z_callVF C (X := [(o, aJ (cy 2) 1 fo)]) (W0 := CW cy a kd co (se 0) (se 1) (se 2) (se 3) rw wo sa sz ps bt ou ((L.length : Nat) : Int) dm pl re cu) (Y := MW cy b kd co th rw sz ((L.length : Nat) : Int) ps dm sx aa dk fi bb cz hm se da sa2 bt2 oz) (As := []) (st := []) (c_X7_takeW l D cy tw a kd co (se 0) (se 1) (se 2) (se 3) rw wo sa sz ps bt ou ((L.length : Nat) : Int) dm pl re cu  (by omega) (by omega)) (goodIn_mo wsL_law_in gL_law_X7_take) kn_X7_take rfl ⟨rfl, rfl, Nat.le_of_ble_eq_true rfl, Nat.le_of_ble_eq_true rfl⟩ 0 rfl (ci := 9) rfl rfl (Nat.le_of_ble_eq_true rfl) hk0 dL_law_326 (fun y_1 hy_1 => ?_)
  show V k n (([(o, aJ (cy 2) 1 fo)] ++ CW cy a kd co (se 0) (se 1) (se 2) (se 3) rw wo sa (mn 400 ((((L.length : Nat) : Int) + 7) / 8)) ps (apF bt 0 (fun i => obC ou co (i : Nat)) (mn 400 ((((L.length : Nat) : Int) + 7) / 8)).toNat) ou ((L.length : Nat) : Int) dm pl re cu) ++ MW cy b kd co th rw sz ((L.length : Nat) : Int) ps dm sx aa dk fi bb cz hm se da sa2 bt2 oz) [(0, .ref scr), (1, .ref (a 0)), (2, .ref (b 0)), (3, .ref o), (4, vI i)] [vI (mn 400 ((((L.length : Nat) : Int) + 7) / 8))] 329
  refine z_res (ws' := (([(o, aJ (cy 2) 1 fo)] ++ CW cy a kd co (se 0) (se 1) (se 2) (se 3) rw wo sa (mn 400 (((L.length : Nat) : Int) / 8)) ps (apF bt 0 (fun i => obC ou co (i : Nat)) (mn 400 (((L.length : Nat) : Int) / 8)).toNat) ou ((L.length : Nat) : Int) dm pl re cu) ++ MW cy b kd co th rw sz ((L.length : Nat) : Int) ps dm sx aa dk fi bb cz hm se da sa2 bt2 oz)) (y := (mn 400 (((L.length : Nat) : Int) / 8))) (by rw [e8]) (by rw [e8]) ?_
  show V k n (([(o, aJ (cy 2) 1 fo)] ++ CW cy a kd co (se 0) (se 1) (se 2) (se 3) rw wo sa (mn 400 (((L.length : Nat) : Int) / 8)) ps (apF bt 0 (fun i => obC ou co (i : Nat)) (mn 400 (((L.length : Nat) : Int) / 8)).toNat) ou ((L.length : Nat) : Int) dm pl re cu) ++ MW cy b kd co th rw sz ((L.length : Nat) : Int) ps dm sx aa dk fi bb cz hm se da sa2 bt2 oz) [(0, .ref scr), (1, .ref (a 0)), (2, .ref (b 0)), (3, .ref o), (4, vI i)] [vI (mn 400 (((L.length : Nat) : Int) / 8))] 329
  refine z_aload_n C dL_law_329 2 rfl ?_
  show V k n (([(o, aJ (cy 2) 1 fo)] ++ CW cy a kd co (se 0) (se 1) (se 2) (se 3) rw wo sa (mn 400 (((L.length : Nat) : Int) / 8)) ps (apF bt 0 (fun i => obC ou co (i : Nat)) (mn 400 (((L.length : Nat) : Int) / 8)).toNat) ou ((L.length : Nat) : Int) dm pl re cu) ++ MW cy b kd co th rw sz ((L.length : Nat) : Int) ps dm sx aa dk fi bb cz hm se da sa2 bt2 oz) [(0, .ref scr), (1, .ref (a 0)), (2, .ref (b 0)), (3, .ref o), (4, vI i)] ([].reverse ++ .ref (b 0) :: [vI (mn 400 (((L.length : Nat) : Int) / 8))]) 330
  refine z_callVE C (X := [(o, aJ (cy 2) 1 fo)] ++ CW cy a kd co (se 0) (se 1) (se 2) (se 3) rw wo sa (mn 400 (((L.length : Nat) : Int) / 8)) ps (apF bt 0 (fun i => obC ou co (i : Nat)) (mn 400 (((L.length : Nat) : Int) / 8)).toNat) ou ((L.length : Nat) : Int) dm pl re cu) (W0 := MW cy b kd co th rw sz ((L.length : Nat) : Int) ps dm sx aa dk fi bb cz hm se da sa2 bt2 oz) (As := []) (st := [vI (mn 400 (((L.length : Nat) : Int) / 8))]) (c_X8_take l D cy tw b kd co th rw sz ((L.length : Nat) : Int) ps dm sx aa dk fi bb cz hm se da sa2 bt2 oz  (by omega)) (goodIn_mo wsL_law_in gL_law_X8_take) kn_X8_take rfl ⟨rfl, rfl, Nat.le_of_ble_eq_true rfl, Nat.le_of_ble_eq_true rfl⟩ 0 rfl (ci := 10) rfl rfl (Nat.le_of_ble_eq_true rfl) hk0 dL_law_330 (fun y_2 hy_2 => ?_)
  show V k n (([(o, aJ (cy 2) 1 fo)] ++ CW cy a kd co (se 0) (se 1) (se 2) (se 3) rw wo sa (mn 400 (((L.length : Nat) : Int) / 8)) ps (apF bt 0 (fun i => obC ou co (i : Nat)) (mn 400 (((L.length : Nat) : Int) / 8)).toNat) ou ((L.length : Nat) : Int) dm pl re cu) ++ MW cy b kd co 0 rw (mn 400 (((L.length : Nat) : Int) / 8)) ((L.length : Nat) : Int) ps dm sx aa dk fi bb cz hm se da sa2 (apM bt2 0 (fun i => byN oz (i : Nat) 8) (mn 400 (((L.length : Nat) : Int) / 8)).toNat) oz) [(0, .ref scr), (1, .ref (a 0)), (2, .ref (b 0)), (3, .ref o), (4, vI i)] [vI (mn 400 (((L.length : Nat) : Int) / 8)), vI (mn 400 (((L.length : Nat) : Int) / 8))] 333
  refine z_icmp_eq C (by omega) (by omega) (tgt := 949) dL_law_333 (by decide) (fun _ => ?_) (fun hc => absurd rfl hc)
  exact KK _ _ _ _ _ _ _ _ _ _ _ _ _ _ _ _ _ _ _ _ _ _ _ _ _ _ _ _ _ _ _ _ (by omega) (by omega) (LI_mk ⟨hkd, hco⟩ (hrw) (by omega) (hps) (hdm) (⟨rfl, rfl, rfl, rfl⟩) (hPX) (hSA) (⟨fun i hi => ap_link (Int.le_refl 0) (mn 400 (((L.length : Nat) : Int) / 8)).toNat (fun i hi => absurd hi (by omega)) (fun i hi => by show obC ou co (i : Int) % 256 = byN oz (i : Int) 8 % 256; rw [byte_link hOR hOZ (by omega) (by omega) (by have := on_eq hco.1; omega)]) i (by omega), apM_rg hB2 _ (fun i hi => by show 0 ≤ byN oz (i : Int) 8 ∧ byN oz (i : Int) 8 < 256; have := byN_rg oz (i : Int) 8; omega)⟩) (⟨hOR, hOZ, h8, hLn⟩))
set_option maxHeartbeats 2000000 in
set_option maxRecDepth 100000 in
theorem lw_drop {V : zV} {p : Program} {l : Launch} {e : Env} {s : State} {m : MethodId} {args : Array Value} {below : List Frame} {meth : Method} {c : Code} {D : va_G} {cy : Nat → ClassId} {tw sr : Nat → Nat} {A : Nat → Prop} {Q : State → Prop} {scr N : Nat} {zx : Nat → Int} (H : LC V p l e s m args below meth c D cy tw sr A Q scr N zx) (a b : Nat → Nat) (o : Nat) {k n : Nat} (hk : k + 1 ≤ 600384 ∧ n + 6 ≤ 7290968) {i : Int} (hi : 0 ≤ i ∧ i + 5 ≤ (N : Int)) {kd co : Int} (fo : Nat → BitVec 64) (mk al dz rd : Bool) (rw : Int) (wo : Nat → BitVec 64) (sa : Nat → Int) (sz ps : Int) (bt : Nat → Int) (ou : Nat → BitVec 64) (L : List Bool) (dm : Int) (pl : Bool) (re : Int) (cu : Bool) (th sx aa : Int) (dk fi : Bool) (bb cz : Int) (hm : Bool) (se da : Nat → Bool) (sa2 bt2 : Nat → Int) (oz : Nat → Bool) (hI : LI kd co mk al dz rd rw wo sa sz ps bt ou L dm se da sa2 bt2 oz) (KK : LKK V cy a b o scr i k n kd co) : V k n (([(o, aJ (cy 2) 1 fo)] ++ CW cy a kd co mk al dz rd rw wo sa sz ps bt ou ((L.length : Nat) : Int) dm pl re cu) ++ MW cy b kd co th rw sz ((L.length : Nat) : Int) ps dm sx aa dk fi bb cz hm se da sa2 bt2 oz) [(0, .ref scr), (1, .ref (a 0)), (2, .ref (b 0)), (3, .ref o), (4, vI i)] [] 338 := by
  obtain ⟨C, XL, hX, hbl, hbA, hN, hzx, hl9⟩ := H
  obtain ⟨⟨hkd, hco, hrw, hsz, hps, hdm⟩, ⟨rfl, rfl, rfl, rfl⟩, hPX, hSA, ⟨hBT, hB2⟩, hOR, hOZ, h8, hLn⟩ := hI
  have hk0 : k + 0 ≤ (room_1).cells ∧ n + 0 ≤ (room_1).slots := ⟨by show k ≤ 600384; omega, by show n ≤ 7290968; omega⟩
  have hk1 : k + 1 ≤ (room_1).cells ∧ n + 6 ≤ (room_1).slots := hk
  have hk2 : k + 1 + 0 ≤ (room_1).cells ∧ n + 6 + 0 ≤ (room_1).slots := hk
  have e8 : (((L.length : Nat) : Int) + 7) / 8 = ((L.length : Nat) : Int) / 8 := by omega
  refine z_aload_n C dL_law_338 1 rfl ?_
  show V k n (([(o, aJ (cy 2) 1 fo)] ++ CW cy a kd co (se 0) (se 1) (se 2) (se 3) rw wo sa sz ps bt ou ((L.length : Nat) : Int) dm pl re cu) ++ MW cy b kd co th rw sz ((L.length : Nat) : Int) ps dm sx aa dk fi bb cz hm se da sa2 bt2 oz) [(0, .ref scr), (1, .ref (a 0)), (2, .ref (b 0)), (3, .ref o), (4, vI i)] ([].reverse ++ .ref (a 0) :: []) 339
  refine z_callVF C (X := [(o, aJ (cy 2) 1 fo)]) (W0 := CW cy a kd co (se 0) (se 1) (se 2) (se 3) rw wo sa sz ps bt ou ((L.length : Nat) : Int) dm pl re cu) (Y := MW cy b kd co th rw sz ((L.length : Nat) : Int) ps dm sx aa dk fi bb cz hm se da sa2 bt2 oz) (As := []) (st := []) (c_X7_drop l D cy tw a kd co (se 0) (se 1) (se 2) (se 3) rw wo sa sz ps bt ou ((L.length : Nat) : Int) dm pl re cu  ) (goodIn_mo wsL_law_in gL_law_X7_drop) kn_X7_drop rfl ⟨rfl, rfl, Nat.le_of_ble_eq_true rfl, Nat.le_of_ble_eq_true rfl⟩ 0 rfl (ci := 9) rfl rfl (Nat.le_of_ble_eq_true rfl) hk0 dL_law_339 (fun y_1 hy_1 => ?_)
  show V k n (([(o, aJ (cy 2) 1 fo)] ++ CW cy a kd co (se 0) (se 1) (se 2) (se 3) rw wo sa 0 ps bt ou ((L.length : Nat) : Int) dm pl re cu) ++ MW cy b kd co th rw sz ((L.length : Nat) : Int) ps dm sx aa dk fi bb cz hm se da sa2 bt2 oz) [(0, .ref scr), (1, .ref (a 0)), (2, .ref (b 0)), (3, .ref o), (4, vI i)] [] 342
  refine z_aload_n C dL_law_342 2 rfl ?_
  show V k n (([(o, aJ (cy 2) 1 fo)] ++ CW cy a kd co (se 0) (se 1) (se 2) (se 3) rw wo sa 0 ps bt ou ((L.length : Nat) : Int) dm pl re cu) ++ MW cy b kd co th rw sz ((L.length : Nat) : Int) ps dm sx aa dk fi bb cz hm se da sa2 bt2 oz) [(0, .ref scr), (1, .ref (a 0)), (2, .ref (b 0)), (3, .ref o), (4, vI i)] ([].reverse ++ .ref (b 0) :: []) 343
  refine z_callVE C (X := [(o, aJ (cy 2) 1 fo)] ++ CW cy a kd co (se 0) (se 1) (se 2) (se 3) rw wo sa 0 ps bt ou ((L.length : Nat) : Int) dm pl re cu) (W0 := MW cy b kd co th rw sz ((L.length : Nat) : Int) ps dm sx aa dk fi bb cz hm se da sa2 bt2 oz) (As := []) (st := []) (c_X8_drop l D cy tw b kd co th rw sz ((L.length : Nat) : Int) ps dm sx aa dk fi bb cz hm se da sa2 bt2 oz  ) (goodIn_mo wsL_law_in gL_law_X8_drop) kn_X8_drop rfl ⟨rfl, rfl, Nat.le_of_ble_eq_true rfl, Nat.le_of_ble_eq_true rfl⟩ 0 rfl (ci := 10) rfl rfl (Nat.le_of_ble_eq_true rfl) hk0 dL_law_343 (fun y_2 hy_2 => ?_)
  show V k n (([(o, aJ (cy 2) 1 fo)] ++ CW cy a kd co (se 0) (se 1) (se 2) (se 3) rw wo sa 0 ps bt ou ((L.length : Nat) : Int) dm pl re cu) ++ MW cy b kd co 0 rw 0 ((L.length : Nat) : Int) ps dm sx aa dk fi bb cz hm se da sa2 bt2 oz) [(0, .ref scr), (1, .ref (a 0)), (2, .ref (b 0)), (3, .ref o), (4, vI i)] [] 346
  refine z_goto C (tgt := 949) dL_law_346 (by decide) ?_
  exact KK _ _ _ _ _ _ _ _ _ _ _ _ _ _ _ _ _ _ _ _ _ _ _ _ _ _ _ _ _ _ _ _ (by omega) (by omega) (LI_mk ⟨hkd, hco⟩ (hrw) (by decide) (hps) (hdm) (⟨rfl, rfl, rfl, rfl⟩) (hPX) (hSA) (⟨fun i hi => absurd hi (by omega), hB2⟩) (⟨hOR, hOZ, h8, hLn⟩))
set_option maxHeartbeats 2000000 in
set_option maxRecDepth 100000 in
theorem lw_read {V : zV} {p : Program} {l : Launch} {e : Env} {s : State} {m : MethodId} {args : Array Value} {below : List Frame} {meth : Method} {c : Code} {D : va_G} {cy : Nat → ClassId} {tw sr : Nat → Nat} {A : Nat → Prop} {Q : State → Prop} {scr N : Nat} {zx : Nat → Int} (H : LC V p l e s m args below meth c D cy tw sr A Q scr N zx) (a b : Nat → Nat) (o : Nat) {k n : Nat} (hk : k + 1 ≤ 600384 ∧ n + 6 ≤ 7290968) {i : Int} (hi : 0 ≤ i ∧ i + 5 ≤ (N : Int)) {kd co : Int} (fo : Nat → BitVec 64) (mk al dz rd : Bool) (rw : Int) (wo : Nat → BitVec 64) (sa : Nat → Int) (sz ps : Int) (bt : Nat → Int) (ou : Nat → BitVec 64) (L : List Bool) (dm : Int) (pl : Bool) (re : Int) (cu : Bool) (th sx aa : Int) (dk fi : Bool) (bb cz : Int) (hm : Bool) (se da : Nat → Bool) (sa2 bt2 : Nat → Int) (oz : Nat → Bool) (hI : LI kd co mk al dz rd rw wo sa sz ps bt ou L dm se da sa2 bt2 oz) (KK : LKK V cy a b o scr i k n kd co) : V k n (([(o, aJ (cy 2) 1 fo)] ++ CW cy a kd co mk al dz rd rw wo sa sz ps bt ou ((L.length : Nat) : Int) dm pl re cu) ++ MW cy b kd co th rw sz ((L.length : Nat) : Int) ps dm sx aa dk fi bb cz hm se da sa2 bt2 oz) [(0, .ref scr), (1, .ref (a 0)), (2, .ref (b 0)), (3, .ref o), (4, vI i)] [] 349 := by
  obtain ⟨C, XL, hX, hbl, hbA, hN, hzx, hl9⟩ := H
  obtain ⟨⟨hkd, hco, hrw, hsz, hps, hdm⟩, ⟨rfl, rfl, rfl, rfl⟩, hPX, hSA, ⟨hBT, hB2⟩, hOR, hOZ, h8, hLn⟩ := hI
  have hk0 : k + 0 ≤ (room_1).cells ∧ n + 0 ≤ (room_1).slots := ⟨by show k ≤ 600384; omega, by show n ≤ 7290968; omega⟩
  have hk1 : k + 1 ≤ (room_1).cells ∧ n + 6 ≤ (room_1).slots := hk
  have hk2 : k + 1 + 0 ≤ (room_1).cells ∧ n + 6 + 0 ≤ (room_1).slots := hk
  have e8 : (((L.length : Nat) : Int) + 7) / 8 = ((L.length : Nat) : Int) / 8 := by omega
  obtain ⟨z1, ez1, hz1⟩ : ∃ z, zx (i + 1).toNat = z ∧ (-2147483648 ≤ z ∧ z < 2147483648) := ⟨_, rfl, hzx _⟩
  by_cases hin : 0 ≤ z1 ∧ z1 ≤ 24
  · have eI : inC bt sz = inC bt2 sz := inC_cg hBT
    refine z_aload_n C dL_law_349 1 rfl ?_
    refine z_aload_n C dL_law_350 0 rfl ?_
    refine z_iload C dL_law_351 4 rfl ?_
    refine z_iconst C (z := 1) dL_law_353 ?_
    refine z_iadd C dL_law_354 ?_
    refine z_sldv C hX hbl hbA ez1 (by omega) (by omega) hN dL_law_355 ?_
    refine z_aload_n C dL_law_356 3 rfl ?_
    show V k n (([] ++ ([(o, aJ (cy 2) 1 fo)] ++ CW cy a kd co (se 0) (se 1) (se 2) (se 3) rw wo sa sz ps bt ou ((L.length : Nat) : Int) dm pl re cu)) ++ MW cy b kd co th rw sz ((L.length : Nat) : Int) ps dm sx aa dk fi bb cz hm se da sa2 bt2 oz) [(0, .ref scr), (1, .ref (a 0)), (2, .ref (b 0)), (3, .ref o), (4, vI i)] ([.ref (a 0), vI z1, .ref o].reverse ++ []) 357
    refine z_callSWF C XL (X := []) (W0 := [(o, aJ (cy 2) 1 fo)] ++ CW cy a kd co (se 0) (se 1) (se 2) (se 3) rw wo sa sz ps bt ou ((L.length : Nat) : Int) dm pl re cu) (Y := MW cy b kd co th rw sz ((L.length : Nat) : Int) ps dm sx aa dk fi bb cz hm se da sa2 bt2 oz) (As := [.ref (a 0), vI z1, .ref o]) (st := []) (c_L_read l D cy tw sr o a fo kd co (se 0) (se 1) (se 2) (se 3) rw wo sa sz ps bt ou ((L.length : Nat) : Int) dm pl re cu z1 (by omega) (by omega) (by omega) (by omega) (by have := ra_R (inC bt sz) (8 * sz) co kd (se 0) (se 1) (se 3) (z1 : Int).toNat 0 0 0 P00 S00; omega)) (goodIn_mo wsL_law_in gL_law_L_read) kn_L_read ⟨rfl, rfl, Nat.le_of_ble_eq_true rfl, Nat.le_of_ble_eq_true rfl⟩ rfl (Nat.le_of_ble_eq_true rfl) hk0 dL_law_357 (fun y_1 hy_1 => ?_)
    show V k n (([(o, aJ (cy 2) 1 (va_up fo (0 : Int).toNat (BitVec.ofInt 64 ((rdAll (inC bt sz) (8 * sz) co kd (se 0) (se 1) (se 3) (z1 : Int).toNat 0 0 0 P00 S00).1))))] ++ CW cy a kd co (se 0) (se 1) (se 2) (se 3) ((rdAll (inC bt sz) (8 * sz) co kd (se 0) (se 1) (se 3) (z1 : Int).toNat 0 0 0 P00 S00).1) y_1.1 y_1.2.1 sz ((rdAll (inC bt sz) (8 * sz) co kd (se 0) (se 1) (se 3) (z1 : Int).toNat 0 0 0 P00 S00).2.1) bt ou ((L.length : Nat) : Int) ((rdAll (inC bt sz) (8 * sz) co kd (se 0) (se 1) (se 3) (z1 : Int).toNat 0 0 0 P00 S00).2.2.1) y_1.2.2.1 y_1.2.2.2.1 y_1.2.2.2.2) ++ MW cy b kd co th rw sz ((L.length : Nat) : Int) ps dm sx aa dk fi bb cz hm se da sa2 bt2 oz) [(0, .ref scr), (1, .ref (a 0)), (2, .ref (b 0)), (3, .ref o), (4, vI i)] [vI 0] 360
    rw [eI] at hy_1
    obtain ⟨hu1, hu2⟩ := hy_1
    refine z_res (ws' := (([(o, aJ (cy 2) 1 (va_up fo (0 : Int).toNat (BitVec.ofInt 64 ((rdAll (inC bt2 sz) (8 * sz) co kd (se 0) (se 1) (se 3) (z1 : Int).toNat 0 0 0 P00 S00).1))))] ++ CW cy a kd co (se 0) (se 1) (se 2) (se 3) ((rdAll (inC bt2 sz) (8 * sz) co kd (se 0) (se 1) (se 3) (z1 : Int).toNat 0 0 0 P00 S00).1) y_1.1 y_1.2.1 sz ((rdAll (inC bt2 sz) (8 * sz) co kd (se 0) (se 1) (se 3) (z1 : Int).toNat 0 0 0 P00 S00).2.1) bt ou ((L.length : Nat) : Int) ((rdAll (inC bt2 sz) (8 * sz) co kd (se 0) (se 1) (se 3) (z1 : Int).toNat 0 0 0 P00 S00).2.2.1) y_1.2.2.1 y_1.2.2.2.1 y_1.2.2.2.2) ++ MW cy b kd co th rw sz ((L.length : Nat) : Int) ps dm sx aa dk fi bb cz hm se da sa2 bt2 oz)) (y := 0) (by rw [eI]) (rfl) ?_
    refine z_istore C (lv' := [(5, vI 0), (0, .ref scr), (1, .ref (a 0)), (2, .ref (b 0)), (3, .ref o), (4, vI i)]) dL_law_360 (by decide) rfl ?_
    refine z_aload_n C dL_law_362 3 rfl ?_
    refine z_aload_n C dL_law_363 1 rfl ?_
    refine z_iload C dL_law_364 5 rfl ?_
    refine z_iconst C (z := 1) dL_law_366 ?_
    refine z_iadd C dL_law_367 ?_
    refine z_sldv C hX hbl hbA ez1 (by omega) (by omega) hN dL_law_368 ?_
    show V k n (([(o, aJ (cy 2) 1 (va_up fo (0 : Int).toNat (BitVec.ofInt 64 ((rdAll (inC bt2 sz) (8 * sz) co kd (se 0) (se 1) (se 3) (z1 : Int).toNat 0 0 0 P00 S00).1))))] ++ CW cy a kd co (se 0) (se 1) (se 2) (se 3) ((rdAll (inC bt2 sz) (8 * sz) co kd (se 0) (se 1) (se 3) (z1 : Int).toNat 0 0 0 P00 S00).1) y_1.1 y_1.2.1 sz ((rdAll (inC bt2 sz) (8 * sz) co kd (se 0) (se 1) (se 3) (z1 : Int).toNat 0 0 0 P00 S00).2.1) bt ou ((L.length : Nat) : Int) ((rdAll (inC bt2 sz) (8 * sz) co kd (se 0) (se 1) (se 3) (z1 : Int).toNat 0 0 0 P00 S00).2.2.1) y_1.2.2.1 y_1.2.2.2.1 y_1.2.2.2.2) ++ MW cy b kd co th rw sz ((L.length : Nat) : Int) ps dm sx aa dk fi bb cz hm se da sa2 bt2 oz) [(5, vI 0), (0, .ref scr), (1, .ref (a 0)), (2, .ref (b 0)), (3, .ref o), (4, vI i)] ([vI z1].reverse ++ .ref (b 0) :: []) 369
    refine z_callVE C (X := [(o, aJ (cy 2) 1 (va_up fo (0 : Int).toNat (BitVec.ofInt 64 ((rdAll (inC bt2 sz) (8 * sz) co kd (se 0) (se 1) (se 3) (z1 : Int).toNat 0 0 0 P00 S00).1))))] ++ CW cy a kd co (se 0) (se 1) (se 2) (se 3) ((rdAll (inC bt2 sz) (8 * sz) co kd (se 0) (se 1) (se 3) (z1 : Int).toNat 0 0 0 P00 S00).1) y_1.1 y_1.2.1 sz ((rdAll (inC bt2 sz) (8 * sz) co kd (se 0) (se 1) (se 3) (z1 : Int).toNat 0 0 0 P00 S00).2.1) bt ou ((L.length : Nat) : Int) ((rdAll (inC bt2 sz) (8 * sz) co kd (se 0) (se 1) (se 3) (z1 : Int).toNat 0 0 0 P00 S00).2.2.1) y_1.2.2.1 y_1.2.2.2.1 y_1.2.2.2.2) (W0 := MW cy b kd co th rw sz ((L.length : Nat) : Int) ps dm sx aa dk fi bb cz hm se da sa2 bt2 oz) (As := [vI z1]) (st := []) (c_X8_read l D cy tw b kd co th rw sz ((L.length : Nat) : Int) ps dm sx aa dk fi bb cz hm se da sa2 bt2 oz z1 (by omega) (by omega) (by omega) (hB2) (by omega)) (goodIn_mo wsL_law_in gL_law_X8_read) kn_X8_read rfl ⟨rfl, rfl, Nat.le_of_ble_eq_true rfl, Nat.le_of_ble_eq_true rfl⟩ 0 rfl (ci := 10) rfl rfl (Nat.le_of_ble_eq_true rfl) hk0 dL_law_369 (fun y_2 hy_2 => ?_)
    show V k n (([(o, aJ (cy 2) 1 (va_up fo (0 : Int).toNat (BitVec.ofInt 64 ((rdAll (inC bt2 sz) (8 * sz) co kd (se 0) (se 1) (se 3) (z1 : Int).toNat 0 0 0 P00 S00).1))))] ++ CW cy a kd co (se 0) (se 1) (se 2) (se 3) ((rdAll (inC bt2 sz) (8 * sz) co kd (se 0) (se 1) (se 3) (z1 : Int).toNat 0 0 0 P00 S00).1) y_1.1 y_1.2.1 sz ((rdAll (inC bt2 sz) (8 * sz) co kd (se 0) (se 1) (se 3) (z1 : Int).toNat 0 0 0 P00 S00).2.1) bt ou ((L.length : Nat) : Int) ((rdAll (inC bt2 sz) (8 * sz) co kd (se 0) (se 1) (se 3) (z1 : Int).toNat 0 0 0 P00 S00).2.2.1) y_1.2.2.1 y_1.2.2.2.1 y_1.2.2.2.2) ++ MW cy b kd co 0 ((rdAll (inC bt2 sz) (8 * sz) co kd (se 0) (se 1) (se 3) (z1 : Int).toNat 0 0 0 P00 S00).1) sz ((L.length : Nat) : Int) ((rdAll (inC bt2 sz) (8 * sz) co kd (se 0) (se 1) (se 3) (z1 : Int).toNat 0 0 0 P00 S00).2.1) ((rdAll (inC bt2 sz) (8 * sz) co kd (se 0) (se 1) (se 3) (z1 : Int).toNat 0 0 0 P00 S00).2.2.1) y_2.1 y_2.2.1 y_2.2.2.1 y_2.2.2.2.1 y_2.2.2.2.2.1 y_2.2.2.2.2.2.1 y_2.2.2.2.2.2.2.1 se y_2.2.2.2.2.2.2.2.1 y_2.2.2.2.2.2.2.2.2 bt2 oz) [(5, vI 0), (0, .ref scr), (1, .ref (a 0)), (2, .ref (b 0)), (3, .ref o), (4, vI i)] [vI ((rdAll (inC bt2 sz) (8 * sz) co kd (se 0) (se 1) (se 3) (z1 : Int).toNat 0 0 0 P00 S00).1)] 372
    obtain ⟨⟨hu3, hu4⟩, hu5, hu6, hu7⟩ := hy_2
    refine z_istore C (lv' := [(6, vI ((rdAll (inC bt2 sz) (8 * sz) co kd (se 0) (se 1) (se 3) (z1 : Int).toNat 0 0 0 P00 S00).1)), (5, vI 0), (0, .ref scr), (1, .ref (a 0)), (2, .ref (b 0)), (3, .ref o), (4, vI i)]) dL_law_372 (by decide) rfl ?_
    refine z_aload_n C dL_law_374 4 rfl ?_
    show V k n (([(o, aJ (cy 2) 1 (va_up fo (0 : Int).toNat (BitVec.ofInt 64 ((rdAll (inC bt2 sz) (8 * sz) co kd (se 0) (se 1) (se 3) (z1 : Int).toNat 0 0 0 P00 S00).1))))] ++ CW cy a kd co (se 0) (se 1) (se 2) (se 3) ((rdAll (inC bt2 sz) (8 * sz) co kd (se 0) (se 1) (se 3) (z1 : Int).toNat 0 0 0 P00 S00).1) y_1.1 y_1.2.1 sz ((rdAll (inC bt2 sz) (8 * sz) co kd (se 0) (se 1) (se 3) (z1 : Int).toNat 0 0 0 P00 S00).2.1) bt ou ((L.length : Nat) : Int) ((rdAll (inC bt2 sz) (8 * sz) co kd (se 0) (se 1) (se 3) (z1 : Int).toNat 0 0 0 P00 S00).2.2.1) y_1.2.2.1 y_1.2.2.2.1 y_1.2.2.2.2) ++ MW cy b kd co 0 ((rdAll (inC bt2 sz) (8 * sz) co kd (se 0) (se 1) (se 3) (z1 : Int).toNat 0 0 0 P00 S00).1) sz ((L.length : Nat) : Int) ((rdAll (inC bt2 sz) (8 * sz) co kd (se 0) (se 1) (se 3) (z1 : Int).toNat 0 0 0 P00 S00).2.1) ((rdAll (inC bt2 sz) (8 * sz) co kd (se 0) (se 1) (se 3) (z1 : Int).toNat 0 0 0 P00 S00).2.2.1) y_2.1 y_2.2.1 y_2.2.2.1 y_2.2.2.2.1 y_2.2.2.2.2.1 y_2.2.2.2.2.2.1 y_2.2.2.2.2.2.2.1 se y_2.2.2.2.2.2.2.2.1 y_2.2.2.2.2.2.2.2.2 bt2 oz) [(6, vI ((rdAll (inC bt2 sz) (8 * sz) co kd (se 0) (se 1) (se 3) (z1 : Int).toNat 0 0 0 P00 S00).1)), (5, vI 0), (0, .ref scr), (1, .ref (a 0)), (2, .ref (b 0)), (3, .ref o), (4, vI i)] ([].reverse ++ .ref (b 0) :: []) 375
    refine z_callVE C (X := [(o, aJ (cy 2) 1 (va_up fo (0 : Int).toNat (BitVec.ofInt 64 ((rdAll (inC bt2 sz) (8 * sz) co kd (se 0) (se 1) (se 3) (z1 : Int).toNat 0 0 0 P00 S00).1))))] ++ CW cy a kd co (se 0) (se 1) (se 2) (se 3) ((rdAll (inC bt2 sz) (8 * sz) co kd (se 0) (se 1) (se 3) (z1 : Int).toNat 0 0 0 P00 S00).1) y_1.1 y_1.2.1 sz ((rdAll (inC bt2 sz) (8 * sz) co kd (se 0) (se 1) (se 3) (z1 : Int).toNat 0 0 0 P00 S00).2.1) bt ou ((L.length : Nat) : Int) ((rdAll (inC bt2 sz) (8 * sz) co kd (se 0) (se 1) (se 3) (z1 : Int).toNat 0 0 0 P00 S00).2.2.1) y_1.2.2.1 y_1.2.2.2.1 y_1.2.2.2.2) (W0 := MW cy b kd co 0 ((rdAll (inC bt2 sz) (8 * sz) co kd (se 0) (se 1) (se 3) (z1 : Int).toNat 0 0 0 P00 S00).1) sz ((L.length : Nat) : Int) ((rdAll (inC bt2 sz) (8 * sz) co kd (se 0) (se 1) (se 3) (z1 : Int).toNat 0 0 0 P00 S00).2.1) ((rdAll (inC bt2 sz) (8 * sz) co kd (se 0) (se 1) (se 3) (z1 : Int).toNat 0 0 0 P00 S00).2.2.1) y_2.1 y_2.2.1 y_2.2.2.1 y_2.2.2.2.1 y_2.2.2.2.2.1 y_2.2.2.2.2.2.1 y_2.2.2.2.2.2.2.1 se y_2.2.2.2.2.2.2.2.1 y_2.2.2.2.2.2.2.2.2 bt2 oz) (As := []) (st := []) (c_X8_thrown l D cy tw b kd co 0 ((rdAll (inC bt2 sz) (8 * sz) co kd (se 0) (se 1) (se 3) (z1 : Int).toNat 0 0 0 P00 S00).1) sz ((L.length : Nat) : Int) ((rdAll (inC bt2 sz) (8 * sz) co kd (se 0) (se 1) (se 3) (z1 : Int).toNat 0 0 0 P00 S00).2.1) ((rdAll (inC bt2 sz) (8 * sz) co kd (se 0) (se 1) (se 3) (z1 : Int).toNat 0 0 0 P00 S00).2.2.1) y_2.1 y_2.2.1 y_2.2.2.1 y_2.2.2.2.1 y_2.2.2.2.2.1 y_2.2.2.2.2.2.1 y_2.2.2.2.2.2.2.1 se y_2.2.2.2.2.2.2.2.1 y_2.2.2.2.2.2.2.2.2 bt2 oz  ) (goodIn_mo wsL_law_in gL_law_X8_thrown) kn_X8_thrown rfl ⟨rfl, rfl, Nat.le_of_ble_eq_true rfl, Nat.le_of_ble_eq_true rfl⟩ 0 rfl (ci := 10) rfl rfl (Nat.le_of_ble_eq_true rfl) hk0 dL_law_375 (fun y_3 hy_3 => ?_)
    show V k n (([(o, aJ (cy 2) 1 (va_up fo (0 : Int).toNat (BitVec.ofInt 64 ((rdAll (inC bt2 sz) (8 * sz) co kd (se 0) (se 1) (se 3) (z1 : Int).toNat 0 0 0 P00 S00).1))))] ++ CW cy a kd co (se 0) (se 1) (se 2) (se 3) ((rdAll (inC bt2 sz) (8 * sz) co kd (se 0) (se 1) (se 3) (z1 : Int).toNat 0 0 0 P00 S00).1) y_1.1 y_1.2.1 sz ((rdAll (inC bt2 sz) (8 * sz) co kd (se 0) (se 1) (se 3) (z1 : Int).toNat 0 0 0 P00 S00).2.1) bt ou ((L.length : Nat) : Int) ((rdAll (inC bt2 sz) (8 * sz) co kd (se 0) (se 1) (se 3) (z1 : Int).toNat 0 0 0 P00 S00).2.2.1) y_1.2.2.1 y_1.2.2.2.1 y_1.2.2.2.2) ++ MW cy b kd co 0 ((rdAll (inC bt2 sz) (8 * sz) co kd (se 0) (se 1) (se 3) (z1 : Int).toNat 0 0 0 P00 S00).1) sz ((L.length : Nat) : Int) ((rdAll (inC bt2 sz) (8 * sz) co kd (se 0) (se 1) (se 3) (z1 : Int).toNat 0 0 0 P00 S00).2.1) ((rdAll (inC bt2 sz) (8 * sz) co kd (se 0) (se 1) (se 3) (z1 : Int).toNat 0 0 0 P00 S00).2.2.1) y_2.1 y_2.2.1 y_2.2.2.1 y_2.2.2.2.1 y_2.2.2.2.2.1 y_2.2.2.2.2.2.1 y_2.2.2.2.2.2.2.1 se y_2.2.2.2.2.2.2.2.1 y_2.2.2.2.2.2.2.2.2 bt2 oz) [(6, vI ((rdAll (inC bt2 sz) (8 * sz) co kd (se 0) (se 1) (se 3) (z1 : Int).toNat 0 0 0 P00 S00).1)), (5, vI 0), (0, .ref scr), (1, .ref (a 0)), (2, .ref (b 0)), (3, .ref o), (4, vI i)] [vI 0] 378
    refine z_iload C dL_law_378 1 rfl ?_
    refine z_icmp_eq C (by decide) (by decide) (tgt := 385) dL_law_380 (by decide) (fun _ => ?_) (fun hc => absurd rfl hc)
    refine z_iload C dL_law_385 1 rfl ?_
    refine z_if_ne C (by decide) (tgt := 402) dL_law_387 (by decide) (fun hc_4 => ?_) (fun hc_4 => ?_)
    · exact absurd hc_4 (by decide)
    refine z_aload_n C dL_law_390 5 rfl ?_
    refine z_iconst C (z := 0) dL_law_391 ?_
    refine z_lald C 0 2 (g := (va_up fo (0 : Int).toNat (BitVec.ofInt 64 ((rdAll (inC bt2 sz) (8 * sz) co kd (se 0) (se 1) (se 3) (z1 : Int).toNat 0 0 0 P00 S00).1)))) rfl rfl (by decide) (by decide) (by decide) dL_law_392 ?_
    refine z_iload C dL_law_393 0 rfl ?_
    refine z_i2l C (by omega) dL_law_395 ?_
    refine z_lcmp C dL_law_396 ?_
    refine z_if_eq C (lcm_rg _ _) (tgt := 402) dL_law_397 (by decide) (fun _ => ?_) (fun hc => absurd (lcm_same rfl) hc)
    refine z_goto C (tgt := 949) dL_law_402 (by decide) ?_
    refine z_lsub C [2, 3, 4, 5, 6] rfl ?_
    exact KK _ _ _ _ _ _ _ _ _ _ _ _ _ _ _ _ _ _ _ _ _ _ _ _ _ _ _ _ _ _ _ _ (by omega) (by omega) (LI_mk ⟨hkd, hco⟩ (hu5) (hsz) (⟨hu6.1, by omega⟩) (hu7) (⟨rfl, rfl, rfl, rfl⟩) (fun r j h1 h2 h3 => (hu1 r j h1 h2 h3).trans (hu3 r j h1 h2 h3).symm) (fun i hi => ⟨(hu2 i hi).trans (hu4 i hi).symm, by rw [hu2 i hi]; exact ra_S (by omega) sz rfl _ _ _ _ _ _ (Int.le_refl 0) (Int.le_refl 0) (by omega) (fun i hi => absurd hi (by omega)) i hi⟩) (⟨hBT, hB2⟩) (⟨hOR, hOZ, h8, hLn⟩))
  · refine z_aload_n C dL_law_349 1 rfl ?_
    refine z_aload_n C dL_law_350 0 rfl ?_
    refine z_iload C dL_law_351 4 rfl ?_
    refine z_iconst C (z := 1) dL_law_353 ?_
    refine z_iadd C dL_law_354 ?_
    refine z_sldv C hX hbl hbA ez1 (by omega) (by omega) hN dL_law_355 ?_
    refine z_aload_n C dL_law_356 3 rfl ?_
    show V k n (([] ++ ([(o, aJ (cy 2) 1 fo)] ++ CW cy a kd co (se 0) (se 1) (se 2) (se 3) rw wo sa sz ps bt ou ((L.length : Nat) : Int) dm pl re cu)) ++ MW cy b kd co th rw sz ((L.length : Nat) : Int) ps dm sx aa dk fi bb cz hm se da sa2 bt2 oz) [(0, .ref scr), (1, .ref (a 0)), (2, .ref (b 0)), (3, .ref o), (4, vI i)] ([.ref (a 0), vI z1, .ref o].reverse ++ []) 357
    refine z_callSWF C XL (X := []) (W0 := [(o, aJ (cy 2) 1 fo)] ++ CW cy a kd co (se 0) (se 1) (se 2) (se 3) rw wo sa sz ps bt ou ((L.length : Nat) : Int) dm pl re cu) (Y := MW cy b kd co th rw sz ((L.length : Nat) : Int) ps dm sx aa dk fi bb cz hm se da sa2 bt2 oz) (As := [.ref (a 0), vI z1, .ref o]) (st := []) (c_L_readX l hl9 D cy tw sr o a fo kd co (se 0) (se 1) (se 2) (se 3) rw wo sa sz ps bt ou ((L.length : Nat) : Int) dm pl re cu z1 (by omega) (by omega)) (goodIn_mo wsL_law_in gL_law_L_read) kn_L_read ⟨rfl, rfl, Nat.le_of_ble_eq_true rfl, Nat.le_of_ble_eq_true rfl⟩ rfl (Nat.le_of_ble_eq_true rfl) hk1 dL_law_357 (fun y_1 hy_1 => ?_)
    show V (k + 1) (n + 6) (([(o, aJ (cy 2) 1 fo)] ++ CW cy a kd co (se 0) (se 1) (se 2) (se 3) rw wo sa sz ps bt ou ((L.length : Nat) : Int) dm pl re cu) ++ MW cy b kd co th rw sz ((L.length : Nat) : Int) ps dm sx aa dk fi bb cz hm se da sa2 bt2 oz) [(0, .ref scr), (1, .ref (a 0)), (2, .ref (b 0)), (3, .ref o), (4, vI i)] [vI 1] 360
    refine z_istore C (lv' := [(5, vI 1), (0, .ref scr), (1, .ref (a 0)), (2, .ref (b 0)), (3, .ref o), (4, vI i)]) dL_law_360 (by decide) rfl ?_
    refine z_aload_n C dL_law_362 3 rfl ?_
    refine z_aload_n C dL_law_363 1 rfl ?_
    refine z_iload C dL_law_364 5 rfl ?_
    refine z_iconst C (z := 1) dL_law_366 ?_
    refine z_iadd C dL_law_367 ?_
    refine z_sldv C hX hbl hbA ez1 (by omega) (by omega) hN dL_law_368 ?_
    show V (k + 1) (n + 6) (([(o, aJ (cy 2) 1 fo)] ++ CW cy a kd co (se 0) (se 1) (se 2) (se 3) rw wo sa sz ps bt ou ((L.length : Nat) : Int) dm pl re cu) ++ MW cy b kd co th rw sz ((L.length : Nat) : Int) ps dm sx aa dk fi bb cz hm se da sa2 bt2 oz) [(5, vI 1), (0, .ref scr), (1, .ref (a 0)), (2, .ref (b 0)), (3, .ref o), (4, vI i)] ([vI z1].reverse ++ .ref (b 0) :: []) 369
    refine z_callVE C (X := [(o, aJ (cy 2) 1 fo)] ++ CW cy a kd co (se 0) (se 1) (se 2) (se 3) rw wo sa sz ps bt ou ((L.length : Nat) : Int) dm pl re cu) (W0 := MW cy b kd co th rw sz ((L.length : Nat) : Int) ps dm sx aa dk fi bb cz hm se da sa2 bt2 oz) (As := [vI z1]) (st := []) (c_X8_readX l D cy tw b kd co th rw sz ((L.length : Nat) : Int) ps dm sx aa dk fi bb cz hm se da sa2 bt2 oz z1 (by omega) (by omega)) (goodIn_mo wsL_law_in gL_law_X8_read) kn_X8_read rfl ⟨rfl, rfl, Nat.le_of_ble_eq_true rfl, Nat.le_of_ble_eq_true rfl⟩ 0 rfl (ci := 10) rfl rfl (Nat.le_of_ble_eq_true rfl) hk2 dL_law_369 (fun y_2 hy_2 => ?_)
    show V (k + 1) (n + 6) (([(o, aJ (cy 2) 1 fo)] ++ CW cy a kd co (se 0) (se 1) (se 2) (se 3) rw wo sa sz ps bt ou ((L.length : Nat) : Int) dm pl re cu) ++ MW cy b kd co 1 rw sz ((L.length : Nat) : Int) ps dm sx aa dk fi bb cz hm se da sa2 bt2 oz) [(5, vI 1), (0, .ref scr), (1, .ref (a 0)), (2, .ref (b 0)), (3, .ref o), (4, vI i)] [vI 0] 372
    refine z_istore C (lv' := [(6, vI 0), (5, vI 1), (0, .ref scr), (1, .ref (a 0)), (2, .ref (b 0)), (3, .ref o), (4, vI i)]) dL_law_372 (by decide) rfl ?_
    refine z_aload_n C dL_law_374 4 rfl ?_
    show V (k + 1) (n + 6) (([(o, aJ (cy 2) 1 fo)] ++ CW cy a kd co (se 0) (se 1) (se 2) (se 3) rw wo sa sz ps bt ou ((L.length : Nat) : Int) dm pl re cu) ++ MW cy b kd co 1 rw sz ((L.length : Nat) : Int) ps dm sx aa dk fi bb cz hm se da sa2 bt2 oz) [(6, vI 0), (5, vI 1), (0, .ref scr), (1, .ref (a 0)), (2, .ref (b 0)), (3, .ref o), (4, vI i)] ([].reverse ++ .ref (b 0) :: []) 375
    refine z_callVE C (X := [(o, aJ (cy 2) 1 fo)] ++ CW cy a kd co (se 0) (se 1) (se 2) (se 3) rw wo sa sz ps bt ou ((L.length : Nat) : Int) dm pl re cu) (W0 := MW cy b kd co 1 rw sz ((L.length : Nat) : Int) ps dm sx aa dk fi bb cz hm se da sa2 bt2 oz) (As := []) (st := []) (c_X8_thrown l D cy tw b kd co 1 rw sz ((L.length : Nat) : Int) ps dm sx aa dk fi bb cz hm se da sa2 bt2 oz  ) (goodIn_mo wsL_law_in gL_law_X8_thrown) kn_X8_thrown rfl ⟨rfl, rfl, Nat.le_of_ble_eq_true rfl, Nat.le_of_ble_eq_true rfl⟩ 0 rfl (ci := 10) rfl rfl (Nat.le_of_ble_eq_true rfl) hk2 dL_law_375 (fun y_3 hy_3 => ?_)
    show V (k + 1) (n + 6) (([(o, aJ (cy 2) 1 fo)] ++ CW cy a kd co (se 0) (se 1) (se 2) (se 3) rw wo sa sz ps bt ou ((L.length : Nat) : Int) dm pl re cu) ++ MW cy b kd co 1 rw sz ((L.length : Nat) : Int) ps dm sx aa dk fi bb cz hm se da sa2 bt2 oz) [(6, vI 0), (5, vI 1), (0, .ref scr), (1, .ref (a 0)), (2, .ref (b 0)), (3, .ref o), (4, vI i)] [vI 1] 378
    refine z_iload C dL_law_378 1 rfl ?_
    refine z_icmp_eq C (by decide) (by decide) (tgt := 385) dL_law_380 (by decide) (fun _ => ?_) (fun hc => absurd rfl hc)
    refine z_iload C dL_law_385 1 rfl ?_
    refine z_if_ne C (by decide) (tgt := 402) dL_law_387 (by decide) (fun hc_4 => ?_) (fun hc_4 => ?_)
    rotate_left; · exact absurd hc_4 (by decide)
    refine z_goto C (tgt := 949) dL_law_402 (by decide) ?_
    refine z_lsub C [2, 3, 4, 5, 6] rfl ?_
    exact KK _ _ _ _ _ _ _ _ _ _ _ _ _ _ _ _ _ _ _ _ _ _ _ _ _ _ _ _ _ _ _ _ (by omega) (by omega) (LI_mk ⟨hkd, hco⟩ (hrw) (hsz) (hps) (hdm) (⟨rfl, rfl, rfl, rfl⟩) (hPX) (hSA) (⟨hBT, hB2⟩) (⟨hOR, hOZ, h8, hLn⟩))
set_option maxHeartbeats 2000000 in
set_option maxRecDepth 100000 in
theorem lw_state {V : zV} {p : Program} {l : Launch} {e : Env} {s : State} {m : MethodId} {args : Array Value} {below : List Frame} {meth : Method} {c : Code} {D : va_G} {cy : Nat → ClassId} {tw sr : Nat → Nat} {A : Nat → Prop} {Q : State → Prop} {scr N : Nat} {zx : Nat → Int} (H : LC V p l e s m args below meth c D cy tw sr A Q scr N zx) (a b : Nat → Nat) (o : Nat) {k n : Nat} (hk : k + 1 ≤ 600384 ∧ n + 6 ≤ 7290968) {i : Int} (hi : 0 ≤ i ∧ i + 5 ≤ (N : Int)) {kd co : Int} (fo : Nat → BitVec 64) (mk al dz rd : Bool) (rw : Int) (wo : Nat → BitVec 64) (sa : Nat → Int) (sz ps : Int) (bt : Nat → Int) (ou : Nat → BitVec 64) (L : List Bool) (dm : Int) (pl : Bool) (re : Int) (cu : Bool) (th sx aa : Int) (dk fi : Bool) (bb cz : Int) (hm : Bool) (se da : Nat → Bool) (sa2 bt2 : Nat → Int) (oz : Nat → Bool) (hI : LI kd co mk al dz rd rw wo sa sz ps bt ou L dm se da sa2 bt2 oz) (KK : LKK V cy a b o scr i k n kd co) : V k n (([(o, aJ (cy 2) 1 fo)] ++ CW cy a kd co mk al dz rd rw wo sa sz ps bt ou ((L.length : Nat) : Int) dm pl re cu) ++ MW cy b kd co th rw sz ((L.length : Nat) : Int) ps dm sx aa dk fi bb cz hm se da sa2 bt2 oz) [(0, .ref scr), (1, .ref (a 0)), (2, .ref (b 0)), (3, .ref o), (4, vI i)] [] 405 := by
  obtain ⟨C, XL, hX, hbl, hbA, hN, hzx, hl9⟩ := H
  obtain ⟨⟨hkd, hco, hrw, hsz, hps, hdm⟩, ⟨rfl, rfl, rfl, rfl⟩, hPX, hSA, ⟨hBT, hB2⟩, hOR, hOZ, h8, hLn⟩ := hI
  have hk0 : k + 0 ≤ (room_1).cells ∧ n + 0 ≤ (room_1).slots := ⟨by show k ≤ 600384; omega, by show n ≤ 7290968; omega⟩
  have hk1 : k + 1 ≤ (room_1).cells ∧ n + 6 ≤ (room_1).slots := hk
  have hk2 : k + 1 + 0 ≤ (room_1).cells ∧ n + 6 + 0 ≤ (room_1).slots := hk
  have e8 : (((L.length : Nat) : Int) + 7) / 8 = ((L.length : Nat) : Int) / 8 := by omega
  obtain ⟨z1, ez1, hz1⟩ : ∃ z, zx (i + 1).toNat = z ∧ (-2147483648 ≤ z ∧ z < 2147483648) := ⟨_, rfl, hzx _⟩
  by_cases hin : 0 ≤ z1 ∧ z1 < rw
  · have hs1 := hSA z1.toNat (by omega)
    refine z_aload_n C dL_law_405 1 rfl ?_
    refine z_aload_n C dL_law_406 0 rfl ?_
    refine z_iload C dL_law_407 4 rfl ?_
    refine z_iconst C (z := 1) dL_law_409 ?_
    refine z_iadd C dL_law_410 ?_
    refine z_sldv C hX hbl hbA ez1 (by omega) (by omega) hN dL_law_411 ?_
    refine z_aload_n C dL_law_412 3 rfl ?_
    show V k n (([] ++ ([(o, aJ (cy 2) 1 fo)] ++ CW cy a kd co (se 0) (se 1) (se 2) (se 3) rw wo sa sz ps bt ou ((L.length : Nat) : Int) dm pl re cu)) ++ MW cy b kd co th rw sz ((L.length : Nat) : Int) ps dm sx aa dk fi bb cz hm se da sa2 bt2 oz) [(0, .ref scr), (1, .ref (a 0)), (2, .ref (b 0)), (3, .ref o), (4, vI i)] ([.ref (a 0), vI z1, .ref o].reverse ++ []) 413
    refine z_callSWF C XL (X := []) (W0 := [(o, aJ (cy 2) 1 fo)] ++ CW cy a kd co (se 0) (se 1) (se 2) (se 3) rw wo sa sz ps bt ou ((L.length : Nat) : Int) dm pl re cu) (Y := MW cy b kd co th rw sz ((L.length : Nat) : Int) ps dm sx aa dk fi bb cz hm se da sa2 bt2 oz) (As := [.ref (a 0), vI z1, .ref o]) (st := []) (c_L_state l D cy tw sr o a fo kd co (se 0) (se 1) (se 2) (se 3) rw wo sa sz ps bt ou ((L.length : Nat) : Int) dm pl re cu z1 (by omega) (by omega) (by omega)) (goodIn_mo wsL_law_in gL_law_L_state) kn_L_state ⟨rfl, rfl, Nat.le_of_ble_eq_true rfl, Nat.le_of_ble_eq_true rfl⟩ rfl (Nat.le_of_ble_eq_true rfl) hk0 dL_law_413 (fun y_1 hy_1 => ?_)
    show V k n (([(o, aJ (cy 2) 1 (va_up fo (0 : Int).toNat (BitVec.ofInt 64 (sa (z1 : Int).toNat))))] ++ CW cy a kd co (se 0) (se 1) (se 2) (se 3) rw wo sa sz ps bt ou ((L.length : Nat) : Int) dm pl re cu) ++ MW cy b kd co th rw sz ((L.length : Nat) : Int) ps dm sx aa dk fi bb cz hm se da sa2 bt2 oz) [(0, .ref scr), (1, .ref (a 0)), (2, .ref (b 0)), (3, .ref o), (4, vI i)] [vI 0] 416
    refine z_istore C (lv' := [(5, vI 0), (0, .ref scr), (1, .ref (a 0)), (2, .ref (b 0)), (3, .ref o), (4, vI i)]) dL_law_416 (by decide) rfl ?_
    refine z_aload_n C dL_law_418 3 rfl ?_
    refine z_aload_n C dL_law_419 1 rfl ?_
    refine z_iload C dL_law_420 5 rfl ?_
    refine z_iconst C (z := 1) dL_law_422 ?_
    refine z_iadd C dL_law_423 ?_
    refine z_sldv C hX hbl hbA ez1 (by omega) (by omega) hN dL_law_424 ?_
    show V k n (([(o, aJ (cy 2) 1 (va_up fo (0 : Int).toNat (BitVec.ofInt 64 (sa (z1 : Int).toNat))))] ++ CW cy a kd co (se 0) (se 1) (se 2) (se 3) rw wo sa sz ps bt ou ((L.length : Nat) : Int) dm pl re cu) ++ MW cy b kd co th rw sz ((L.length : Nat) : Int) ps dm sx aa dk fi bb cz hm se da sa2 bt2 oz) [(5, vI 0), (0, .ref scr), (1, .ref (a 0)), (2, .ref (b 0)), (3, .ref o), (4, vI i)] ([vI z1].reverse ++ .ref (b 0) :: []) 425
    refine z_callVE C (X := [(o, aJ (cy 2) 1 (va_up fo (0 : Int).toNat (BitVec.ofInt 64 (sa (z1 : Int).toNat))))] ++ CW cy a kd co (se 0) (se 1) (se 2) (se 3) rw wo sa sz ps bt ou ((L.length : Nat) : Int) dm pl re cu) (W0 := MW cy b kd co th rw sz ((L.length : Nat) : Int) ps dm sx aa dk fi bb cz hm se da sa2 bt2 oz) (As := [vI z1]) (st := []) (c_X8_state l D cy tw b kd co th rw sz ((L.length : Nat) : Int) ps dm sx aa dk fi bb cz hm se da sa2 bt2 oz z1 (by omega) (by omega)) (goodIn_mo wsL_law_in gL_law_X8_state) kn_X8_state rfl ⟨rfl, rfl, Nat.le_of_ble_eq_true rfl, Nat.le_of_ble_eq_true rfl⟩ 0 rfl (ci := 10) rfl rfl (Nat.le_of_ble_eq_true rfl) hk0 dL_law_425 (fun y_2 hy_2 => ?_)
    show V k n (([(o, aJ (cy 2) 1 (va_up fo (0 : Int).toNat (BitVec.ofInt 64 (sa (z1 : Int).toNat))))] ++ CW cy a kd co (se 0) (se 1) (se 2) (se 3) rw wo sa sz ps bt ou ((L.length : Nat) : Int) dm pl re cu) ++ MW cy b kd co (if 0 ≤ z1 ∧ z1 < rw then 0 else 1) rw sz ((L.length : Nat) : Int) ps dm sx aa dk fi bb cz hm se da sa2 bt2 oz) [(5, vI 0), (0, .ref scr), (1, .ref (a 0)), (2, .ref (b 0)), (3, .ref o), (4, vI i)] [vI (if 0 ≤ z1 ∧ z1 < rw then sa2 (z1 : Int).toNat else 0)] 428
    refine z_res (ws' := (([(o, aJ (cy 2) 1 (va_up fo (0 : Int).toNat (BitVec.ofInt 64 (sa (z1 : Int).toNat))))] ++ CW cy a kd co (se 0) (se 1) (se 2) (se 3) rw wo sa sz ps bt ou ((L.length : Nat) : Int) dm pl re cu) ++ MW cy b kd co 0 rw sz ((L.length : Nat) : Int) ps dm sx aa dk fi bb cz hm se da sa2 bt2 oz)) (y := sa (z1 : Int).toNat) (by rw [if_pos hin]) (by rw [if_pos hin]; exact hs1.1.symm) ?_
    show V k n (([(o, aJ (cy 2) 1 (va_up fo (0 : Int).toNat (BitVec.ofInt 64 (sa (z1 : Int).toNat))))] ++ CW cy a kd co (se 0) (se 1) (se 2) (se 3) rw wo sa sz ps bt ou ((L.length : Nat) : Int) dm pl re cu) ++ MW cy b kd co 0 rw sz ((L.length : Nat) : Int) ps dm sx aa dk fi bb cz hm se da sa2 bt2 oz) [(5, vI 0), (0, .ref scr), (1, .ref (a 0)), (2, .ref (b 0)), (3, .ref o), (4, vI i)] [vI (sa (z1 : Int).toNat)] 428
    refine z_istore C (lv' := [(6, vI (sa (z1 : Int).toNat)), (5, vI 0), (0, .ref scr), (1, .ref (a 0)), (2, .ref (b 0)), (3, .ref o), (4, vI i)]) dL_law_428 (by decide) rfl ?_
    refine z_aload_n C dL_law_430 4 rfl ?_
    show V k n (([(o, aJ (cy 2) 1 (va_up fo (0 : Int).toNat (BitVec.ofInt 64 (sa (z1 : Int).toNat))))] ++ CW cy a kd co (se 0) (se 1) (se 2) (se 3) rw wo sa sz ps bt ou ((L.length : Nat) : Int) dm pl re cu) ++ MW cy b kd co 0 rw sz ((L.length : Nat) : Int) ps dm sx aa dk fi bb cz hm se da sa2 bt2 oz) [(6, vI (sa (z1 : Int).toNat)), (5, vI 0), (0, .ref scr), (1, .ref (a 0)), (2, .ref (b 0)), (3, .ref o), (4, vI i)] ([].reverse ++ .ref (b 0) :: []) 431
    refine z_callVE C (X := [(o, aJ (cy 2) 1 (va_up fo (0 : Int).toNat (BitVec.ofInt 64 (sa (z1 : Int).toNat))))] ++ CW cy a kd co (se 0) (se 1) (se 2) (se 3) rw wo sa sz ps bt ou ((L.length : Nat) : Int) dm pl re cu) (W0 := MW cy b kd co 0 rw sz ((L.length : Nat) : Int) ps dm sx aa dk fi bb cz hm se da sa2 bt2 oz) (As := []) (st := []) (c_X8_thrown l D cy tw b kd co 0 rw sz ((L.length : Nat) : Int) ps dm sx aa dk fi bb cz hm se da sa2 bt2 oz  ) (goodIn_mo wsL_law_in gL_law_X8_thrown) kn_X8_thrown rfl ⟨rfl, rfl, Nat.le_of_ble_eq_true rfl, Nat.le_of_ble_eq_true rfl⟩ 0 rfl (ci := 10) rfl rfl (Nat.le_of_ble_eq_true rfl) hk0 dL_law_431 (fun y_3 hy_3 => ?_)
    show V k n (([(o, aJ (cy 2) 1 (va_up fo (0 : Int).toNat (BitVec.ofInt 64 (sa (z1 : Int).toNat))))] ++ CW cy a kd co (se 0) (se 1) (se 2) (se 3) rw wo sa sz ps bt ou ((L.length : Nat) : Int) dm pl re cu) ++ MW cy b kd co 0 rw sz ((L.length : Nat) : Int) ps dm sx aa dk fi bb cz hm se da sa2 bt2 oz) [(6, vI (sa (z1 : Int).toNat)), (5, vI 0), (0, .ref scr), (1, .ref (a 0)), (2, .ref (b 0)), (3, .ref o), (4, vI i)] [vI 0] 434
    refine z_iload C dL_law_434 1 rfl ?_
    refine z_icmp_eq C (by decide) (by decide) (tgt := 441) dL_law_436 (by decide) (fun _ => ?_) (fun hc => absurd rfl hc)
    refine z_iload C dL_law_441 1 rfl ?_
    refine z_if_ne C (by decide) (tgt := 458) dL_law_443 (by decide) (fun hc_4 => ?_) (fun hc_4 => ?_)
    · exact absurd hc_4 (by decide)
    refine z_aload_n C dL_law_446 5 rfl ?_
    refine z_iconst C (z := 0) dL_law_447 ?_
    refine z_lald C 0 2 (g := (va_up fo (0 : Int).toNat (BitVec.ofInt 64 (sa (z1 : Int).toNat)))) rfl rfl (by decide) (by decide) (by decide) dL_law_448 ?_
    refine z_iload C dL_law_449 0 rfl ?_
    refine z_i2l C (by omega) dL_law_451 ?_
    refine z_lcmp C dL_law_452 ?_
    refine z_if_eq C (lcm_rg _ _) (tgt := 458) dL_law_453 (by decide) (fun _ => ?_) (fun hc => absurd (lcm_same rfl) hc)
    refine z_goto C (tgt := 949) dL_law_458 (by decide) ?_
    refine z_lsub C [2, 3, 4, 5, 6] rfl ?_
    exact KK _ _ _ _ _ _ _ _ _ _ _ _ _ _ _ _ _ _ _ _ _ _ _ _ _ _ _ _ _ _ _ _ (by omega) (by omega) (LI_mk ⟨hkd, hco⟩ (hrw) (hsz) (hps) (hdm) (⟨rfl, rfl, rfl, rfl⟩) (hPX) (hSA) (⟨hBT, hB2⟩) (⟨hOR, hOZ, h8, hLn⟩))
  · refine z_aload_n C dL_law_405 1 rfl ?_
    refine z_aload_n C dL_law_406 0 rfl ?_
    refine z_iload C dL_law_407 4 rfl ?_
    refine z_iconst C (z := 1) dL_law_409 ?_
    refine z_iadd C dL_law_410 ?_
    refine z_sldv C hX hbl hbA ez1 (by omega) (by omega) hN dL_law_411 ?_
    refine z_aload_n C dL_law_412 3 rfl ?_
    show V k n (([] ++ ([(o, aJ (cy 2) 1 fo)] ++ CW cy a kd co (se 0) (se 1) (se 2) (se 3) rw wo sa sz ps bt ou ((L.length : Nat) : Int) dm pl re cu)) ++ MW cy b kd co th rw sz ((L.length : Nat) : Int) ps dm sx aa dk fi bb cz hm se da sa2 bt2 oz) [(0, .ref scr), (1, .ref (a 0)), (2, .ref (b 0)), (3, .ref o), (4, vI i)] ([.ref (a 0), vI z1, .ref o].reverse ++ []) 413
    refine z_callSWF C XL (X := []) (W0 := [(o, aJ (cy 2) 1 fo)] ++ CW cy a kd co (se 0) (se 1) (se 2) (se 3) rw wo sa sz ps bt ou ((L.length : Nat) : Int) dm pl re cu) (Y := MW cy b kd co th rw sz ((L.length : Nat) : Int) ps dm sx aa dk fi bb cz hm se da sa2 bt2 oz) (As := [.ref (a 0), vI z1, .ref o]) (st := []) (c_L_stateX l hl9 D cy tw sr o a fo kd co (se 0) (se 1) (se 2) (se 3) rw wo sa sz ps bt ou ((L.length : Nat) : Int) dm pl re cu z1 (by omega) (by omega) (by omega)) (goodIn_sA (goodIn_mo wsL_law_in gL_law_L_state) goodEL) kn_L_stateA ⟨rfl, rfl, Nat.le_of_ble_eq_true rfl, Nat.le_of_ble_eq_true rfl⟩ rfl (Nat.le_of_ble_eq_true rfl) hk1 dL_law_413 (fun y_1 hy_1 => ?_)
    show V (k + 1) (n + 6) (([(o, aJ (cy 2) 1 fo)] ++ CW cy a kd co (se 0) (se 1) (se 2) (se 3) rw wo sa sz ps bt ou ((L.length : Nat) : Int) dm pl re cu) ++ MW cy b kd co th rw sz ((L.length : Nat) : Int) ps dm sx aa dk fi bb cz hm se da sa2 bt2 oz) [(0, .ref scr), (1, .ref (a 0)), (2, .ref (b 0)), (3, .ref o), (4, vI i)] [vI 1] 416
    refine z_istore C (lv' := [(5, vI 1), (0, .ref scr), (1, .ref (a 0)), (2, .ref (b 0)), (3, .ref o), (4, vI i)]) dL_law_416 (by decide) rfl ?_
    refine z_aload_n C dL_law_418 3 rfl ?_
    refine z_aload_n C dL_law_419 1 rfl ?_
    refine z_iload C dL_law_420 5 rfl ?_
    refine z_iconst C (z := 1) dL_law_422 ?_
    refine z_iadd C dL_law_423 ?_
    refine z_sldv C hX hbl hbA ez1 (by omega) (by omega) hN dL_law_424 ?_
    show V (k + 1) (n + 6) (([(o, aJ (cy 2) 1 fo)] ++ CW cy a kd co (se 0) (se 1) (se 2) (se 3) rw wo sa sz ps bt ou ((L.length : Nat) : Int) dm pl re cu) ++ MW cy b kd co th rw sz ((L.length : Nat) : Int) ps dm sx aa dk fi bb cz hm se da sa2 bt2 oz) [(5, vI 1), (0, .ref scr), (1, .ref (a 0)), (2, .ref (b 0)), (3, .ref o), (4, vI i)] ([vI z1].reverse ++ .ref (b 0) :: []) 425
    refine z_callVE C (X := [(o, aJ (cy 2) 1 fo)] ++ CW cy a kd co (se 0) (se 1) (se 2) (se 3) rw wo sa sz ps bt ou ((L.length : Nat) : Int) dm pl re cu) (W0 := MW cy b kd co th rw sz ((L.length : Nat) : Int) ps dm sx aa dk fi bb cz hm se da sa2 bt2 oz) (As := [vI z1]) (st := []) (c_X8_state l D cy tw b kd co th rw sz ((L.length : Nat) : Int) ps dm sx aa dk fi bb cz hm se da sa2 bt2 oz z1 (by omega) (by omega)) (goodIn_mo wsL_law_in gL_law_X8_state) kn_X8_state rfl ⟨rfl, rfl, Nat.le_of_ble_eq_true rfl, Nat.le_of_ble_eq_true rfl⟩ 0 rfl (ci := 10) rfl rfl (Nat.le_of_ble_eq_true rfl) hk2 dL_law_425 (fun y_2 hy_2 => ?_)
    show V (k + 1) (n + 6) (([(o, aJ (cy 2) 1 fo)] ++ CW cy a kd co (se 0) (se 1) (se 2) (se 3) rw wo sa sz ps bt ou ((L.length : Nat) : Int) dm pl re cu) ++ MW cy b kd co (if 0 ≤ z1 ∧ z1 < rw then 0 else 1) rw sz ((L.length : Nat) : Int) ps dm sx aa dk fi bb cz hm se da sa2 bt2 oz) [(5, vI 1), (0, .ref scr), (1, .ref (a 0)), (2, .ref (b 0)), (3, .ref o), (4, vI i)] [vI (if 0 ≤ z1 ∧ z1 < rw then sa2 (z1 : Int).toNat else 0)] 428
    refine z_res (ws' := (([(o, aJ (cy 2) 1 fo)] ++ CW cy a kd co (se 0) (se 1) (se 2) (se 3) rw wo sa sz ps bt ou ((L.length : Nat) : Int) dm pl re cu) ++ MW cy b kd co 1 rw sz ((L.length : Nat) : Int) ps dm sx aa dk fi bb cz hm se da sa2 bt2 oz)) (y := 0) (by rw [if_neg hin]) (by rw [if_neg hin]) ?_
    show V (k + 1) (n + 6) (([(o, aJ (cy 2) 1 fo)] ++ CW cy a kd co (se 0) (se 1) (se 2) (se 3) rw wo sa sz ps bt ou ((L.length : Nat) : Int) dm pl re cu) ++ MW cy b kd co 1 rw sz ((L.length : Nat) : Int) ps dm sx aa dk fi bb cz hm se da sa2 bt2 oz) [(5, vI 1), (0, .ref scr), (1, .ref (a 0)), (2, .ref (b 0)), (3, .ref o), (4, vI i)] [vI 0] 428
    refine z_istore C (lv' := [(6, vI 0), (5, vI 1), (0, .ref scr), (1, .ref (a 0)), (2, .ref (b 0)), (3, .ref o), (4, vI i)]) dL_law_428 (by decide) rfl ?_
    refine z_aload_n C dL_law_430 4 rfl ?_
    show V (k + 1) (n + 6) (([(o, aJ (cy 2) 1 fo)] ++ CW cy a kd co (se 0) (se 1) (se 2) (se 3) rw wo sa sz ps bt ou ((L.length : Nat) : Int) dm pl re cu) ++ MW cy b kd co 1 rw sz ((L.length : Nat) : Int) ps dm sx aa dk fi bb cz hm se da sa2 bt2 oz) [(6, vI 0), (5, vI 1), (0, .ref scr), (1, .ref (a 0)), (2, .ref (b 0)), (3, .ref o), (4, vI i)] ([].reverse ++ .ref (b 0) :: []) 431
    refine z_callVE C (X := [(o, aJ (cy 2) 1 fo)] ++ CW cy a kd co (se 0) (se 1) (se 2) (se 3) rw wo sa sz ps bt ou ((L.length : Nat) : Int) dm pl re cu) (W0 := MW cy b kd co 1 rw sz ((L.length : Nat) : Int) ps dm sx aa dk fi bb cz hm se da sa2 bt2 oz) (As := []) (st := []) (c_X8_thrown l D cy tw b kd co 1 rw sz ((L.length : Nat) : Int) ps dm sx aa dk fi bb cz hm se da sa2 bt2 oz  ) (goodIn_mo wsL_law_in gL_law_X8_thrown) kn_X8_thrown rfl ⟨rfl, rfl, Nat.le_of_ble_eq_true rfl, Nat.le_of_ble_eq_true rfl⟩ 0 rfl (ci := 10) rfl rfl (Nat.le_of_ble_eq_true rfl) hk2 dL_law_431 (fun y_3 hy_3 => ?_)
    show V (k + 1) (n + 6) (([(o, aJ (cy 2) 1 fo)] ++ CW cy a kd co (se 0) (se 1) (se 2) (se 3) rw wo sa sz ps bt ou ((L.length : Nat) : Int) dm pl re cu) ++ MW cy b kd co 1 rw sz ((L.length : Nat) : Int) ps dm sx aa dk fi bb cz hm se da sa2 bt2 oz) [(6, vI 0), (5, vI 1), (0, .ref scr), (1, .ref (a 0)), (2, .ref (b 0)), (3, .ref o), (4, vI i)] [vI 1] 434
    refine z_iload C dL_law_434 1 rfl ?_
    refine z_icmp_eq C (by decide) (by decide) (tgt := 441) dL_law_436 (by decide) (fun _ => ?_) (fun hc => absurd rfl hc)
    refine z_iload C dL_law_441 1 rfl ?_
    refine z_if_ne C (by decide) (tgt := 458) dL_law_443 (by decide) (fun hc_4 => ?_) (fun hc_4 => ?_)
    rotate_left; · exact absurd hc_4 (by decide)
    refine z_goto C (tgt := 949) dL_law_458 (by decide) ?_
    refine z_lsub C [2, 3, 4, 5, 6] rfl ?_
    exact KK _ _ _ _ _ _ _ _ _ _ _ _ _ _ _ _ _ _ _ _ _ _ _ _ _ _ _ _ _ _ _ _ (by omega) (by omega) (LI_mk ⟨hkd, hco⟩ (hrw) (hsz) (hps) (hdm) (⟨rfl, rfl, rfl, rfl⟩) (hPX) (hSA) (⟨hBT, hB2⟩) (⟨hOR, hOZ, h8, hLn⟩))
set_option maxHeartbeats 2000000 in
set_option maxRecDepth 100000 in
theorem lw_row {V : zV} {p : Program} {l : Launch} {e : Env} {s : State} {m : MethodId} {args : Array Value} {below : List Frame} {meth : Method} {c : Code} {D : va_G} {cy : Nat → ClassId} {tw sr : Nat → Nat} {A : Nat → Prop} {Q : State → Prop} {scr N : Nat} {zx : Nat → Int} (H : LC V p l e s m args below meth c D cy tw sr A Q scr N zx) (a b : Nat → Nat) (o : Nat) {k n : Nat} (hk : k + 1 ≤ 600384 ∧ n + 6 ≤ 7290968) {i : Int} (hi : 0 ≤ i ∧ i + 5 ≤ (N : Int)) {kd co : Int} (fo : Nat → BitVec 64) (mk al dz rd : Bool) (rw : Int) (wo : Nat → BitVec 64) (sa : Nat → Int) (sz ps : Int) (bt : Nat → Int) (ou : Nat → BitVec 64) (L : List Bool) (dm : Int) (pl : Bool) (re : Int) (cu : Bool) (th sx aa : Int) (dk fi : Bool) (bb cz : Int) (hm : Bool) (se da : Nat → Bool) (sa2 bt2 : Nat → Int) (oz : Nat → Bool) (hI : LI kd co mk al dz rd rw wo sa sz ps bt ou L dm se da sa2 bt2 oz) (KK : LKK V cy a b o scr i k n kd co) : V k n (([(o, aJ (cy 2) 1 fo)] ++ CW cy a kd co mk al dz rd rw wo sa sz ps bt ou ((L.length : Nat) : Int) dm pl re cu) ++ MW cy b kd co th rw sz ((L.length : Nat) : Int) ps dm sx aa dk fi bb cz hm se da sa2 bt2 oz) [(0, .ref scr), (1, .ref (a 0)), (2, .ref (b 0)), (3, .ref o), (4, vI i)] [] 461 := by
  obtain ⟨C, XL, hX, hbl, hbA, hN, hzx, hl9⟩ := H
  obtain ⟨⟨hkd, hco, hrw, hsz, hps, hdm⟩, ⟨rfl, rfl, rfl, rfl⟩, hPX, hSA, ⟨hBT, hB2⟩, hOR, hOZ, h8, hLn⟩ := hI
  have hk0 : k + 0 ≤ (room_1).cells ∧ n + 0 ≤ (room_1).slots := ⟨by show k ≤ 600384; omega, by show n ≤ 7290968; omega⟩
  have hk1 : k + 1 ≤ (room_1).cells ∧ n + 6 ≤ (room_1).slots := hk
  have hk2 : k + 1 + 0 ≤ (room_1).cells ∧ n + 6 + 0 ≤ (room_1).slots := hk
  have e8 : (((L.length : Nat) : Int) + 7) / 8 = ((L.length : Nat) : Int) / 8 := by omega
  by_cases h24 : rw = 24
  · refine z_aload_n C dL_law_461 1 rfl ?_
    refine z_aload_n C dL_law_462 3 rfl ?_
    show V k n (([] ++ ([(o, aJ (cy 2) 1 fo)] ++ CW cy a kd co (se 0) (se 1) (se 2) (se 3) rw wo sa sz ps bt ou ((L.length : Nat) : Int) dm pl re cu)) ++ MW cy b kd co th rw sz ((L.length : Nat) : Int) ps dm sx aa dk fi bb cz hm se da sa2 bt2 oz) [(0, .ref scr), (1, .ref (a 0)), (2, .ref (b 0)), (3, .ref o), (4, vI i)] ([.ref (a 0), .ref o].reverse ++ []) 463
    refine z_callSWF C XL (X := []) (W0 := [(o, aJ (cy 2) 1 fo)] ++ CW cy a kd co (se 0) (se 1) (se 2) (se 3) rw wo sa sz ps bt ou ((L.length : Nat) : Int) dm pl re cu) (Y := MW cy b kd co th rw sz ((L.length : Nat) : Int) ps dm sx aa dk fi bb cz hm se da sa2 bt2 oz) (As := [.ref (a 0), .ref o]) (st := []) (c_L_rowX l hl9 D cy tw sr o a fo kd co (se 0) (se 1) (se 2) (se 3) rw wo sa sz ps bt ou ((L.length : Nat) : Int) dm pl re cu  (by omega)) (goodIn_mo wsL_law_in gL_law_L_row) kn_L_row ⟨rfl, rfl, Nat.le_of_ble_eq_true rfl, Nat.le_of_ble_eq_true rfl⟩ rfl (Nat.le_of_ble_eq_true rfl) hk1 dL_law_463 (fun y_1 hy_1 => ?_)
    show V (k + 1) (n + 6) (([(o, aJ (cy 2) 1 fo)] ++ CW cy a kd co (se 0) (se 1) (se 2) (se 3) rw wo sa sz ps bt ou ((L.length : Nat) : Int) dm pl re cu) ++ MW cy b kd co th rw sz ((L.length : Nat) : Int) ps dm sx aa dk fi bb cz hm se da sa2 bt2 oz) [(0, .ref scr), (1, .ref (a 0)), (2, .ref (b 0)), (3, .ref o), (4, vI i)] [vI 1] 466
    refine z_istore C (lv' := [(5, vI 1), (0, .ref scr), (1, .ref (a 0)), (2, .ref (b 0)), (3, .ref o), (4, vI i)]) dL_law_466 (by decide) rfl ?_
    refine z_aload_n C dL_law_468 3 rfl ?_
    show V (k + 1) (n + 6) (([(o, aJ (cy 2) 1 fo)] ++ CW cy a kd co (se 0) (se 1) (se 2) (se 3) rw wo sa sz ps bt ou ((L.length : Nat) : Int) dm pl re cu) ++ MW cy b kd co th rw sz ((L.length : Nat) : Int) ps dm sx aa dk fi bb cz hm se da sa2 bt2 oz) [(5, vI 1), (0, .ref scr), (1, .ref (a 0)), (2, .ref (b 0)), (3, .ref o), (4, vI i)] ([].reverse ++ .ref (b 0) :: []) 469
    refine z_callVE C (X := [(o, aJ (cy 2) 1 fo)] ++ CW cy a kd co (se 0) (se 1) (se 2) (se 3) rw wo sa sz ps bt ou ((L.length : Nat) : Int) dm pl re cu) (W0 := MW cy b kd co th rw sz ((L.length : Nat) : Int) ps dm sx aa dk fi bb cz hm se da sa2 bt2 oz) (As := []) (st := []) (c_X8_row l D cy tw b kd co th rw sz ((L.length : Nat) : Int) ps dm sx aa dk fi bb cz hm se da sa2 bt2 oz  (by omega)) (goodIn_mo wsL_law_in gL_law_X8_row) kn_X8_row rfl ⟨rfl, rfl, Nat.le_of_ble_eq_true rfl, Nat.le_of_ble_eq_true rfl⟩ 0 rfl (ci := 10) rfl rfl (Nat.le_of_ble_eq_true rfl) hk2 dL_law_469 (fun y_2 hy_2 => ?_)
    show V (k + 1) (n + 6) (([(o, aJ (cy 2) 1 fo)] ++ CW cy a kd co (se 0) (se 1) (se 2) (se 3) rw wo sa sz ps bt ou ((L.length : Nat) : Int) dm pl re cu) ++ MW cy b kd co (if rw = 24 then 1 else 0) (if rw = 24 then 24 else rw + 1) sz ((L.length : Nat) : Int) ps dm sx aa dk fi bb cz hm se (if rw = 24 then da else pnM da rw 0 700 false) (if rw = 24 then sa2 else va_up sa2 (rw : Int).toNat 0) bt2 oz) [(5, vI 1), (0, .ref scr), (1, .ref (a 0)), (2, .ref (b 0)), (3, .ref o), (4, vI i)] [vI (if rw = 24 then 0 else rw)] 472
    refine z_res (ws' := (([(o, aJ (cy 2) 1 fo)] ++ CW cy a kd co (se 0) (se 1) (se 2) (se 3) rw wo sa sz ps bt ou ((L.length : Nat) : Int) dm pl re cu) ++ MW cy b kd co 1 rw sz ((L.length : Nat) : Int) ps dm sx aa dk fi bb cz hm se da sa2 bt2 oz)) (y := 0) (by subst h24; rfl) (by rw [if_pos h24]) ?_
    show V (k + 1) (n + 6) (([(o, aJ (cy 2) 1 fo)] ++ CW cy a kd co (se 0) (se 1) (se 2) (se 3) rw wo sa sz ps bt ou ((L.length : Nat) : Int) dm pl re cu) ++ MW cy b kd co 1 rw sz ((L.length : Nat) : Int) ps dm sx aa dk fi bb cz hm se da sa2 bt2 oz) [(5, vI 1), (0, .ref scr), (1, .ref (a 0)), (2, .ref (b 0)), (3, .ref o), (4, vI i)] [vI 0] 472
    refine z_istore C (lv' := [(6, vI 0), (5, vI 1), (0, .ref scr), (1, .ref (a 0)), (2, .ref (b 0)), (3, .ref o), (4, vI i)]) dL_law_472 (by decide) rfl ?_
    refine z_aload_n C dL_law_474 4 rfl ?_
    show V (k + 1) (n + 6) (([(o, aJ (cy 2) 1 fo)] ++ CW cy a kd co (se 0) (se 1) (se 2) (se 3) rw wo sa sz ps bt ou ((L.length : Nat) : Int) dm pl re cu) ++ MW cy b kd co 1 rw sz ((L.length : Nat) : Int) ps dm sx aa dk fi bb cz hm se da sa2 bt2 oz) [(6, vI 0), (5, vI 1), (0, .ref scr), (1, .ref (a 0)), (2, .ref (b 0)), (3, .ref o), (4, vI i)] ([].reverse ++ .ref (b 0) :: []) 475
    refine z_callVE C (X := [(o, aJ (cy 2) 1 fo)] ++ CW cy a kd co (se 0) (se 1) (se 2) (se 3) rw wo sa sz ps bt ou ((L.length : Nat) : Int) dm pl re cu) (W0 := MW cy b kd co 1 rw sz ((L.length : Nat) : Int) ps dm sx aa dk fi bb cz hm se da sa2 bt2 oz) (As := []) (st := []) (c_X8_thrown l D cy tw b kd co 1 rw sz ((L.length : Nat) : Int) ps dm sx aa dk fi bb cz hm se da sa2 bt2 oz  ) (goodIn_mo wsL_law_in gL_law_X8_thrown) kn_X8_thrown rfl ⟨rfl, rfl, Nat.le_of_ble_eq_true rfl, Nat.le_of_ble_eq_true rfl⟩ 0 rfl (ci := 10) rfl rfl (Nat.le_of_ble_eq_true rfl) hk2 dL_law_475 (fun y_3 hy_3 => ?_)
    show V (k + 1) (n + 6) (([(o, aJ (cy 2) 1 fo)] ++ CW cy a kd co (se 0) (se 1) (se 2) (se 3) rw wo sa sz ps bt ou ((L.length : Nat) : Int) dm pl re cu) ++ MW cy b kd co 1 rw sz ((L.length : Nat) : Int) ps dm sx aa dk fi bb cz hm se da sa2 bt2 oz) [(6, vI 0), (5, vI 1), (0, .ref scr), (1, .ref (a 0)), (2, .ref (b 0)), (3, .ref o), (4, vI i)] [vI 1] 478
    refine z_iload C dL_law_478 1 rfl ?_
    refine z_icmp_eq C (by decide) (by decide) (tgt := 485) dL_law_480 (by decide) (fun _ => ?_) (fun hc => absurd rfl hc)
    refine z_iload C dL_law_485 1 rfl ?_
    refine z_if_ne C (by decide) (tgt := 502) dL_law_487 (by decide) (fun hc_4 => ?_) (fun hc_4 => ?_)
    rotate_left; · exact absurd hc_4 (by decide)
    refine z_goto C (tgt := 949) dL_law_502 (by decide) ?_
    refine z_lsub C [2, 3, 4, 5, 6] rfl ?_
    exact KK _ _ _ _ _ _ _ _ _ _ _ _ _ _ _ _ _ _ _ _ _ _ _ _ _ _ _ _ _ _ _ _ (by omega) (by omega) (LI_mk ⟨hkd, hco⟩ (hrw) (hsz) (hps) (hdm) (⟨rfl, rfl, rfl, rfl⟩) (hPX) (hSA) (⟨hBT, hB2⟩) (⟨hOR, hOZ, h8, hLn⟩))
  · refine z_aload_n C dL_law_461 1 rfl ?_
    refine z_aload_n C dL_law_462 3 rfl ?_
    show V k n (([] ++ ([(o, aJ (cy 2) 1 fo)] ++ CW cy a kd co (se 0) (se 1) (se 2) (se 3) rw wo sa sz ps bt ou ((L.length : Nat) : Int) dm pl re cu)) ++ MW cy b kd co th rw sz ((L.length : Nat) : Int) ps dm sx aa dk fi bb cz hm se da sa2 bt2 oz) [(0, .ref scr), (1, .ref (a 0)), (2, .ref (b 0)), (3, .ref o), (4, vI i)] ([.ref (a 0), .ref o].reverse ++ []) 463
    refine z_callSWF C XL (X := []) (W0 := [(o, aJ (cy 2) 1 fo)] ++ CW cy a kd co (se 0) (se 1) (se 2) (se 3) rw wo sa sz ps bt ou ((L.length : Nat) : Int) dm pl re cu) (Y := MW cy b kd co th rw sz ((L.length : Nat) : Int) ps dm sx aa dk fi bb cz hm se da sa2 bt2 oz) (As := [.ref (a 0), .ref o]) (st := []) (c_L_row l D cy tw sr o a fo kd co (se 0) (se 1) (se 2) (se 3) rw wo sa sz ps bt ou ((L.length : Nat) : Int) dm pl re cu  (by omega) (by omega) (by omega)) (goodIn_mo wsL_law_in gL_law_L_row) kn_L_row ⟨rfl, rfl, Nat.le_of_ble_eq_true rfl, Nat.le_of_ble_eq_true rfl⟩ rfl (Nat.le_of_ble_eq_true rfl) hk0 dL_law_463 (fun y_1 hy_1 => ?_)
    show V k n (([(o, aJ (cy 2) 1 (va_up fo (0 : Int).toNat (BitVec.ofInt 64 rw)))] ++ CW cy a kd co (se 0) (se 1) (se 2) (se 3) (rw + 1) (pnC wo co rw 0 co false) (va_up sa (rw : Int).toNat 0) sz ps bt ou ((L.length : Nat) : Int) dm pl re cu) ++ MW cy b kd co th rw sz ((L.length : Nat) : Int) ps dm sx aa dk fi bb cz hm se da sa2 bt2 oz) [(0, .ref scr), (1, .ref (a 0)), (2, .ref (b 0)), (3, .ref o), (4, vI i)] [vI 0] 466
    refine z_istore C (lv' := [(5, vI 0), (0, .ref scr), (1, .ref (a 0)), (2, .ref (b 0)), (3, .ref o), (4, vI i)]) dL_law_466 (by decide) rfl ?_
    refine z_aload_n C dL_law_468 3 rfl ?_
    show V k n (([(o, aJ (cy 2) 1 (va_up fo (0 : Int).toNat (BitVec.ofInt 64 rw)))] ++ CW cy a kd co (se 0) (se 1) (se 2) (se 3) (rw + 1) (pnC wo co rw 0 co false) (va_up sa (rw : Int).toNat 0) sz ps bt ou ((L.length : Nat) : Int) dm pl re cu) ++ MW cy b kd co th rw sz ((L.length : Nat) : Int) ps dm sx aa dk fi bb cz hm se da sa2 bt2 oz) [(5, vI 0), (0, .ref scr), (1, .ref (a 0)), (2, .ref (b 0)), (3, .ref o), (4, vI i)] ([].reverse ++ .ref (b 0) :: []) 469
    refine z_callVE C (X := [(o, aJ (cy 2) 1 (va_up fo (0 : Int).toNat (BitVec.ofInt 64 rw)))] ++ CW cy a kd co (se 0) (se 1) (se 2) (se 3) (rw + 1) (pnC wo co rw 0 co false) (va_up sa (rw : Int).toNat 0) sz ps bt ou ((L.length : Nat) : Int) dm pl re cu) (W0 := MW cy b kd co th rw sz ((L.length : Nat) : Int) ps dm sx aa dk fi bb cz hm se da sa2 bt2 oz) (As := []) (st := []) (c_X8_row l D cy tw b kd co th rw sz ((L.length : Nat) : Int) ps dm sx aa dk fi bb cz hm se da sa2 bt2 oz  (by omega)) (goodIn_mo wsL_law_in gL_law_X8_row) kn_X8_row rfl ⟨rfl, rfl, Nat.le_of_ble_eq_true rfl, Nat.le_of_ble_eq_true rfl⟩ 0 rfl (ci := 10) rfl rfl (Nat.le_of_ble_eq_true rfl) hk0 dL_law_469 (fun y_2 hy_2 => ?_)
    show V k n (([(o, aJ (cy 2) 1 (va_up fo (0 : Int).toNat (BitVec.ofInt 64 rw)))] ++ CW cy a kd co (se 0) (se 1) (se 2) (se 3) (rw + 1) (pnC wo co rw 0 co false) (va_up sa (rw : Int).toNat 0) sz ps bt ou ((L.length : Nat) : Int) dm pl re cu) ++ MW cy b kd co (if rw = 24 then 1 else 0) (if rw = 24 then 24 else rw + 1) sz ((L.length : Nat) : Int) ps dm sx aa dk fi bb cz hm se (if rw = 24 then da else pnM da rw 0 700 false) (if rw = 24 then sa2 else va_up sa2 (rw : Int).toNat 0) bt2 oz) [(5, vI 0), (0, .ref scr), (1, .ref (a 0)), (2, .ref (b 0)), (3, .ref o), (4, vI i)] [vI (if rw = 24 then 0 else rw)] 472
    refine z_res (ws' := (([(o, aJ (cy 2) 1 (va_up fo (0 : Int).toNat (BitVec.ofInt 64 rw)))] ++ CW cy a kd co (se 0) (se 1) (se 2) (se 3) (rw + 1) (pnC wo co rw 0 co false) (va_up sa (rw : Int).toNat 0) sz ps bt ou ((L.length : Nat) : Int) dm pl re cu) ++ MW cy b kd co 0 (rw + 1) sz ((L.length : Nat) : Int) ps dm sx aa dk fi bb cz hm se (pnM da rw 0 700 false) (va_up sa2 (rw : Int).toNat 0) bt2 oz)) (y := rw) (by simp only [if_neg h24]) (by rw [if_neg h24]) ?_
    show V k n (([(o, aJ (cy 2) 1 (va_up fo (0 : Int).toNat (BitVec.ofInt 64 rw)))] ++ CW cy a kd co (se 0) (se 1) (se 2) (se 3) (rw + 1) (pnC wo co rw 0 co false) (va_up sa (rw : Int).toNat 0) sz ps bt ou ((L.length : Nat) : Int) dm pl re cu) ++ MW cy b kd co 0 (rw + 1) sz ((L.length : Nat) : Int) ps dm sx aa dk fi bb cz hm se (pnM da rw 0 700 false) (va_up sa2 (rw : Int).toNat 0) bt2 oz) [(5, vI 0), (0, .ref scr), (1, .ref (a 0)), (2, .ref (b 0)), (3, .ref o), (4, vI i)] [vI rw] 472
    refine z_istore C (lv' := [(6, vI rw), (5, vI 0), (0, .ref scr), (1, .ref (a 0)), (2, .ref (b 0)), (3, .ref o), (4, vI i)]) dL_law_472 (by decide) rfl ?_
    refine z_aload_n C dL_law_474 4 rfl ?_
    show V k n (([(o, aJ (cy 2) 1 (va_up fo (0 : Int).toNat (BitVec.ofInt 64 rw)))] ++ CW cy a kd co (se 0) (se 1) (se 2) (se 3) (rw + 1) (pnC wo co rw 0 co false) (va_up sa (rw : Int).toNat 0) sz ps bt ou ((L.length : Nat) : Int) dm pl re cu) ++ MW cy b kd co 0 (rw + 1) sz ((L.length : Nat) : Int) ps dm sx aa dk fi bb cz hm se (pnM da rw 0 700 false) (va_up sa2 (rw : Int).toNat 0) bt2 oz) [(6, vI rw), (5, vI 0), (0, .ref scr), (1, .ref (a 0)), (2, .ref (b 0)), (3, .ref o), (4, vI i)] ([].reverse ++ .ref (b 0) :: []) 475
    refine z_callVE C (X := [(o, aJ (cy 2) 1 (va_up fo (0 : Int).toNat (BitVec.ofInt 64 rw)))] ++ CW cy a kd co (se 0) (se 1) (se 2) (se 3) (rw + 1) (pnC wo co rw 0 co false) (va_up sa (rw : Int).toNat 0) sz ps bt ou ((L.length : Nat) : Int) dm pl re cu) (W0 := MW cy b kd co 0 (rw + 1) sz ((L.length : Nat) : Int) ps dm sx aa dk fi bb cz hm se (pnM da rw 0 700 false) (va_up sa2 (rw : Int).toNat 0) bt2 oz) (As := []) (st := []) (c_X8_thrown l D cy tw b kd co 0 (rw + 1) sz ((L.length : Nat) : Int) ps dm sx aa dk fi bb cz hm se (pnM da rw 0 700 false) (va_up sa2 (rw : Int).toNat 0) bt2 oz  ) (goodIn_mo wsL_law_in gL_law_X8_thrown) kn_X8_thrown rfl ⟨rfl, rfl, Nat.le_of_ble_eq_true rfl, Nat.le_of_ble_eq_true rfl⟩ 0 rfl (ci := 10) rfl rfl (Nat.le_of_ble_eq_true rfl) hk0 dL_law_475 (fun y_3 hy_3 => ?_)
    show V k n (([(o, aJ (cy 2) 1 (va_up fo (0 : Int).toNat (BitVec.ofInt 64 rw)))] ++ CW cy a kd co (se 0) (se 1) (se 2) (se 3) (rw + 1) (pnC wo co rw 0 co false) (va_up sa (rw : Int).toNat 0) sz ps bt ou ((L.length : Nat) : Int) dm pl re cu) ++ MW cy b kd co 0 (rw + 1) sz ((L.length : Nat) : Int) ps dm sx aa dk fi bb cz hm se (pnM da rw 0 700 false) (va_up sa2 (rw : Int).toNat 0) bt2 oz) [(6, vI rw), (5, vI 0), (0, .ref scr), (1, .ref (a 0)), (2, .ref (b 0)), (3, .ref o), (4, vI i)] [vI 0] 478
    refine z_iload C dL_law_478 1 rfl ?_
    refine z_icmp_eq C (by decide) (by decide) (tgt := 485) dL_law_480 (by decide) (fun _ => ?_) (fun hc => absurd rfl hc)
    refine z_iload C dL_law_485 1 rfl ?_
    refine z_if_ne C (by decide) (tgt := 502) dL_law_487 (by decide) (fun hc_4 => ?_) (fun hc_4 => ?_)
    · exact absurd hc_4 (by decide)
    refine z_aload_n C dL_law_490 5 rfl ?_
    refine z_iconst C (z := 0) dL_law_491 ?_
    refine z_lald C 0 2 (g := (va_up fo (0 : Int).toNat (BitVec.ofInt 64 rw))) rfl rfl (by decide) (by decide) (by decide) dL_law_492 ?_
    refine z_iload C dL_law_493 0 rfl ?_
    refine z_i2l C (by omega) dL_law_495 ?_
    refine z_lcmp C dL_law_496 ?_
    refine z_if_eq C (lcm_rg _ _) (tgt := 502) dL_law_497 (by decide) (fun _ => ?_) (fun hc => absurd (lcm_same rfl) hc)
    refine z_goto C (tgt := 949) dL_law_502 (by decide) ?_
    refine z_lsub C [2, 3, 4, 5, 6] rfl ?_
    exact KK _ _ _ _ _ _ _ _ _ _ _ _ _ _ _ _ _ _ _ _ _ _ _ _ _ _ _ _ _ _ _ _ (by omega) (by omega) (LI_mk ⟨hkd, hco⟩ (by omega) (hsz) (hps) (hdm) (⟨rfl, rfl, rfl, rfl⟩) (PX_row hco (by omega) hPX) (ST_up (by decide) (rw + 1) hrw.1 (Or.inr ⟨rfl, rfl⟩) hSA) (⟨hBT, hB2⟩) (⟨hOR, hOZ, h8, hLn⟩))
set_option maxHeartbeats 2000000 in
set_option maxRecDepth 100000 in
theorem lw_clear {V : zV} {p : Program} {l : Launch} {e : Env} {s : State} {m : MethodId} {args : Array Value} {below : List Frame} {meth : Method} {c : Code} {D : va_G} {cy : Nat → ClassId} {tw sr : Nat → Nat} {A : Nat → Prop} {Q : State → Prop} {scr N : Nat} {zx : Nat → Int} (H : LC V p l e s m args below meth c D cy tw sr A Q scr N zx) (a b : Nat → Nat) (o : Nat) {k n : Nat} (hk : k + 1 ≤ 600384 ∧ n + 6 ≤ 7290968) {i : Int} (hi : 0 ≤ i ∧ i + 5 ≤ (N : Int)) {kd co : Int} (fo : Nat → BitVec 64) (mk al dz rd : Bool) (rw : Int) (wo : Nat → BitVec 64) (sa : Nat → Int) (sz ps : Int) (bt : Nat → Int) (ou : Nat → BitVec 64) (L : List Bool) (dm : Int) (pl : Bool) (re : Int) (cu : Bool) (th sx aa : Int) (dk fi : Bool) (bb cz : Int) (hm : Bool) (se da : Nat → Bool) (sa2 bt2 : Nat → Int) (oz : Nat → Bool) (hI : LI kd co mk al dz rd rw wo sa sz ps bt ou L dm se da sa2 bt2 oz) (KK : LKK V cy a b o scr i k n kd co) : V k n (([(o, aJ (cy 2) 1 fo)] ++ CW cy a kd co mk al dz rd rw wo sa sz ps bt ou ((L.length : Nat) : Int) dm pl re cu) ++ MW cy b kd co th rw sz ((L.length : Nat) : Int) ps dm sx aa dk fi bb cz hm se da sa2 bt2 oz) [(0, .ref scr), (1, .ref (a 0)), (2, .ref (b 0)), (3, .ref o), (4, vI i)] [] 505 := by
  obtain ⟨C, XL, hX, hbl, hbA, hN, hzx, hl9⟩ := H
  obtain ⟨⟨hkd, hco, hrw, hsz, hps, hdm⟩, ⟨rfl, rfl, rfl, rfl⟩, hPX, hSA, ⟨hBT, hB2⟩, hOR, hOZ, h8, hLn⟩ := hI
  have hk0 : k + 0 ≤ (room_1).cells ∧ n + 0 ≤ (room_1).slots := ⟨by show k ≤ 600384; omega, by show n ≤ 7290968; omega⟩
  have hk1 : k + 1 ≤ (room_1).cells ∧ n + 6 ≤ (room_1).slots := hk
  have hk2 : k + 1 + 0 ≤ (room_1).cells ∧ n + 6 + 0 ≤ (room_1).slots := hk
  have e8 : (((L.length : Nat) : Int) + 7) / 8 = ((L.length : Nat) : Int) / 8 := by omega
  refine z_aload_n C dL_law_505 1 rfl ?_
  show V k n (([(o, aJ (cy 2) 1 fo)] ++ CW cy a kd co (se 0) (se 1) (se 2) (se 3) rw wo sa sz ps bt ou ((L.length : Nat) : Int) dm pl re cu) ++ MW cy b kd co th rw sz ((L.length : Nat) : Int) ps dm sx aa dk fi bb cz hm se da sa2 bt2 oz) [(0, .ref scr), (1, .ref (a 0)), (2, .ref (b 0)), (3, .ref o), (4, vI i)] ([].reverse ++ .ref (a 0) :: []) 506
  refine z_callVF C (X := [(o, aJ (cy 2) 1 fo)]) (W0 := CW cy a kd co (se 0) (se 1) (se 2) (se 3) rw wo sa sz ps bt ou ((L.length : Nat) : Int) dm pl re cu) (Y := MW cy b kd co th rw sz ((L.length : Nat) : Int) ps dm sx aa dk fi bb cz hm se da sa2 bt2 oz) (As := []) (st := []) (c_X7_clear l D cy tw a kd co (se 0) (se 1) (se 2) (se 3) rw wo sa sz ps bt ou ((L.length : Nat) : Int) dm pl re cu  ) (goodIn_mo wsL_law_in gL_law_X7_clear) kn_X7_clear rfl ⟨rfl, rfl, Nat.le_of_ble_eq_true rfl, Nat.le_of_ble_eq_true rfl⟩ 0 rfl (ci := 9) rfl rfl (Nat.le_of_ble_eq_true rfl) hk0 dL_law_506 (fun y_1 hy_1 => ?_)
  show V k n (([(o, aJ (cy 2) 1 fo)] ++ CW cy a kd co (se 0) (se 1) (se 2) (se 3) 0 wo sa sz ps bt ou ((L.length : Nat) : Int) dm pl re cu) ++ MW cy b kd co th rw sz ((L.length : Nat) : Int) ps dm sx aa dk fi bb cz hm se da sa2 bt2 oz) [(0, .ref scr), (1, .ref (a 0)), (2, .ref (b 0)), (3, .ref o), (4, vI i)] [] 509
  refine z_aload_n C dL_law_509 2 rfl ?_
  show V k n (([(o, aJ (cy 2) 1 fo)] ++ CW cy a kd co (se 0) (se 1) (se 2) (se 3) 0 wo sa sz ps bt ou ((L.length : Nat) : Int) dm pl re cu) ++ MW cy b kd co th rw sz ((L.length : Nat) : Int) ps dm sx aa dk fi bb cz hm se da sa2 bt2 oz) [(0, .ref scr), (1, .ref (a 0)), (2, .ref (b 0)), (3, .ref o), (4, vI i)] ([].reverse ++ .ref (b 0) :: []) 510
  refine z_callVE C (X := [(o, aJ (cy 2) 1 fo)] ++ CW cy a kd co (se 0) (se 1) (se 2) (se 3) 0 wo sa sz ps bt ou ((L.length : Nat) : Int) dm pl re cu) (W0 := MW cy b kd co th rw sz ((L.length : Nat) : Int) ps dm sx aa dk fi bb cz hm se da sa2 bt2 oz) (As := []) (st := []) (c_X8_clear l D cy tw b kd co th rw sz ((L.length : Nat) : Int) ps dm sx aa dk fi bb cz hm se da sa2 bt2 oz  ) (goodIn_mo wsL_law_in gL_law_X8_clear) kn_X8_clear rfl ⟨rfl, rfl, Nat.le_of_ble_eq_true rfl, Nat.le_of_ble_eq_true rfl⟩ 0 rfl (ci := 10) rfl rfl (Nat.le_of_ble_eq_true rfl) hk0 dL_law_510 (fun y_2 hy_2 => ?_)
  show V k n (([(o, aJ (cy 2) 1 fo)] ++ CW cy a kd co (se 0) (se 1) (se 2) (se 3) 0 wo sa sz ps bt ou ((L.length : Nat) : Int) dm pl re cu) ++ MW cy b kd co 0 0 sz ((L.length : Nat) : Int) ps dm sx aa dk fi bb cz hm se da sa2 bt2 oz) [(0, .ref scr), (1, .ref (a 0)), (2, .ref (b 0)), (3, .ref o), (4, vI i)] [] 513
  refine z_goto C (tgt := 949) dL_law_513 (by decide) ?_
  exact KK _ _ _ _ _ _ _ _ _ _ _ _ _ _ _ _ _ _ _ _ _ _ _ _ _ _ _ _ _ _ _ _ (by omega) (by omega) (LI_mk ⟨hkd, hco⟩ (by decide) (hsz) (hps) (hdm) (⟨rfl, rfl, rfl, rfl⟩) (fun r j h1 h2 _ => by rw [show r = -1 by omega, px_neg', pd_m1]) (fun i hi => absurd hi (by omega)) (⟨hBT, hB2⟩) (⟨hOR, hOZ, h8, hLn⟩))
set_option maxHeartbeats 2000000 in
set_option maxRecDepth 100000 in
theorem lw_put {V : zV} {p : Program} {l : Launch} {e : Env} {s : State} {m : MethodId} {args : Array Value} {below : List Frame} {meth : Method} {c : Code} {D : va_G} {cy : Nat → ClassId} {tw sr : Nat → Nat} {A : Nat → Prop} {Q : State → Prop} {scr N : Nat} {zx : Nat → Int} (H : LC V p l e s m args below meth c D cy tw sr A Q scr N zx) (a b : Nat → Nat) (o : Nat) {k n : Nat} (hk : k + 1 ≤ 600384 ∧ n + 6 ≤ 7290968) {i : Int} (hi : 0 ≤ i ∧ i + 5 ≤ (N : Int)) {kd co : Int} (fo : Nat → BitVec 64) (mk al dz rd : Bool) (rw : Int) (wo : Nat → BitVec 64) (sa : Nat → Int) (sz ps : Int) (bt : Nat → Int) (ou : Nat → BitVec 64) (L : List Bool) (dm : Int) (pl : Bool) (re : Int) (cu : Bool) (th sx aa : Int) (dk fi : Bool) (bb cz : Int) (hm : Bool) (se da : Nat → Bool) (sa2 bt2 : Nat → Int) (oz : Nat → Bool) (hI : LI kd co mk al dz rd rw wo sa sz ps bt ou L dm se da sa2 bt2 oz) (KK : LKK V cy a b o scr i k n kd co) : V k n (([(o, aJ (cy 2) 1 fo)] ++ CW cy a kd co mk al dz rd rw wo sa sz ps bt ou ((L.length : Nat) : Int) dm pl re cu) ++ MW cy b kd co th rw sz ((L.length : Nat) : Int) ps dm sx aa dk fi bb cz hm se da sa2 bt2 oz) [(0, .ref scr), (1, .ref (a 0)), (2, .ref (b 0)), (3, .ref o), (4, vI i)] [] 516 := by
  obtain ⟨C, XL, hX, hbl, hbA, hN, hzx, hl9⟩ := H
  obtain ⟨⟨hkd, hco, hrw, hsz, hps, hdm⟩, ⟨rfl, rfl, rfl, rfl⟩, hPX, hSA, ⟨hBT, hB2⟩, hOR, hOZ, h8, hLn⟩ := hI
  have hk0 : k + 0 ≤ (room_1).cells ∧ n + 0 ≤ (room_1).slots := ⟨by show k ≤ 600384; omega, by show n ≤ 7290968; omega⟩
  have hk1 : k + 1 ≤ (room_1).cells ∧ n + 6 ≤ (room_1).slots := hk
  have hk2 : k + 1 + 0 ≤ (room_1).cells ∧ n + 6 + 0 ≤ (room_1).slots := hk
  have e8 : (((L.length : Nat) : Int) + 7) / 8 = ((L.length : Nat) : Int) / 8 := by omega
  obtain ⟨z1, ez1, hz1⟩ : ∃ z, zx (i + 1).toNat = z ∧ (-2147483648 ≤ z ∧ z < 2147483648) := ⟨_, rfl, hzx _⟩
  obtain ⟨z2, ez2, hz2⟩ : ∃ z, zx (i + 2).toNat = z ∧ (-2147483648 ≤ z ∧ z < 2147483648) := ⟨_, rfl, hzx _⟩
  obtain ⟨z3, ez3, hz3⟩ : ∃ z, zx (i + 3).toNat = z ∧ (-2147483648 ≤ z ∧ z < 2147483648) := ⟨_, rfl, hzx _⟩
  obtain ⟨z4, ez4, hz4⟩ : ∃ z, zx (i + 4).toNat = z ∧ (-2147483648 ≤ z ∧ z < 2147483648) := ⟨_, rfl, hzx _⟩
  by_cases hr1 : 0 ≤ z1 ∧ z1 < rw
  · by_cases hin : 0 ≤ z2 ∧ z2 < z3 ∧ z3 ≤ co
    · refine z_aload_n C dL_law_516 1 rfl ?_
      refine z_aload_n C dL_law_517 0 rfl ?_
      refine z_iload C dL_law_518 4 rfl ?_
      refine z_iconst C (z := 1) dL_law_520 ?_
      refine z_iadd C dL_law_521 ?_
      refine z_sldv C hX hbl hbA ez1 (by omega) (by omega) hN dL_law_522 ?_
      refine z_aload_n C dL_law_523 0 rfl ?_
      refine z_iload C dL_law_524 4 rfl ?_
      refine z_iconst C (z := 2) dL_law_526 ?_
      refine z_iadd C dL_law_527 ?_
      refine z_sldv C hX hbl hbA ez2 (by omega) (by omega) hN dL_law_528 ?_
      refine z_aload_n C dL_law_529 0 rfl ?_
      refine z_iload C dL_law_530 4 rfl ?_
      refine z_iconst C (z := 3) dL_law_532 ?_
      refine z_iadd C dL_law_533 ?_
      refine z_sldv C hX hbl hbA ez3 (by omega) (by omega) hN dL_law_534 ?_
      refine z_aload_n C dL_law_535 0 rfl ?_
      refine z_iload C dL_law_536 4 rfl ?_
      refine z_iconst C (z := 4) dL_law_538 ?_
      refine z_iadd C dL_law_539 ?_
      refine z_sldv C hX hbl hbA ez4 (by omega) (by omega) hN dL_law_540 ?_
      refine z_selz C (fun z => decide (¬ z = 0)) (by omega) (Or.inl ⟨rfl, rfl⟩) dL_law_541 dL_law_544 dL_law_545 dL_law_548 ?_
      show V k n (([(o, aJ (cy 2) 1 fo)] ++ (CW cy a kd co (se 0) (se 1) (se 2) (se 3) rw wo sa sz ps bt ou ((L.length : Nat) : Int) dm pl re cu)) ++ MW cy b kd co th rw sz ((L.length : Nat) : Int) ps dm sx aa dk fi bb cz hm se da sa2 bt2 oz) [(0, .ref scr), (1, .ref (a 0)), (2, .ref (b 0)), (3, .ref o), (4, vI i)] ([.ref (a 0), vI z1, vI z2, vI z3, vI (b2i (decide (¬ z4 = 0)))].reverse ++ []) 549
      refine z_callSWF C XL (X := [(o, aJ (cy 2) 1 fo)]) (W0 := CW cy a kd co (se 0) (se 1) (se 2) (se 3) rw wo sa sz ps bt ou ((L.length : Nat) : Int) dm pl re cu) (Y := MW cy b kd co th rw sz ((L.length : Nat) : Int) ps dm sx aa dk fi bb cz hm se da sa2 bt2 oz) (As := [.ref (a 0), vI z1, vI z2, vI z3, vI (b2i (decide (¬ z4 = 0)))]) (st := []) (c_L_put l D cy tw sr a kd co (se 0) (se 1) (se 2) (se 3) rw wo sa sz ps bt ou ((L.length : Nat) : Int) dm pl re cu z1 z2 z3 (decide (¬ z4 = 0)) (by omega) (by omega) (by omega) (by omega)) (goodIn_mo wsL_law_in gL_law_L_put) kn_L_put ⟨rfl, rfl, Nat.le_of_ble_eq_true rfl, Nat.le_of_ble_eq_true rfl⟩ rfl (Nat.le_of_ble_eq_true rfl) hk0 dL_law_549 (fun y_1 hy_1 => ?_)
      show V k n (([(o, aJ (cy 2) 1 fo)] ++ CW cy a kd co (se 0) (se 1) (se 2) (se 3) rw (pnC wo co z1 z2 z3 (decide (¬ z4 = 0))) (va_up sa (z1 : Int).toNat 0) sz ps bt ou ((L.length : Nat) : Int) dm pl re cu) ++ MW cy b kd co th rw sz ((L.length : Nat) : Int) ps dm sx aa dk fi bb cz hm se da sa2 bt2 oz) [(0, .ref scr), (1, .ref (a 0)), (2, .ref (b 0)), (3, .ref o), (4, vI i)] [vI 0] 552
      refine z_istore C (lv' := [(5, vI 0), (0, .ref scr), (1, .ref (a 0)), (2, .ref (b 0)), (3, .ref o), (4, vI i)]) dL_law_552 (by decide) rfl ?_
      refine z_aload_n C dL_law_554 3 rfl ?_
      refine z_aload_n C dL_law_555 1 rfl ?_
      refine z_iload C dL_law_556 5 rfl ?_
      refine z_iconst C (z := 1) dL_law_558 ?_
      refine z_iadd C dL_law_559 ?_
      refine z_sldv C hX hbl hbA ez1 (by omega) (by omega) hN dL_law_560 ?_
      refine z_aload_n C dL_law_561 1 rfl ?_
      refine z_iload C dL_law_562 5 rfl ?_
      refine z_iconst C (z := 2) dL_law_564 ?_
      refine z_iadd C dL_law_565 ?_
      refine z_sldv C hX hbl hbA ez2 (by omega) (by omega) hN dL_law_566 ?_
      refine z_aload_n C dL_law_567 1 rfl ?_
      refine z_iload C dL_law_568 5 rfl ?_
      refine z_iconst C (z := 3) dL_law_570 ?_
      refine z_iadd C dL_law_571 ?_
      refine z_sldv C hX hbl hbA ez3 (by omega) (by omega) hN dL_law_572 ?_
      refine z_aload_n C dL_law_573 1 rfl ?_
      refine z_iload C dL_law_574 5 rfl ?_
      refine z_iconst C (z := 4) dL_law_576 ?_
      refine z_iadd C dL_law_577 ?_
      refine z_sldv C hX hbl hbA ez4 (by omega) (by omega) hN dL_law_578 ?_
      refine z_selz C (fun z => decide (¬ z = 0)) (by omega) (Or.inl ⟨rfl, rfl⟩) dL_law_579 dL_law_582 dL_law_583 dL_law_586 ?_
      show V k n (([(o, aJ (cy 2) 1 fo)] ++ CW cy a kd co (se 0) (se 1) (se 2) (se 3) rw (pnC wo co z1 z2 z3 (decide (¬ z4 = 0))) (va_up sa (z1 : Int).toNat 0) sz ps bt ou ((L.length : Nat) : Int) dm pl re cu) ++ MW cy b kd co th rw sz ((L.length : Nat) : Int) ps dm sx aa dk fi bb cz hm se da sa2 bt2 oz) [(5, vI 0), (0, .ref scr), (1, .ref (a 0)), (2, .ref (b 0)), (3, .ref o), (4, vI i)] ([vI z1, vI z2, vI z3, vI (b2i (decide (¬ z4 = 0)))].reverse ++ .ref (b 0) :: []) 587
      refine z_callVE C (X := [(o, aJ (cy 2) 1 fo)] ++ CW cy a kd co (se 0) (se 1) (se 2) (se 3) rw (pnC wo co z1 z2 z3 (decide (¬ z4 = 0))) (va_up sa (z1 : Int).toNat 0) sz ps bt ou ((L.length : Nat) : Int) dm pl re cu) (W0 := MW cy b kd co th rw sz ((L.length : Nat) : Int) ps dm sx aa dk fi bb cz hm se da sa2 bt2 oz) (As := [vI z1, vI z2, vI z3, vI (b2i (decide (¬ z4 = 0)))]) (st := []) (c_X8_put l D cy tw b kd co th rw sz ((L.length : Nat) : Int) ps dm sx aa dk fi bb cz hm se da sa2 bt2 oz z1 z2 z3 (decide (¬ z4 = 0)) (by omega) (by omega) (by omega) (by omega) (by omega)) (goodIn_mo wsL_law_in gL_law_X8_put) kn_X8_put rfl ⟨rfl, rfl, Nat.le_of_ble_eq_true rfl, Nat.le_of_ble_eq_true rfl⟩ 0 rfl (ci := 10) rfl rfl (Nat.le_of_ble_eq_true rfl) hk0 dL_law_587 (fun y_2 hy_2 => ?_)
      show V k n (([(o, aJ (cy 2) 1 fo)] ++ CW cy a kd co (se 0) (se 1) (se 2) (se 3) rw (pnC wo co z1 z2 z3 (decide (¬ z4 = 0))) (va_up sa (z1 : Int).toNat 0) sz ps bt ou ((L.length : Nat) : Int) dm pl re cu) ++ MW cy b kd co (if 0 ≤ z1 ∧ z1 < rw then (if 0 ≤ z2 ∧ z2 < z3 ∧ z3 ≤ co then 0 else 2) else 1) rw sz ((L.length : Nat) : Int) ps dm sx aa dk fi bb cz hm se (if (0 ≤ z1 ∧ z1 < rw) ∧ 0 ≤ z2 ∧ z2 < z3 ∧ z3 ≤ co then pnM da z1 z2 z3 (decide (¬ z4 = 0)) else da) (if (0 ≤ z1 ∧ z1 < rw) ∧ 0 ≤ z2 ∧ z2 < z3 ∧ z3 ≤ co then va_up sa2 (z1 : Int).toNat 0 else sa2) bt2 oz) [(5, vI 0), (0, .ref scr), (1, .ref (a 0)), (2, .ref (b 0)), (3, .ref o), (4, vI i)] [] 590
      refine z_Wq (ws' := (([(o, aJ (cy 2) 1 fo)] ++ CW cy a kd co (se 0) (se 1) (se 2) (se 3) rw (pnC wo co z1 z2 z3 (decide (¬ z4 = 0))) (va_up sa (z1 : Int).toNat 0) sz ps bt ou ((L.length : Nat) : Int) dm pl re cu) ++ MW cy b kd co 0 rw sz ((L.length : Nat) : Int) ps dm sx aa dk fi bb cz hm se (pnM da z1 z2 z3 (decide (¬ z4 = 0))) (va_up sa2 (z1 : Int).toNat 0) bt2 oz)) (by simp only [if_pos hr1, if_pos hin, if_pos (And.intro hr1 hin)]) ?_
      show V k n (([(o, aJ (cy 2) 1 fo)] ++ CW cy a kd co (se 0) (se 1) (se 2) (se 3) rw (pnC wo co z1 z2 z3 (decide (¬ z4 = 0))) (va_up sa (z1 : Int).toNat 0) sz ps bt ou ((L.length : Nat) : Int) dm pl re cu) ++ MW cy b kd co 0 rw sz ((L.length : Nat) : Int) ps dm sx aa dk fi bb cz hm se (pnM da z1 z2 z3 (decide (¬ z4 = 0))) (va_up sa2 (z1 : Int).toNat 0) bt2 oz) [(5, vI 0), (0, .ref scr), (1, .ref (a 0)), (2, .ref (b 0)), (3, .ref o), (4, vI i)] [] 590
      refine z_aload_n C dL_law_590 3 rfl ?_
      show V k n (([(o, aJ (cy 2) 1 fo)] ++ CW cy a kd co (se 0) (se 1) (se 2) (se 3) rw (pnC wo co z1 z2 z3 (decide (¬ z4 = 0))) (va_up sa (z1 : Int).toNat 0) sz ps bt ou ((L.length : Nat) : Int) dm pl re cu) ++ MW cy b kd co 0 rw sz ((L.length : Nat) : Int) ps dm sx aa dk fi bb cz hm se (pnM da z1 z2 z3 (decide (¬ z4 = 0))) (va_up sa2 (z1 : Int).toNat 0) bt2 oz) [(5, vI 0), (0, .ref scr), (1, .ref (a 0)), (2, .ref (b 0)), (3, .ref o), (4, vI i)] ([].reverse ++ .ref (b 0) :: []) 591
      refine z_callVE C (X := [(o, aJ (cy 2) 1 fo)] ++ CW cy a kd co (se 0) (se 1) (se 2) (se 3) rw (pnC wo co z1 z2 z3 (decide (¬ z4 = 0))) (va_up sa (z1 : Int).toNat 0) sz ps bt ou ((L.length : Nat) : Int) dm pl re cu) (W0 := MW cy b kd co 0 rw sz ((L.length : Nat) : Int) ps dm sx aa dk fi bb cz hm se (pnM da z1 z2 z3 (decide (¬ z4 = 0))) (va_up sa2 (z1 : Int).toNat 0) bt2 oz) (As := []) (st := []) (c_X8_thrown l D cy tw b kd co 0 rw sz ((L.length : Nat) : Int) ps dm sx aa dk fi bb cz hm se (pnM da z1 z2 z3 (decide (¬ z4 = 0))) (va_up sa2 (z1 : Int).toNat 0) bt2 oz  ) (goodIn_mo wsL_law_in gL_law_X8_thrown) kn_X8_thrown rfl ⟨rfl, rfl, Nat.le_of_ble_eq_true rfl, Nat.le_of_ble_eq_true rfl⟩ 0 rfl (ci := 10) rfl rfl (Nat.le_of_ble_eq_true rfl) hk0 dL_law_591 (fun y_3 hy_3 => ?_)
      show V k n (([(o, aJ (cy 2) 1 fo)] ++ CW cy a kd co (se 0) (se 1) (se 2) (se 3) rw (pnC wo co z1 z2 z3 (decide (¬ z4 = 0))) (va_up sa (z1 : Int).toNat 0) sz ps bt ou ((L.length : Nat) : Int) dm pl re cu) ++ MW cy b kd co 0 rw sz ((L.length : Nat) : Int) ps dm sx aa dk fi bb cz hm se (pnM da z1 z2 z3 (decide (¬ z4 = 0))) (va_up sa2 (z1 : Int).toNat 0) bt2 oz) [(5, vI 0), (0, .ref scr), (1, .ref (a 0)), (2, .ref (b 0)), (3, .ref o), (4, vI i)] [vI 0] 594
      refine z_iload C dL_law_594 0 rfl ?_
      refine z_icmp_eq C (by decide) (by decide) (tgt := 601) dL_law_596 (by decide) (fun _ => ?_) (fun hc => absurd rfl hc)
      refine z_goto C (tgt := 949) dL_law_601 (by decide) ?_
      refine z_lsub C [1, 2, 3, 4, 5] rfl ?_
      exact KK _ _ _ _ _ _ _ _ _ _ _ _ _ _ _ _ _ _ _ _ _ _ _ _ _ _ _ _ _ _ _ _ (by omega) (by omega) (LI_mk ⟨hkd, hco⟩ (hrw) (hsz) (hps) (hdm) (⟨rfl, rfl, rfl, rfl⟩) (PX_pn _ hco (by omega) hin.1 hin.2.2 hPX) (ST_up (by decide) rw hr1.1 (Or.inl (Int.le_refl _)) hSA) (⟨hBT, hB2⟩) (⟨hOR, hOZ, h8, hLn⟩))
    · refine z_aload_n C dL_law_516 1 rfl ?_
      refine z_aload_n C dL_law_517 0 rfl ?_
      refine z_iload C dL_law_518 4 rfl ?_
      refine z_iconst C (z := 1) dL_law_520 ?_
      refine z_iadd C dL_law_521 ?_
      refine z_sldv C hX hbl hbA ez1 (by omega) (by omega) hN dL_law_522 ?_
      refine z_aload_n C dL_law_523 0 rfl ?_
      refine z_iload C dL_law_524 4 rfl ?_
      refine z_iconst C (z := 2) dL_law_526 ?_
      refine z_iadd C dL_law_527 ?_
      refine z_sldv C hX hbl hbA ez2 (by omega) (by omega) hN dL_law_528 ?_
      refine z_aload_n C dL_law_529 0 rfl ?_
      refine z_iload C dL_law_530 4 rfl ?_
      refine z_iconst C (z := 3) dL_law_532 ?_
      refine z_iadd C dL_law_533 ?_
      refine z_sldv C hX hbl hbA ez3 (by omega) (by omega) hN dL_law_534 ?_
      refine z_aload_n C dL_law_535 0 rfl ?_
      refine z_iload C dL_law_536 4 rfl ?_
      refine z_iconst C (z := 4) dL_law_538 ?_
      refine z_iadd C dL_law_539 ?_
      refine z_sldv C hX hbl hbA ez4 (by omega) (by omega) hN dL_law_540 ?_
      refine z_selz C (fun z => decide (¬ z = 0)) (by omega) (Or.inl ⟨rfl, rfl⟩) dL_law_541 dL_law_544 dL_law_545 dL_law_548 ?_
      show V k n (([(o, aJ (cy 2) 1 fo)] ++ (CW cy a kd co (se 0) (se 1) (se 2) (se 3) rw wo sa sz ps bt ou ((L.length : Nat) : Int) dm pl re cu)) ++ MW cy b kd co th rw sz ((L.length : Nat) : Int) ps dm sx aa dk fi bb cz hm se da sa2 bt2 oz) [(0, .ref scr), (1, .ref (a 0)), (2, .ref (b 0)), (3, .ref o), (4, vI i)] ([.ref (a 0), vI z1, vI z2, vI z3, vI (b2i (decide (¬ z4 = 0)))].reverse ++ []) 549
      refine z_callSWF C XL (X := [(o, aJ (cy 2) 1 fo)]) (W0 := CW cy a kd co (se 0) (se 1) (se 2) (se 3) rw wo sa sz ps bt ou ((L.length : Nat) : Int) dm pl re cu) (Y := MW cy b kd co th rw sz ((L.length : Nat) : Int) ps dm sx aa dk fi bb cz hm se da sa2 bt2 oz) (As := [.ref (a 0), vI z1, vI z2, vI z3, vI (b2i (decide (¬ z4 = 0)))]) (st := []) (c_L_putXI l hl9 D cy tw sr a kd co (se 0) (se 1) (se 2) (se 3) rw wo sa sz ps bt ou ((L.length : Nat) : Int) dm pl re cu z1 z2 z3 (decide (¬ z4 = 0)) (by omega) (by omega) (by omega) (by omega) (by omega) (by omega)) (goodIn_mo wsL_law_in gL_law_L_put) kn_L_put ⟨rfl, rfl, Nat.le_of_ble_eq_true rfl, Nat.le_of_ble_eq_true rfl⟩ rfl (Nat.le_of_ble_eq_true rfl) hk1 dL_law_549 (fun y_1 hy_1 => ?_)
      show V (k + 1) (n + 6) (([(o, aJ (cy 2) 1 fo)] ++ CW cy a kd co (se 0) (se 1) (se 2) (se 3) rw wo sa sz ps bt ou ((L.length : Nat) : Int) dm pl re cu) ++ MW cy b kd co th rw sz ((L.length : Nat) : Int) ps dm sx aa dk fi bb cz hm se da sa2 bt2 oz) [(0, .ref scr), (1, .ref (a 0)), (2, .ref (b 0)), (3, .ref o), (4, vI i)] [vI 2] 552
      refine z_istore C (lv' := [(5, vI 2), (0, .ref scr), (1, .ref (a 0)), (2, .ref (b 0)), (3, .ref o), (4, vI i)]) dL_law_552 (by decide) rfl ?_
      refine z_aload_n C dL_law_554 3 rfl ?_
      refine z_aload_n C dL_law_555 1 rfl ?_
      refine z_iload C dL_law_556 5 rfl ?_
      refine z_iconst C (z := 1) dL_law_558 ?_
      refine z_iadd C dL_law_559 ?_
      refine z_sldv C hX hbl hbA ez1 (by omega) (by omega) hN dL_law_560 ?_
      refine z_aload_n C dL_law_561 1 rfl ?_
      refine z_iload C dL_law_562 5 rfl ?_
      refine z_iconst C (z := 2) dL_law_564 ?_
      refine z_iadd C dL_law_565 ?_
      refine z_sldv C hX hbl hbA ez2 (by omega) (by omega) hN dL_law_566 ?_
      refine z_aload_n C dL_law_567 1 rfl ?_
      refine z_iload C dL_law_568 5 rfl ?_
      refine z_iconst C (z := 3) dL_law_570 ?_
      refine z_iadd C dL_law_571 ?_
      refine z_sldv C hX hbl hbA ez3 (by omega) (by omega) hN dL_law_572 ?_
      refine z_aload_n C dL_law_573 1 rfl ?_
      refine z_iload C dL_law_574 5 rfl ?_
      refine z_iconst C (z := 4) dL_law_576 ?_
      refine z_iadd C dL_law_577 ?_
      refine z_sldv C hX hbl hbA ez4 (by omega) (by omega) hN dL_law_578 ?_
      refine z_selz C (fun z => decide (¬ z = 0)) (by omega) (Or.inl ⟨rfl, rfl⟩) dL_law_579 dL_law_582 dL_law_583 dL_law_586 ?_
      show V (k + 1) (n + 6) (([(o, aJ (cy 2) 1 fo)] ++ CW cy a kd co (se 0) (se 1) (se 2) (se 3) rw wo sa sz ps bt ou ((L.length : Nat) : Int) dm pl re cu) ++ MW cy b kd co th rw sz ((L.length : Nat) : Int) ps dm sx aa dk fi bb cz hm se da sa2 bt2 oz) [(5, vI 2), (0, .ref scr), (1, .ref (a 0)), (2, .ref (b 0)), (3, .ref o), (4, vI i)] ([vI z1, vI z2, vI z3, vI (b2i (decide (¬ z4 = 0)))].reverse ++ .ref (b 0) :: []) 587
      refine z_callVE C (X := [(o, aJ (cy 2) 1 fo)] ++ CW cy a kd co (se 0) (se 1) (se 2) (se 3) rw wo sa sz ps bt ou ((L.length : Nat) : Int) dm pl re cu) (W0 := MW cy b kd co th rw sz ((L.length : Nat) : Int) ps dm sx aa dk fi bb cz hm se da sa2 bt2 oz) (As := [vI z1, vI z2, vI z3, vI (b2i (decide (¬ z4 = 0)))]) (st := []) (c_X8_put l D cy tw b kd co th rw sz ((L.length : Nat) : Int) ps dm sx aa dk fi bb cz hm se da sa2 bt2 oz z1 z2 z3 (decide (¬ z4 = 0)) (by omega) (by omega) (by omega) (by omega) (by omega)) (goodIn_mo wsL_law_in gL_law_X8_put) kn_X8_put rfl ⟨rfl, rfl, Nat.le_of_ble_eq_true rfl, Nat.le_of_ble_eq_true rfl⟩ 0 rfl (ci := 10) rfl rfl (Nat.le_of_ble_eq_true rfl) hk2 dL_law_587 (fun y_2 hy_2 => ?_)
      show V (k + 1) (n + 6) (([(o, aJ (cy 2) 1 fo)] ++ CW cy a kd co (se 0) (se 1) (se 2) (se 3) rw wo sa sz ps bt ou ((L.length : Nat) : Int) dm pl re cu) ++ MW cy b kd co (if 0 ≤ z1 ∧ z1 < rw then (if 0 ≤ z2 ∧ z2 < z3 ∧ z3 ≤ co then 0 else 2) else 1) rw sz ((L.length : Nat) : Int) ps dm sx aa dk fi bb cz hm se (if (0 ≤ z1 ∧ z1 < rw) ∧ 0 ≤ z2 ∧ z2 < z3 ∧ z3 ≤ co then pnM da z1 z2 z3 (decide (¬ z4 = 0)) else da) (if (0 ≤ z1 ∧ z1 < rw) ∧ 0 ≤ z2 ∧ z2 < z3 ∧ z3 ≤ co then va_up sa2 (z1 : Int).toNat 0 else sa2) bt2 oz) [(5, vI 2), (0, .ref scr), (1, .ref (a 0)), (2, .ref (b 0)), (3, .ref o), (4, vI i)] [] 590
      refine z_Wq (ws' := (([(o, aJ (cy 2) 1 fo)] ++ CW cy a kd co (se 0) (se 1) (se 2) (se 3) rw wo sa sz ps bt ou ((L.length : Nat) : Int) dm pl re cu) ++ MW cy b kd co 2 rw sz ((L.length : Nat) : Int) ps dm sx aa dk fi bb cz hm se da sa2 bt2 oz)) (by simp only [if_pos hr1, if_neg hin, if_neg (fun h : (0 ≤ z1 ∧ z1 < rw) ∧ 0 ≤ z2 ∧ z2 < z3 ∧ z3 ≤ co => hin h.2)]) ?_
      show V (k + 1) (n + 6) (([(o, aJ (cy 2) 1 fo)] ++ CW cy a kd co (se 0) (se 1) (se 2) (se 3) rw wo sa sz ps bt ou ((L.length : Nat) : Int) dm pl re cu) ++ MW cy b kd co 2 rw sz ((L.length : Nat) : Int) ps dm sx aa dk fi bb cz hm se da sa2 bt2 oz) [(5, vI 2), (0, .ref scr), (1, .ref (a 0)), (2, .ref (b 0)), (3, .ref o), (4, vI i)] [] 590
      refine z_aload_n C dL_law_590 3 rfl ?_
      show V (k + 1) (n + 6) (([(o, aJ (cy 2) 1 fo)] ++ CW cy a kd co (se 0) (se 1) (se 2) (se 3) rw wo sa sz ps bt ou ((L.length : Nat) : Int) dm pl re cu) ++ MW cy b kd co 2 rw sz ((L.length : Nat) : Int) ps dm sx aa dk fi bb cz hm se da sa2 bt2 oz) [(5, vI 2), (0, .ref scr), (1, .ref (a 0)), (2, .ref (b 0)), (3, .ref o), (4, vI i)] ([].reverse ++ .ref (b 0) :: []) 591
      refine z_callVE C (X := [(o, aJ (cy 2) 1 fo)] ++ CW cy a kd co (se 0) (se 1) (se 2) (se 3) rw wo sa sz ps bt ou ((L.length : Nat) : Int) dm pl re cu) (W0 := MW cy b kd co 2 rw sz ((L.length : Nat) : Int) ps dm sx aa dk fi bb cz hm se da sa2 bt2 oz) (As := []) (st := []) (c_X8_thrown l D cy tw b kd co 2 rw sz ((L.length : Nat) : Int) ps dm sx aa dk fi bb cz hm se da sa2 bt2 oz  ) (goodIn_mo wsL_law_in gL_law_X8_thrown) kn_X8_thrown rfl ⟨rfl, rfl, Nat.le_of_ble_eq_true rfl, Nat.le_of_ble_eq_true rfl⟩ 0 rfl (ci := 10) rfl rfl (Nat.le_of_ble_eq_true rfl) hk2 dL_law_591 (fun y_3 hy_3 => ?_)
      show V (k + 1) (n + 6) (([(o, aJ (cy 2) 1 fo)] ++ CW cy a kd co (se 0) (se 1) (se 2) (se 3) rw wo sa sz ps bt ou ((L.length : Nat) : Int) dm pl re cu) ++ MW cy b kd co 2 rw sz ((L.length : Nat) : Int) ps dm sx aa dk fi bb cz hm se da sa2 bt2 oz) [(5, vI 2), (0, .ref scr), (1, .ref (a 0)), (2, .ref (b 0)), (3, .ref o), (4, vI i)] [vI 2] 594
      refine z_iload C dL_law_594 0 rfl ?_
      refine z_icmp_eq C (by decide) (by decide) (tgt := 601) dL_law_596 (by decide) (fun _ => ?_) (fun hc => absurd rfl hc)
      refine z_goto C (tgt := 949) dL_law_601 (by decide) ?_
      refine z_lsub C [1, 2, 3, 4, 5] rfl ?_
      exact KK _ _ _ _ _ _ _ _ _ _ _ _ _ _ _ _ _ _ _ _ _ _ _ _ _ _ _ _ _ _ _ _ (by omega) (by omega) (LI_mk ⟨hkd, hco⟩ (hrw) (hsz) (hps) (hdm) (⟨rfl, rfl, rfl, rfl⟩) (hPX) (hSA) (⟨hBT, hB2⟩) (⟨hOR, hOZ, h8, hLn⟩))
  · refine z_aload_n C dL_law_516 1 rfl ?_
    refine z_aload_n C dL_law_517 0 rfl ?_
    refine z_iload C dL_law_518 4 rfl ?_
    refine z_iconst C (z := 1) dL_law_520 ?_
    refine z_iadd C dL_law_521 ?_
    refine z_sldv C hX hbl hbA ez1 (by omega) (by omega) hN dL_law_522 ?_
    refine z_aload_n C dL_law_523 0 rfl ?_
    refine z_iload C dL_law_524 4 rfl ?_
    refine z_iconst C (z := 2) dL_law_526 ?_
    refine z_iadd C dL_law_527 ?_
    refine z_sldv C hX hbl hbA ez2 (by omega) (by omega) hN dL_law_528 ?_
    refine z_aload_n C dL_law_529 0 rfl ?_
    refine z_iload C dL_law_530 4 rfl ?_
    refine z_iconst C (z := 3) dL_law_532 ?_
    refine z_iadd C dL_law_533 ?_
    refine z_sldv C hX hbl hbA ez3 (by omega) (by omega) hN dL_law_534 ?_
    refine z_aload_n C dL_law_535 0 rfl ?_
    refine z_iload C dL_law_536 4 rfl ?_
    refine z_iconst C (z := 4) dL_law_538 ?_
    refine z_iadd C dL_law_539 ?_
    refine z_sldv C hX hbl hbA ez4 (by omega) (by omega) hN dL_law_540 ?_
    refine z_selz C (fun z => decide (¬ z = 0)) (by omega) (Or.inl ⟨rfl, rfl⟩) dL_law_541 dL_law_544 dL_law_545 dL_law_548 ?_
    show V k n (([(o, aJ (cy 2) 1 fo)] ++ (CW cy a kd co (se 0) (se 1) (se 2) (se 3) rw wo sa sz ps bt ou ((L.length : Nat) : Int) dm pl re cu)) ++ MW cy b kd co th rw sz ((L.length : Nat) : Int) ps dm sx aa dk fi bb cz hm se da sa2 bt2 oz) [(0, .ref scr), (1, .ref (a 0)), (2, .ref (b 0)), (3, .ref o), (4, vI i)] ([.ref (a 0), vI z1, vI z2, vI z3, vI (b2i (decide (¬ z4 = 0)))].reverse ++ []) 549
    refine z_callSWF C XL (X := [(o, aJ (cy 2) 1 fo)]) (W0 := CW cy a kd co (se 0) (se 1) (se 2) (se 3) rw wo sa sz ps bt ou ((L.length : Nat) : Int) dm pl re cu) (Y := MW cy b kd co th rw sz ((L.length : Nat) : Int) ps dm sx aa dk fi bb cz hm se da sa2 bt2 oz) (As := [.ref (a 0), vI z1, vI z2, vI z3, vI (b2i (decide (¬ z4 = 0)))]) (st := []) (c_L_putXA l hl9 D cy tw sr a kd co (se 0) (se 1) (se 2) (se 3) rw wo sa sz ps bt ou ((L.length : Nat) : Int) dm pl re cu z1 z2 z3 (decide (¬ z4 = 0)) (by omega) (by omega) (by omega)) (goodIn_sA (goodIn_mo wsL_law_in gL_law_L_put) goodEL) kn_L_putA ⟨rfl, rfl, Nat.le_of_ble_eq_true rfl, Nat.le_of_ble_eq_true rfl⟩ rfl (Nat.le_of_ble_eq_true rfl) hk1 dL_law_549 (fun y_1 hy_1 => ?_)
    show V (k + 1) (n + 6) (([(o, aJ (cy 2) 1 fo)] ++ CW cy a kd co (se 0) (se 1) (se 2) (se 3) rw wo sa sz ps bt ou ((L.length : Nat) : Int) dm pl re cu) ++ MW cy b kd co th rw sz ((L.length : Nat) : Int) ps dm sx aa dk fi bb cz hm se da sa2 bt2 oz) [(0, .ref scr), (1, .ref (a 0)), (2, .ref (b 0)), (3, .ref o), (4, vI i)] [vI 1] 552
    refine z_istore C (lv' := [(5, vI 1), (0, .ref scr), (1, .ref (a 0)), (2, .ref (b 0)), (3, .ref o), (4, vI i)]) dL_law_552 (by decide) rfl ?_
    refine z_aload_n C dL_law_554 3 rfl ?_
    refine z_aload_n C dL_law_555 1 rfl ?_
    refine z_iload C dL_law_556 5 rfl ?_
    refine z_iconst C (z := 1) dL_law_558 ?_
    refine z_iadd C dL_law_559 ?_
    refine z_sldv C hX hbl hbA ez1 (by omega) (by omega) hN dL_law_560 ?_
    refine z_aload_n C dL_law_561 1 rfl ?_
    refine z_iload C dL_law_562 5 rfl ?_
    refine z_iconst C (z := 2) dL_law_564 ?_
    refine z_iadd C dL_law_565 ?_
    refine z_sldv C hX hbl hbA ez2 (by omega) (by omega) hN dL_law_566 ?_
    refine z_aload_n C dL_law_567 1 rfl ?_
    refine z_iload C dL_law_568 5 rfl ?_
    refine z_iconst C (z := 3) dL_law_570 ?_
    refine z_iadd C dL_law_571 ?_
    refine z_sldv C hX hbl hbA ez3 (by omega) (by omega) hN dL_law_572 ?_
    refine z_aload_n C dL_law_573 1 rfl ?_
    refine z_iload C dL_law_574 5 rfl ?_
    refine z_iconst C (z := 4) dL_law_576 ?_
    refine z_iadd C dL_law_577 ?_
    refine z_sldv C hX hbl hbA ez4 (by omega) (by omega) hN dL_law_578 ?_
    refine z_selz C (fun z => decide (¬ z = 0)) (by omega) (Or.inl ⟨rfl, rfl⟩) dL_law_579 dL_law_582 dL_law_583 dL_law_586 ?_
    show V (k + 1) (n + 6) (([(o, aJ (cy 2) 1 fo)] ++ CW cy a kd co (se 0) (se 1) (se 2) (se 3) rw wo sa sz ps bt ou ((L.length : Nat) : Int) dm pl re cu) ++ MW cy b kd co th rw sz ((L.length : Nat) : Int) ps dm sx aa dk fi bb cz hm se da sa2 bt2 oz) [(5, vI 1), (0, .ref scr), (1, .ref (a 0)), (2, .ref (b 0)), (3, .ref o), (4, vI i)] ([vI z1, vI z2, vI z3, vI (b2i (decide (¬ z4 = 0)))].reverse ++ .ref (b 0) :: []) 587
    refine z_callVE C (X := [(o, aJ (cy 2) 1 fo)] ++ CW cy a kd co (se 0) (se 1) (se 2) (se 3) rw wo sa sz ps bt ou ((L.length : Nat) : Int) dm pl re cu) (W0 := MW cy b kd co th rw sz ((L.length : Nat) : Int) ps dm sx aa dk fi bb cz hm se da sa2 bt2 oz) (As := [vI z1, vI z2, vI z3, vI (b2i (decide (¬ z4 = 0)))]) (st := []) (c_X8_put l D cy tw b kd co th rw sz ((L.length : Nat) : Int) ps dm sx aa dk fi bb cz hm se da sa2 bt2 oz z1 z2 z3 (decide (¬ z4 = 0)) (by omega) (by omega) (by omega) (by omega) (by omega)) (goodIn_mo wsL_law_in gL_law_X8_put) kn_X8_put rfl ⟨rfl, rfl, Nat.le_of_ble_eq_true rfl, Nat.le_of_ble_eq_true rfl⟩ 0 rfl (ci := 10) rfl rfl (Nat.le_of_ble_eq_true rfl) hk2 dL_law_587 (fun y_2 hy_2 => ?_)
    show V (k + 1) (n + 6) (([(o, aJ (cy 2) 1 fo)] ++ CW cy a kd co (se 0) (se 1) (se 2) (se 3) rw wo sa sz ps bt ou ((L.length : Nat) : Int) dm pl re cu) ++ MW cy b kd co (if 0 ≤ z1 ∧ z1 < rw then (if 0 ≤ z2 ∧ z2 < z3 ∧ z3 ≤ co then 0 else 2) else 1) rw sz ((L.length : Nat) : Int) ps dm sx aa dk fi bb cz hm se (if (0 ≤ z1 ∧ z1 < rw) ∧ 0 ≤ z2 ∧ z2 < z3 ∧ z3 ≤ co then pnM da z1 z2 z3 (decide (¬ z4 = 0)) else da) (if (0 ≤ z1 ∧ z1 < rw) ∧ 0 ≤ z2 ∧ z2 < z3 ∧ z3 ≤ co then va_up sa2 (z1 : Int).toNat 0 else sa2) bt2 oz) [(5, vI 1), (0, .ref scr), (1, .ref (a 0)), (2, .ref (b 0)), (3, .ref o), (4, vI i)] [] 590
    refine z_Wq (ws' := (([(o, aJ (cy 2) 1 fo)] ++ CW cy a kd co (se 0) (se 1) (se 2) (se 3) rw wo sa sz ps bt ou ((L.length : Nat) : Int) dm pl re cu) ++ MW cy b kd co 1 rw sz ((L.length : Nat) : Int) ps dm sx aa dk fi bb cz hm se da sa2 bt2 oz)) (by simp only [if_neg hr1, if_neg (fun h : (0 ≤ z1 ∧ z1 < rw) ∧ 0 ≤ z2 ∧ z2 < z3 ∧ z3 ≤ co => hr1 h.1)]) ?_
    show V (k + 1) (n + 6) (([(o, aJ (cy 2) 1 fo)] ++ CW cy a kd co (se 0) (se 1) (se 2) (se 3) rw wo sa sz ps bt ou ((L.length : Nat) : Int) dm pl re cu) ++ MW cy b kd co 1 rw sz ((L.length : Nat) : Int) ps dm sx aa dk fi bb cz hm se da sa2 bt2 oz) [(5, vI 1), (0, .ref scr), (1, .ref (a 0)), (2, .ref (b 0)), (3, .ref o), (4, vI i)] [] 590
    refine z_aload_n C dL_law_590 3 rfl ?_
    show V (k + 1) (n + 6) (([(o, aJ (cy 2) 1 fo)] ++ CW cy a kd co (se 0) (se 1) (se 2) (se 3) rw wo sa sz ps bt ou ((L.length : Nat) : Int) dm pl re cu) ++ MW cy b kd co 1 rw sz ((L.length : Nat) : Int) ps dm sx aa dk fi bb cz hm se da sa2 bt2 oz) [(5, vI 1), (0, .ref scr), (1, .ref (a 0)), (2, .ref (b 0)), (3, .ref o), (4, vI i)] ([].reverse ++ .ref (b 0) :: []) 591
    refine z_callVE C (X := [(o, aJ (cy 2) 1 fo)] ++ CW cy a kd co (se 0) (se 1) (se 2) (se 3) rw wo sa sz ps bt ou ((L.length : Nat) : Int) dm pl re cu) (W0 := MW cy b kd co 1 rw sz ((L.length : Nat) : Int) ps dm sx aa dk fi bb cz hm se da sa2 bt2 oz) (As := []) (st := []) (c_X8_thrown l D cy tw b kd co 1 rw sz ((L.length : Nat) : Int) ps dm sx aa dk fi bb cz hm se da sa2 bt2 oz  ) (goodIn_mo wsL_law_in gL_law_X8_thrown) kn_X8_thrown rfl ⟨rfl, rfl, Nat.le_of_ble_eq_true rfl, Nat.le_of_ble_eq_true rfl⟩ 0 rfl (ci := 10) rfl rfl (Nat.le_of_ble_eq_true rfl) hk2 dL_law_591 (fun y_3 hy_3 => ?_)
    show V (k + 1) (n + 6) (([(o, aJ (cy 2) 1 fo)] ++ CW cy a kd co (se 0) (se 1) (se 2) (se 3) rw wo sa sz ps bt ou ((L.length : Nat) : Int) dm pl re cu) ++ MW cy b kd co 1 rw sz ((L.length : Nat) : Int) ps dm sx aa dk fi bb cz hm se da sa2 bt2 oz) [(5, vI 1), (0, .ref scr), (1, .ref (a 0)), (2, .ref (b 0)), (3, .ref o), (4, vI i)] [vI 1] 594
    refine z_iload C dL_law_594 0 rfl ?_
    refine z_icmp_eq C (by decide) (by decide) (tgt := 601) dL_law_596 (by decide) (fun _ => ?_) (fun hc => absurd rfl hc)
    refine z_goto C (tgt := 949) dL_law_601 (by decide) ?_
    refine z_lsub C [1, 2, 3, 4, 5] rfl ?_
    exact KK _ _ _ _ _ _ _ _ _ _ _ _ _ _ _ _ _ _ _ _ _ _ _ _ _ _ _ _ _ _ _ _ (by omega) (by omega) (LI_mk ⟨hkd, hco⟩ (hrw) (hsz) (hps) (hdm) (⟨rfl, rfl, rfl, rfl⟩) (hPX) (hSA) (⟨hBT, hB2⟩) (⟨hOR, hOZ, h8, hLn⟩))
set_option maxHeartbeats 2000000 in
set_option maxRecDepth 100000 in
theorem lw_bit {V : zV} {p : Program} {l : Launch} {e : Env} {s : State} {m : MethodId} {args : Array Value} {below : List Frame} {meth : Method} {c : Code} {D : va_G} {cy : Nat → ClassId} {tw sr : Nat → Nat} {A : Nat → Prop} {Q : State → Prop} {scr N : Nat} {zx : Nat → Int} (H : LC V p l e s m args below meth c D cy tw sr A Q scr N zx) (a b : Nat → Nat) (o : Nat) {k n : Nat} (hk : k + 1 ≤ 600384 ∧ n + 6 ≤ 7290968) {i : Int} (hi : 0 ≤ i ∧ i + 5 ≤ (N : Int)) {kd co : Int} (fo : Nat → BitVec 64) (mk al dz rd : Bool) (rw : Int) (wo : Nat → BitVec 64) (sa : Nat → Int) (sz ps : Int) (bt : Nat → Int) (ou : Nat → BitVec 64) (L : List Bool) (dm : Int) (pl : Bool) (re : Int) (cu : Bool) (th sx aa : Int) (dk fi : Bool) (bb cz : Int) (hm : Bool) (se da : Nat → Bool) (sa2 bt2 : Nat → Int) (oz : Nat → Bool) (hI : LI kd co mk al dz rd rw wo sa sz ps bt ou L dm se da sa2 bt2 oz) (KK : LKK V cy a b o scr i k n kd co) : V k n (([(o, aJ (cy 2) 1 fo)] ++ CW cy a kd co mk al dz rd rw wo sa sz ps bt ou ((L.length : Nat) : Int) dm pl re cu) ++ MW cy b kd co th rw sz ((L.length : Nat) : Int) ps dm sx aa dk fi bb cz hm se da sa2 bt2 oz) [(0, .ref scr), (1, .ref (a 0)), (2, .ref (b 0)), (3, .ref o), (4, vI i)] [] 604 := by
  obtain ⟨C, XL, hX, hbl, hbA, hN, hzx, hl9⟩ := H
  obtain ⟨⟨hkd, hco, hrw, hsz, hps, hdm⟩, ⟨rfl, rfl, rfl, rfl⟩, hPX, hSA, ⟨hBT, hB2⟩, hOR, hOZ, h8, hLn⟩ := hI
  have hk0 : k + 0 ≤ (room_1).cells ∧ n + 0 ≤ (room_1).slots := ⟨by show k ≤ 600384; omega, by show n ≤ 7290968; omega⟩
  have hk1 : k + 1 ≤ (room_1).cells ∧ n + 6 ≤ (room_1).slots := hk
  have hk2 : k + 1 + 0 ≤ (room_1).cells ∧ n + 6 + 0 ≤ (room_1).slots := hk
  have e8 : (((L.length : Nat) : Int) + 7) / 8 = ((L.length : Nat) : Int) / 8 := by omega
  obtain ⟨z1, ez1, hz1⟩ : ∃ z, zx (i + 1).toNat = z ∧ (-2147483648 ≤ z ∧ z < 2147483648) := ⟨_, rfl, hzx _⟩
  obtain ⟨z2, ez2, hz2⟩ : ∃ z, zx (i + 2).toNat = z ∧ (-2147483648 ≤ z ∧ z < 2147483648) := ⟨_, rfl, hzx _⟩
  by_cases hin : 0 ≤ z1 ∧ z1 < rw ∧ 0 ≤ z2 ∧ z2 < co
  · refine z_aload_n C dL_law_604 1 rfl ?_
    refine z_aload_n C dL_law_605 0 rfl ?_
    refine z_iload C dL_law_606 4 rfl ?_
    refine z_iconst C (z := 1) dL_law_608 ?_
    refine z_iadd C dL_law_609 ?_
    refine z_sldv C hX hbl hbA ez1 (by omega) (by omega) hN dL_law_610 ?_
    refine z_aload_n C dL_law_611 0 rfl ?_
    refine z_iload C dL_law_612 4 rfl ?_
    refine z_iconst C (z := 2) dL_law_614 ?_
    refine z_iadd C dL_law_615 ?_
    refine z_sldv C hX hbl hbA ez2 (by omega) (by omega) hN dL_law_616 ?_
    refine z_aload_n C dL_law_617 3 rfl ?_
    show V k n (([] ++ ([(o, aJ (cy 2) 1 fo)] ++ CW cy a kd co (se 0) (se 1) (se 2) (se 3) rw wo sa sz ps bt ou ((L.length : Nat) : Int) dm pl re cu)) ++ MW cy b kd co th rw sz ((L.length : Nat) : Int) ps dm sx aa dk fi bb cz hm se da sa2 bt2 oz) [(0, .ref scr), (1, .ref (a 0)), (2, .ref (b 0)), (3, .ref o), (4, vI i)] ([.ref (a 0), vI z1, vI z2, .ref o].reverse ++ []) 618
    refine z_callSWF C XL (X := []) (W0 := [(o, aJ (cy 2) 1 fo)] ++ CW cy a kd co (se 0) (se 1) (se 2) (se 3) rw wo sa sz ps bt ou ((L.length : Nat) : Int) dm pl re cu) (Y := MW cy b kd co th rw sz ((L.length : Nat) : Int) ps dm sx aa dk fi bb cz hm se da sa2 bt2 oz) (As := [.ref (a 0), vI z1, vI z2, .ref o]) (st := []) (c_L_bit l D cy tw sr o a fo kd co (se 0) (se 1) (se 2) (se 3) rw wo sa sz ps bt ou ((L.length : Nat) : Int) dm pl re cu z1 z2 (by omega) (by omega) (by omega) (by omega) (by constructor <;> split <;> decide)) (goodIn_mo wsL_law_in gL_law_L_bit) kn_L_bit ⟨rfl, rfl, Nat.le_of_ble_eq_true rfl, Nat.le_of_ble_eq_true rfl⟩ rfl (Nat.le_of_ble_eq_true rfl) hk0 dL_law_618 (fun y_1 hy_1 => ?_)
    show V k n (([(o, aJ (cy 2) 1 (va_up fo (0 : Int).toNat (BitVec.ofInt 64 (if px wo co z1 z2 = (se 2) then 0 else 1))))] ++ CW cy a kd co (se 0) (se 1) (se 2) (se 3) rw wo sa sz ps bt ou ((L.length : Nat) : Int) dm pl re cu) ++ MW cy b kd co th rw sz ((L.length : Nat) : Int) ps dm sx aa dk fi bb cz hm se da sa2 bt2 oz) [(0, .ref scr), (1, .ref (a 0)), (2, .ref (b 0)), (3, .ref o), (4, vI i)] [vI 0] 621
    refine z_istore C (lv' := [(5, vI 0), (0, .ref scr), (1, .ref (a 0)), (2, .ref (b 0)), (3, .ref o), (4, vI i)]) dL_law_621 (by decide) rfl ?_
    refine z_aload_n C dL_law_623 3 rfl ?_
    refine z_aload_n C dL_law_624 1 rfl ?_
    refine z_iload C dL_law_625 5 rfl ?_
    refine z_iconst C (z := 1) dL_law_627 ?_
    refine z_iadd C dL_law_628 ?_
    refine z_sldv C hX hbl hbA ez1 (by omega) (by omega) hN dL_law_629 ?_
    refine z_aload_n C dL_law_630 1 rfl ?_
    refine z_iload C dL_law_631 5 rfl ?_
    refine z_iconst C (z := 2) dL_law_633 ?_
    refine z_iadd C dL_law_634 ?_
    refine z_sldv C hX hbl hbA ez2 (by omega) (by omega) hN dL_law_635 ?_
    show V k n (([(o, aJ (cy 2) 1 (va_up fo (0 : Int).toNat (BitVec.ofInt 64 (if px wo co z1 z2 = (se 2) then 0 else 1))))] ++ CW cy a kd co (se 0) (se 1) (se 2) (se 3) rw wo sa sz ps bt ou ((L.length : Nat) : Int) dm pl re cu) ++ MW cy b kd co th rw sz ((L.length : Nat) : Int) ps dm sx aa dk fi bb cz hm se da sa2 bt2 oz) [(5, vI 0), (0, .ref scr), (1, .ref (a 0)), (2, .ref (b 0)), (3, .ref o), (4, vI i)] ([vI z1, vI z2].reverse ++ .ref (b 0) :: []) 636
    refine z_callVE C (X := [(o, aJ (cy 2) 1 (va_up fo (0 : Int).toNat (BitVec.ofInt 64 (if px wo co z1 z2 = (se 2) then 0 else 1))))] ++ CW cy a kd co (se 0) (se 1) (se 2) (se 3) rw wo sa sz ps bt ou ((L.length : Nat) : Int) dm pl re cu) (W0 := MW cy b kd co th rw sz ((L.length : Nat) : Int) ps dm sx aa dk fi bb cz hm se da sa2 bt2 oz) (As := [vI z1, vI z2]) (st := []) (c_X8_bit l D cy tw b kd co th rw sz ((L.length : Nat) : Int) ps dm sx aa dk fi bb cz hm se da sa2 bt2 oz z1 z2 (by omega) (by omega) (by omega) (by omega)) (goodIn_mo wsL_law_in gL_law_X8_bit) kn_X8_bit rfl ⟨rfl, rfl, Nat.le_of_ble_eq_true rfl, Nat.le_of_ble_eq_true rfl⟩ 0 rfl (ci := 10) rfl rfl (Nat.le_of_ble_eq_true rfl) hk0 dL_law_636 (fun y_2 hy_2 => ?_)
    show V k n (([(o, aJ (cy 2) 1 (va_up fo (0 : Int).toNat (BitVec.ofInt 64 (if px wo co z1 z2 = (se 2) then 0 else 1))))] ++ CW cy a kd co (se 0) (se 1) (se 2) (se 3) rw wo sa sz ps bt ou ((L.length : Nat) : Int) dm pl re cu) ++ MW cy b kd co (if 0 ≤ z1 ∧ z1 < rw ∧ 0 ≤ z2 ∧ z2 < co then 0 else 1) rw sz ((L.length : Nat) : Int) ps dm sx aa dk fi bb cz hm se da sa2 bt2 oz) [(5, vI 0), (0, .ref scr), (1, .ref (a 0)), (2, .ref (b 0)), (3, .ref o), (4, vI i)] [vI (if 0 ≤ z1 ∧ z1 < rw ∧ 0 ≤ z2 ∧ z2 < co then b2i (!(da (700 * z1 + z2).toNat == se 2)) else 0)] 639
    refine z_res (ws' := (([(o, aJ (cy 2) 1 (va_up fo (0 : Int).toNat (BitVec.ofInt 64 (if px wo co z1 z2 = (se 2) then 0 else 1))))] ++ CW cy a kd co (se 0) (se 1) (se 2) (se 3) rw wo sa sz ps bt ou ((L.length : Nat) : Int) dm pl re cu) ++ MW cy b kd co 0 rw sz ((L.length : Nat) : Int) ps dm sx aa dk fi bb cz hm se da sa2 bt2 oz)) (y := if px wo co z1 z2 = (se 2) then 0 else 1) (by rw [if_pos hin]) (by rw [if_pos hin, hPX z1 z2 (by omega) hin.2.1 hin.2.2.2, pd_in ⟨hin.1, hin.2.2.1⟩]; exact bit_eq _ _) ?_
    show V k n (([(o, aJ (cy 2) 1 (va_up fo (0 : Int).toNat (BitVec.ofInt 64 (if px wo co z1 z2 = (se 2) then 0 else 1))))] ++ CW cy a kd co (se 0) (se 1) (se 2) (se 3) rw wo sa sz ps bt ou ((L.length : Nat) : Int) dm pl re cu) ++ MW cy b kd co 0 rw sz ((L.length : Nat) : Int) ps dm sx aa dk fi bb cz hm se da sa2 bt2 oz) [(5, vI 0), (0, .ref scr), (1, .ref (a 0)), (2, .ref (b 0)), (3, .ref o), (4, vI i)] [vI (if px wo co z1 z2 = (se 2) then 0 else 1)] 639
    refine z_istore C (lv' := [(6, vI (if px wo co z1 z2 = (se 2) then 0 else 1)), (5, vI 0), (0, .ref scr), (1, .ref (a 0)), (2, .ref (b 0)), (3, .ref o), (4, vI i)]) dL_law_639 (by decide) rfl ?_
    refine z_aload_n C dL_law_641 4 rfl ?_
    show V k n (([(o, aJ (cy 2) 1 (va_up fo (0 : Int).toNat (BitVec.ofInt 64 (if px wo co z1 z2 = (se 2) then 0 else 1))))] ++ CW cy a kd co (se 0) (se 1) (se 2) (se 3) rw wo sa sz ps bt ou ((L.length : Nat) : Int) dm pl re cu) ++ MW cy b kd co 0 rw sz ((L.length : Nat) : Int) ps dm sx aa dk fi bb cz hm se da sa2 bt2 oz) [(6, vI (if px wo co z1 z2 = (se 2) then 0 else 1)), (5, vI 0), (0, .ref scr), (1, .ref (a 0)), (2, .ref (b 0)), (3, .ref o), (4, vI i)] ([].reverse ++ .ref (b 0) :: []) 642
    refine z_callVE C (X := [(o, aJ (cy 2) 1 (va_up fo (0 : Int).toNat (BitVec.ofInt 64 (if px wo co z1 z2 = (se 2) then 0 else 1))))] ++ CW cy a kd co (se 0) (se 1) (se 2) (se 3) rw wo sa sz ps bt ou ((L.length : Nat) : Int) dm pl re cu) (W0 := MW cy b kd co 0 rw sz ((L.length : Nat) : Int) ps dm sx aa dk fi bb cz hm se da sa2 bt2 oz) (As := []) (st := []) (c_X8_thrown l D cy tw b kd co 0 rw sz ((L.length : Nat) : Int) ps dm sx aa dk fi bb cz hm se da sa2 bt2 oz  ) (goodIn_mo wsL_law_in gL_law_X8_thrown) kn_X8_thrown rfl ⟨rfl, rfl, Nat.le_of_ble_eq_true rfl, Nat.le_of_ble_eq_true rfl⟩ 0 rfl (ci := 10) rfl rfl (Nat.le_of_ble_eq_true rfl) hk0 dL_law_642 (fun y_3 hy_3 => ?_)
    show V k n (([(o, aJ (cy 2) 1 (va_up fo (0 : Int).toNat (BitVec.ofInt 64 (if px wo co z1 z2 = (se 2) then 0 else 1))))] ++ CW cy a kd co (se 0) (se 1) (se 2) (se 3) rw wo sa sz ps bt ou ((L.length : Nat) : Int) dm pl re cu) ++ MW cy b kd co 0 rw sz ((L.length : Nat) : Int) ps dm sx aa dk fi bb cz hm se da sa2 bt2 oz) [(6, vI (if px wo co z1 z2 = (se 2) then 0 else 1)), (5, vI 0), (0, .ref scr), (1, .ref (a 0)), (2, .ref (b 0)), (3, .ref o), (4, vI i)] [vI 0] 645
    refine z_iload C dL_law_645 1 rfl ?_
    refine z_icmp_eq C (by decide) (by decide) (tgt := 652) dL_law_647 (by decide) (fun _ => ?_) (fun hc => absurd rfl hc)
    refine z_iload C dL_law_652 1 rfl ?_
    refine z_if_ne C (by decide) (tgt := 669) dL_law_654 (by decide) (fun hc_4 => ?_) (fun hc_4 => ?_)
    · exact absurd hc_4 (by decide)
    refine z_aload_n C dL_law_657 5 rfl ?_
    refine z_iconst C (z := 0) dL_law_658 ?_
    refine z_lald C 0 2 (g := (va_up fo (0 : Int).toNat (BitVec.ofInt 64 (if px wo co z1 z2 = (se 2) then 0 else 1)))) rfl rfl (by decide) (by decide) (by decide) dL_law_659 ?_
    refine z_iload C dL_law_660 0 rfl ?_
    refine z_i2l C (by omega) dL_law_662 ?_
    refine z_lcmp C dL_law_663 ?_
    refine z_if_eq C (lcm_rg _ _) (tgt := 669) dL_law_664 (by decide) (fun _ => ?_) (fun hc => absurd (lcm_same rfl) hc)
    refine z_goto C (tgt := 949) dL_law_669 (by decide) ?_
    refine z_lsub C [2, 3, 4, 5, 6] rfl ?_
    exact KK _ _ _ _ _ _ _ _ _ _ _ _ _ _ _ _ _ _ _ _ _ _ _ _ _ _ _ _ _ _ _ _ (by omega) (by omega) (LI_mk ⟨hkd, hco⟩ (hrw) (hsz) (hps) (hdm) (⟨rfl, rfl, rfl, rfl⟩) (hPX) (hSA) (⟨hBT, hB2⟩) (⟨hOR, hOZ, h8, hLn⟩))
  · refine z_aload_n C dL_law_604 1 rfl ?_
    refine z_aload_n C dL_law_605 0 rfl ?_
    refine z_iload C dL_law_606 4 rfl ?_
    refine z_iconst C (z := 1) dL_law_608 ?_
    refine z_iadd C dL_law_609 ?_
    refine z_sldv C hX hbl hbA ez1 (by omega) (by omega) hN dL_law_610 ?_
    refine z_aload_n C dL_law_611 0 rfl ?_
    refine z_iload C dL_law_612 4 rfl ?_
    refine z_iconst C (z := 2) dL_law_614 ?_
    refine z_iadd C dL_law_615 ?_
    refine z_sldv C hX hbl hbA ez2 (by omega) (by omega) hN dL_law_616 ?_
    refine z_aload_n C dL_law_617 3 rfl ?_
    show V k n (([] ++ ([(o, aJ (cy 2) 1 fo)] ++ CW cy a kd co (se 0) (se 1) (se 2) (se 3) rw wo sa sz ps bt ou ((L.length : Nat) : Int) dm pl re cu)) ++ MW cy b kd co th rw sz ((L.length : Nat) : Int) ps dm sx aa dk fi bb cz hm se da sa2 bt2 oz) [(0, .ref scr), (1, .ref (a 0)), (2, .ref (b 0)), (3, .ref o), (4, vI i)] ([.ref (a 0), vI z1, vI z2, .ref o].reverse ++ []) 618
    refine z_callSWF C XL (X := []) (W0 := [(o, aJ (cy 2) 1 fo)] ++ CW cy a kd co (se 0) (se 1) (se 2) (se 3) rw wo sa sz ps bt ou ((L.length : Nat) : Int) dm pl re cu) (Y := MW cy b kd co th rw sz ((L.length : Nat) : Int) ps dm sx aa dk fi bb cz hm se da sa2 bt2 oz) (As := [.ref (a 0), vI z1, vI z2, .ref o]) (st := []) (c_L_bitX l hl9 D cy tw sr o a fo kd co (se 0) (se 1) (se 2) (se 3) rw wo sa sz ps bt ou ((L.length : Nat) : Int) dm pl re cu z1 z2 (by omega) (by omega) (by omega) (by omega) (by omega)) (goodIn_sA (goodIn_mo wsL_law_in gL_law_L_bit) goodEL) kn_L_bitA ⟨rfl, rfl, Nat.le_of_ble_eq_true rfl, Nat.le_of_ble_eq_true rfl⟩ rfl (Nat.le_of_ble_eq_true rfl) hk1 dL_law_618 (fun y_1 hy_1 => ?_)
    show V (k + 1) (n + 6) (([(o, aJ (cy 2) 1 fo)] ++ CW cy a kd co (se 0) (se 1) (se 2) (se 3) rw wo sa sz ps bt ou ((L.length : Nat) : Int) dm pl re cu) ++ MW cy b kd co th rw sz ((L.length : Nat) : Int) ps dm sx aa dk fi bb cz hm se da sa2 bt2 oz) [(0, .ref scr), (1, .ref (a 0)), (2, .ref (b 0)), (3, .ref o), (4, vI i)] [vI 1] 621
    refine z_istore C (lv' := [(5, vI 1), (0, .ref scr), (1, .ref (a 0)), (2, .ref (b 0)), (3, .ref o), (4, vI i)]) dL_law_621 (by decide) rfl ?_
    refine z_aload_n C dL_law_623 3 rfl ?_
    refine z_aload_n C dL_law_624 1 rfl ?_
    refine z_iload C dL_law_625 5 rfl ?_
    refine z_iconst C (z := 1) dL_law_627 ?_
    refine z_iadd C dL_law_628 ?_
    refine z_sldv C hX hbl hbA ez1 (by omega) (by omega) hN dL_law_629 ?_
    refine z_aload_n C dL_law_630 1 rfl ?_
    refine z_iload C dL_law_631 5 rfl ?_
    refine z_iconst C (z := 2) dL_law_633 ?_
    refine z_iadd C dL_law_634 ?_
    refine z_sldv C hX hbl hbA ez2 (by omega) (by omega) hN dL_law_635 ?_
    show V (k + 1) (n + 6) (([(o, aJ (cy 2) 1 fo)] ++ CW cy a kd co (se 0) (se 1) (se 2) (se 3) rw wo sa sz ps bt ou ((L.length : Nat) : Int) dm pl re cu) ++ MW cy b kd co th rw sz ((L.length : Nat) : Int) ps dm sx aa dk fi bb cz hm se da sa2 bt2 oz) [(5, vI 1), (0, .ref scr), (1, .ref (a 0)), (2, .ref (b 0)), (3, .ref o), (4, vI i)] ([vI z1, vI z2].reverse ++ .ref (b 0) :: []) 636
    refine z_callVE C (X := [(o, aJ (cy 2) 1 fo)] ++ CW cy a kd co (se 0) (se 1) (se 2) (se 3) rw wo sa sz ps bt ou ((L.length : Nat) : Int) dm pl re cu) (W0 := MW cy b kd co th rw sz ((L.length : Nat) : Int) ps dm sx aa dk fi bb cz hm se da sa2 bt2 oz) (As := [vI z1, vI z2]) (st := []) (c_X8_bit l D cy tw b kd co th rw sz ((L.length : Nat) : Int) ps dm sx aa dk fi bb cz hm se da sa2 bt2 oz z1 z2 (by omega) (by omega) (by omega) (by omega)) (goodIn_mo wsL_law_in gL_law_X8_bit) kn_X8_bit rfl ⟨rfl, rfl, Nat.le_of_ble_eq_true rfl, Nat.le_of_ble_eq_true rfl⟩ 0 rfl (ci := 10) rfl rfl (Nat.le_of_ble_eq_true rfl) hk2 dL_law_636 (fun y_2 hy_2 => ?_)
    show V (k + 1) (n + 6) (([(o, aJ (cy 2) 1 fo)] ++ CW cy a kd co (se 0) (se 1) (se 2) (se 3) rw wo sa sz ps bt ou ((L.length : Nat) : Int) dm pl re cu) ++ MW cy b kd co (if 0 ≤ z1 ∧ z1 < rw ∧ 0 ≤ z2 ∧ z2 < co then 0 else 1) rw sz ((L.length : Nat) : Int) ps dm sx aa dk fi bb cz hm se da sa2 bt2 oz) [(5, vI 1), (0, .ref scr), (1, .ref (a 0)), (2, .ref (b 0)), (3, .ref o), (4, vI i)] [vI (if 0 ≤ z1 ∧ z1 < rw ∧ 0 ≤ z2 ∧ z2 < co then b2i (!(da (700 * z1 + z2).toNat == se 2)) else 0)] 639
    refine z_res (ws' := (([(o, aJ (cy 2) 1 fo)] ++ CW cy a kd co (se 0) (se 1) (se 2) (se 3) rw wo sa sz ps bt ou ((L.length : Nat) : Int) dm pl re cu) ++ MW cy b kd co 1 rw sz ((L.length : Nat) : Int) ps dm sx aa dk fi bb cz hm se da sa2 bt2 oz)) (y := 0) (by rw [if_neg hin]) (by rw [if_neg hin]) ?_
    show V (k + 1) (n + 6) (([(o, aJ (cy 2) 1 fo)] ++ CW cy a kd co (se 0) (se 1) (se 2) (se 3) rw wo sa sz ps bt ou ((L.length : Nat) : Int) dm pl re cu) ++ MW cy b kd co 1 rw sz ((L.length : Nat) : Int) ps dm sx aa dk fi bb cz hm se da sa2 bt2 oz) [(5, vI 1), (0, .ref scr), (1, .ref (a 0)), (2, .ref (b 0)), (3, .ref o), (4, vI i)] [vI 0] 639
    refine z_istore C (lv' := [(6, vI 0), (5, vI 1), (0, .ref scr), (1, .ref (a 0)), (2, .ref (b 0)), (3, .ref o), (4, vI i)]) dL_law_639 (by decide) rfl ?_
    refine z_aload_n C dL_law_641 4 rfl ?_
    show V (k + 1) (n + 6) (([(o, aJ (cy 2) 1 fo)] ++ CW cy a kd co (se 0) (se 1) (se 2) (se 3) rw wo sa sz ps bt ou ((L.length : Nat) : Int) dm pl re cu) ++ MW cy b kd co 1 rw sz ((L.length : Nat) : Int) ps dm sx aa dk fi bb cz hm se da sa2 bt2 oz) [(6, vI 0), (5, vI 1), (0, .ref scr), (1, .ref (a 0)), (2, .ref (b 0)), (3, .ref o), (4, vI i)] ([].reverse ++ .ref (b 0) :: []) 642
    refine z_callVE C (X := [(o, aJ (cy 2) 1 fo)] ++ CW cy a kd co (se 0) (se 1) (se 2) (se 3) rw wo sa sz ps bt ou ((L.length : Nat) : Int) dm pl re cu) (W0 := MW cy b kd co 1 rw sz ((L.length : Nat) : Int) ps dm sx aa dk fi bb cz hm se da sa2 bt2 oz) (As := []) (st := []) (c_X8_thrown l D cy tw b kd co 1 rw sz ((L.length : Nat) : Int) ps dm sx aa dk fi bb cz hm se da sa2 bt2 oz  ) (goodIn_mo wsL_law_in gL_law_X8_thrown) kn_X8_thrown rfl ⟨rfl, rfl, Nat.le_of_ble_eq_true rfl, Nat.le_of_ble_eq_true rfl⟩ 0 rfl (ci := 10) rfl rfl (Nat.le_of_ble_eq_true rfl) hk2 dL_law_642 (fun y_3 hy_3 => ?_)
    show V (k + 1) (n + 6) (([(o, aJ (cy 2) 1 fo)] ++ CW cy a kd co (se 0) (se 1) (se 2) (se 3) rw wo sa sz ps bt ou ((L.length : Nat) : Int) dm pl re cu) ++ MW cy b kd co 1 rw sz ((L.length : Nat) : Int) ps dm sx aa dk fi bb cz hm se da sa2 bt2 oz) [(6, vI 0), (5, vI 1), (0, .ref scr), (1, .ref (a 0)), (2, .ref (b 0)), (3, .ref o), (4, vI i)] [vI 1] 645
    refine z_iload C dL_law_645 1 rfl ?_
    refine z_icmp_eq C (by decide) (by decide) (tgt := 652) dL_law_647 (by decide) (fun _ => ?_) (fun hc => absurd rfl hc)
    refine z_iload C dL_law_652 1 rfl ?_
    refine z_if_ne C (by decide) (tgt := 669) dL_law_654 (by decide) (fun hc_4 => ?_) (fun hc_4 => ?_)
    rotate_left; · exact absurd hc_4 (by decide)
    refine z_goto C (tgt := 949) dL_law_669 (by decide) ?_
    refine z_lsub C [2, 3, 4, 5, 6] rfl ?_
    exact KK _ _ _ _ _ _ _ _ _ _ _ _ _ _ _ _ _ _ _ _ _ _ _ _ _ _ _ _ _ _ _ _ (by omega) (by omega) (LI_mk ⟨hkd, hco⟩ (hrw) (hsz) (hps) (hdm) (⟨rfl, rfl, rfl, rfl⟩) (hPX) (hSA) (⟨hBT, hB2⟩) (⟨hOR, hOZ, h8, hLn⟩))
set_option maxHeartbeats 2000000 in
set_option maxRecDepth 100000 in
theorem lw_run {V : zV} {p : Program} {l : Launch} {e : Env} {s : State} {m : MethodId} {args : Array Value} {below : List Frame} {meth : Method} {c : Code} {D : va_G} {cy : Nat → ClassId} {tw sr : Nat → Nat} {A : Nat → Prop} {Q : State → Prop} {scr N : Nat} {zx : Nat → Int} (H : LC V p l e s m args below meth c D cy tw sr A Q scr N zx) (a b : Nat → Nat) (o : Nat) {k n : Nat} (hk : k + 1 ≤ 600384 ∧ n + 6 ≤ 7290968) {i : Int} (hi : 0 ≤ i ∧ i + 5 ≤ (N : Int)) {kd co : Int} (fo : Nat → BitVec 64) (mk al dz rd : Bool) (rw : Int) (wo : Nat → BitVec 64) (sa : Nat → Int) (sz ps : Int) (bt : Nat → Int) (ou : Nat → BitVec 64) (L : List Bool) (dm : Int) (pl : Bool) (re : Int) (cu : Bool) (th sx aa : Int) (dk fi : Bool) (bb cz : Int) (hm : Bool) (se da : Nat → Bool) (sa2 bt2 : Nat → Int) (oz : Nat → Bool) (hI : LI kd co mk al dz rd rw wo sa sz ps bt ou L dm se da sa2 bt2 oz) (KK : LKK V cy a b o scr i k n kd co) : V k n (([(o, aJ (cy 2) 1 fo)] ++ CW cy a kd co mk al dz rd rw wo sa sz ps bt ou ((L.length : Nat) : Int) dm pl re cu) ++ MW cy b kd co th rw sz ((L.length : Nat) : Int) ps dm sx aa dk fi bb cz hm se da sa2 bt2 oz) [(0, .ref scr), (1, .ref (a 0)), (2, .ref (b 0)), (3, .ref o), (4, vI i)] [] 672 := by
  obtain ⟨C, XL, hX, hbl, hbA, hN, hzx, hl9⟩ := H
  obtain ⟨⟨hkd, hco, hrw, hsz, hps, hdm⟩, ⟨rfl, rfl, rfl, rfl⟩, hPX, hSA, ⟨hBT, hB2⟩, hOR, hOZ, h8, hLn⟩ := hI
  have hk0 : k + 0 ≤ (room_1).cells ∧ n + 0 ≤ (room_1).slots := ⟨by show k ≤ 600384; omega, by show n ≤ 7290968; omega⟩
  have hk1 : k + 1 ≤ (room_1).cells ∧ n + 6 ≤ (room_1).slots := hk
  have hk2 : k + 1 + 0 ≤ (room_1).cells ∧ n + 6 + 0 ≤ (room_1).slots := hk
  have e8 : (((L.length : Nat) : Int) + 7) / 8 = ((L.length : Nat) : Int) / 8 := by omega
  obtain ⟨z1, ez1, hz1⟩ : ∃ z, zx (i + 1).toNat = z ∧ (-2147483648 ≤ z ∧ z < 2147483648) := ⟨_, rfl, hzx _⟩
  obtain ⟨z2, ez2, hz2⟩ : ∃ z, zx (i + 2).toNat = z ∧ (-2147483648 ≤ z ∧ z < 2147483648) := ⟨_, rfl, hzx _⟩
  by_cases hr1 : 0 ≤ z1 ∧ z1 < rw
  · by_cases hin : 0 ≤ z2 ∧ z2 < 1 + cntC (pd da z1) (co : Int).toNat
    · have eC : cntC (px wo co z1) (co : Int).toNat = cntC (pd da z1) (co : Int).toNat := cntC_cg (N := co) (fun j hj => hPX z1 j (by omega) (by omega) hj) (co : Int).toNat (by omega)
      have eL : lnC (px wo co z1) z2 (co : Int).toNat = lnC (pd da z1) z2 (co : Int).toNat := lnC_cg z2 (N := co) (fun j hj => hPX z1 j (by omega) (by omega) hj) (co : Int).toNat (by omega)
      have eR : lrun (px wo co z1) co z2 (co + 1).toNat 0 0 false = if 0 ≤ z2 ∧ z2 < 1 + cntC (pd da z1) (co : Int).toNat then lnC (pd da z1) z2 (co : Int).toNat else -2 := by rw [lrun_ln z2 hco.1 (px_ge wo co z1 (by decide)), eC, eL]
      have hq := lnC_le (pd da z1) z2 (co : Int).toNat
      rw [if_pos hin] at eR
      refine z_aload_n C dL_law_672 1 rfl ?_
      refine z_aload_n C dL_law_673 0 rfl ?_
      refine z_iload C dL_law_674 4 rfl ?_
      refine z_iconst C (z := 1) dL_law_676 ?_
      refine z_iadd C dL_law_677 ?_
      refine z_sldv C hX hbl hbA ez1 (by omega) (by omega) hN dL_law_678 ?_
      refine z_aload_n C dL_law_679 0 rfl ?_
      refine z_iload C dL_law_680 4 rfl ?_
      refine z_iconst C (z := 2) dL_law_682 ?_
      refine z_iadd C dL_law_683 ?_
      refine z_sldv C hX hbl hbA ez2 (by omega) (by omega) hN dL_law_684 ?_
      refine z_aload_n C dL_law_685 3 rfl ?_
      show V k n (([] ++ ([(o, aJ (cy 2) 1 fo)] ++ CW cy a kd co (se 0) (se 1) (se 2) (se 3) rw wo sa sz ps bt ou ((L.length : Nat) : Int) dm pl re cu)) ++ MW cy b kd co th rw sz ((L.length : Nat) : Int) ps dm sx aa dk fi bb cz hm se da sa2 bt2 oz) [(0, .ref scr), (1, .ref (a 0)), (2, .ref (b 0)), (3, .ref o), (4, vI i)] ([.ref (a 0), vI z1, vI z2, .ref o].reverse ++ []) 686
      refine z_callSWF C XL (X := []) (W0 := [(o, aJ (cy 2) 1 fo)] ++ CW cy a kd co (se 0) (se 1) (se 2) (se 3) rw wo sa sz ps bt ou ((L.length : Nat) : Int) dm pl re cu) (Y := MW cy b kd co th rw sz ((L.length : Nat) : Int) ps dm sx aa dk fi bb cz hm se da sa2 bt2 oz) (As := [.ref (a 0), vI z1, vI z2, .ref o]) (st := []) (c_L_run l D cy tw sr o a fo kd co (se 0) (se 1) (se 2) (se 3) rw wo sa sz ps bt ou ((L.length : Nat) : Int) dm pl re cu z1 z2 (by omega) (by omega) (by omega) (by omega) (by rw [eR]; omega) (by rw [eR]; omega)) (goodIn_mo wsL_law_in gL_law_L_run) kn_L_run ⟨rfl, rfl, Nat.le_of_ble_eq_true rfl, Nat.le_of_ble_eq_true rfl⟩ rfl (Nat.le_of_ble_eq_true rfl) hk0 dL_law_686 (fun y_1 hy_1 => ?_)
      show V k n (([(o, aJ (cy 2) 1 (va_up fo (0 : Int).toNat (BitVec.ofInt 64 (lrun (px wo co z1) co z2 (co + 1).toNat 0 0 false))))] ++ CW cy a kd co (se 0) (se 1) (se 2) (se 3) rw wo sa sz ps bt ou ((L.length : Nat) : Int) dm pl re cu) ++ MW cy b kd co th rw sz ((L.length : Nat) : Int) ps dm sx aa dk fi bb cz hm se da sa2 bt2 oz) [(0, .ref scr), (1, .ref (a 0)), (2, .ref (b 0)), (3, .ref o), (4, vI i)] [vI 0] 689
      refine z_istore C (lv' := [(5, vI 0), (0, .ref scr), (1, .ref (a 0)), (2, .ref (b 0)), (3, .ref o), (4, vI i)]) dL_law_689 (by decide) rfl ?_
      refine z_aload_n C dL_law_691 3 rfl ?_
      refine z_aload_n C dL_law_692 1 rfl ?_
      refine z_iload C dL_law_693 5 rfl ?_
      refine z_iconst C (z := 1) dL_law_695 ?_
      refine z_iadd C dL_law_696 ?_
      refine z_sldv C hX hbl hbA ez1 (by omega) (by omega) hN dL_law_697 ?_
      refine z_aload_n C dL_law_698 1 rfl ?_
      refine z_iload C dL_law_699 5 rfl ?_
      refine z_iconst C (z := 2) dL_law_701 ?_
      refine z_iadd C dL_law_702 ?_
      refine z_sldv C hX hbl hbA ez2 (by omega) (by omega) hN dL_law_703 ?_
      show V k n (([(o, aJ (cy 2) 1 (va_up fo (0 : Int).toNat (BitVec.ofInt 64 (lrun (px wo co z1) co z2 (co + 1).toNat 0 0 false))))] ++ CW cy a kd co (se 0) (se 1) (se 2) (se 3) rw wo sa sz ps bt ou ((L.length : Nat) : Int) dm pl re cu) ++ MW cy b kd co th rw sz ((L.length : Nat) : Int) ps dm sx aa dk fi bb cz hm se da sa2 bt2 oz) [(5, vI 0), (0, .ref scr), (1, .ref (a 0)), (2, .ref (b 0)), (3, .ref o), (4, vI i)] ([vI z1, vI z2].reverse ++ .ref (b 0) :: []) 704
      refine z_callVE C (X := [(o, aJ (cy 2) 1 (va_up fo (0 : Int).toNat (BitVec.ofInt 64 (lrun (px wo co z1) co z2 (co + 1).toNat 0 0 false))))] ++ CW cy a kd co (se 0) (se 1) (se 2) (se 3) rw wo sa sz ps bt ou ((L.length : Nat) : Int) dm pl re cu) (W0 := MW cy b kd co th rw sz ((L.length : Nat) : Int) ps dm sx aa dk fi bb cz hm se da sa2 bt2 oz) (As := [vI z1, vI z2]) (st := []) (c_X8_run l D cy tw b kd co th rw sz ((L.length : Nat) : Int) ps dm sx aa dk fi bb cz hm se da sa2 bt2 oz z1 z2 (by omega) (by omega) (by omega) (by omega)) (goodIn_mo wsL_law_in gL_law_X8_run) kn_X8_run rfl ⟨rfl, rfl, Nat.le_of_ble_eq_true rfl, Nat.le_of_ble_eq_true rfl⟩ 0 rfl (ci := 10) rfl rfl (Nat.le_of_ble_eq_true rfl) hk0 dL_law_704 (fun y_2 hy_2 => ?_)
      show V k n (([(o, aJ (cy 2) 1 (va_up fo (0 : Int).toNat (BitVec.ofInt 64 (lrun (px wo co z1) co z2 (co + 1).toNat 0 0 false))))] ++ CW cy a kd co (se 0) (se 1) (se 2) (se 3) rw wo sa sz ps bt ou ((L.length : Nat) : Int) dm pl re cu) ++ MW cy b kd co (if 0 ≤ z1 ∧ z1 < rw ∧ 0 ≤ z2 ∧ z2 < 1 + cntC (pd da z1) (co : Int).toNat then 0 else 1) rw sz ((L.length : Nat) : Int) ps dm sx aa dk fi bb cz hm se da sa2 bt2 oz) [(5, vI 0), (0, .ref scr), (1, .ref (a 0)), (2, .ref (b 0)), (3, .ref o), (4, vI i)] [vI (if 0 ≤ z1 ∧ z1 < rw ∧ 0 ≤ z2 ∧ z2 < 1 + cntC (pd da z1) (co : Int).toNat then lnC (pd da z1) z2 (co : Int).toNat else 0)] 707
      refine z_res (ws' := (([(o, aJ (cy 2) 1 (va_up fo (0 : Int).toNat (BitVec.ofInt 64 (lrun (px wo co z1) co z2 (co + 1).toNat 0 0 false))))] ++ CW cy a kd co (se 0) (se 1) (se 2) (se 3) rw wo sa sz ps bt ou ((L.length : Nat) : Int) dm pl re cu) ++ MW cy b kd co 0 rw sz ((L.length : Nat) : Int) ps dm sx aa dk fi bb cz hm se da sa2 bt2 oz)) (y := lrun (px wo co z1) co z2 (co + 1).toNat 0 0 false) (by rw [if_pos ⟨hr1.1, hr1.2, hin.1, hin.2⟩]) (by rw [if_pos ⟨hr1.1, hr1.2, hin.1, hin.2⟩, eR]) ?_
      show V k n (([(o, aJ (cy 2) 1 (va_up fo (0 : Int).toNat (BitVec.ofInt 64 (lrun (px wo co z1) co z2 (co + 1).toNat 0 0 false))))] ++ CW cy a kd co (se 0) (se 1) (se 2) (se 3) rw wo sa sz ps bt ou ((L.length : Nat) : Int) dm pl re cu) ++ MW cy b kd co 0 rw sz ((L.length : Nat) : Int) ps dm sx aa dk fi bb cz hm se da sa2 bt2 oz) [(5, vI 0), (0, .ref scr), (1, .ref (a 0)), (2, .ref (b 0)), (3, .ref o), (4, vI i)] [vI (lrun (px wo co z1) co z2 (co + 1).toNat 0 0 false)] 707
      refine z_istore C (lv' := [(6, vI (lrun (px wo co z1) co z2 (co + 1).toNat 0 0 false)), (5, vI 0), (0, .ref scr), (1, .ref (a 0)), (2, .ref (b 0)), (3, .ref o), (4, vI i)]) dL_law_707 (by decide) rfl ?_
      refine z_aload_n C dL_law_709 4 rfl ?_
      show V k n (([(o, aJ (cy 2) 1 (va_up fo (0 : Int).toNat (BitVec.ofInt 64 (lrun (px wo co z1) co z2 (co + 1).toNat 0 0 false))))] ++ CW cy a kd co (se 0) (se 1) (se 2) (se 3) rw wo sa sz ps bt ou ((L.length : Nat) : Int) dm pl re cu) ++ MW cy b kd co 0 rw sz ((L.length : Nat) : Int) ps dm sx aa dk fi bb cz hm se da sa2 bt2 oz) [(6, vI (lrun (px wo co z1) co z2 (co + 1).toNat 0 0 false)), (5, vI 0), (0, .ref scr), (1, .ref (a 0)), (2, .ref (b 0)), (3, .ref o), (4, vI i)] ([].reverse ++ .ref (b 0) :: []) 710
      refine z_callVE C (X := [(o, aJ (cy 2) 1 (va_up fo (0 : Int).toNat (BitVec.ofInt 64 (lrun (px wo co z1) co z2 (co + 1).toNat 0 0 false))))] ++ CW cy a kd co (se 0) (se 1) (se 2) (se 3) rw wo sa sz ps bt ou ((L.length : Nat) : Int) dm pl re cu) (W0 := MW cy b kd co 0 rw sz ((L.length : Nat) : Int) ps dm sx aa dk fi bb cz hm se da sa2 bt2 oz) (As := []) (st := []) (c_X8_thrown l D cy tw b kd co 0 rw sz ((L.length : Nat) : Int) ps dm sx aa dk fi bb cz hm se da sa2 bt2 oz  ) (goodIn_mo wsL_law_in gL_law_X8_thrown) kn_X8_thrown rfl ⟨rfl, rfl, Nat.le_of_ble_eq_true rfl, Nat.le_of_ble_eq_true rfl⟩ 0 rfl (ci := 10) rfl rfl (Nat.le_of_ble_eq_true rfl) hk0 dL_law_710 (fun y_3 hy_3 => ?_)
      show V k n (([(o, aJ (cy 2) 1 (va_up fo (0 : Int).toNat (BitVec.ofInt 64 (lrun (px wo co z1) co z2 (co + 1).toNat 0 0 false))))] ++ CW cy a kd co (se 0) (se 1) (se 2) (se 3) rw wo sa sz ps bt ou ((L.length : Nat) : Int) dm pl re cu) ++ MW cy b kd co 0 rw sz ((L.length : Nat) : Int) ps dm sx aa dk fi bb cz hm se da sa2 bt2 oz) [(6, vI (lrun (px wo co z1) co z2 (co + 1).toNat 0 0 false)), (5, vI 0), (0, .ref scr), (1, .ref (a 0)), (2, .ref (b 0)), (3, .ref o), (4, vI i)] [vI 0] 713
      refine z_iload C dL_law_713 1 rfl ?_
      refine z_icmp_eq C (by decide) (by decide) (tgt := 720) dL_law_715 (by decide) (fun _ => ?_) (fun hc => absurd rfl hc)
      refine z_iload C dL_law_720 1 rfl ?_
      refine z_if_ne C (by decide) (tgt := 737) dL_law_722 (by decide) (fun hc_4 => ?_) (fun hc_4 => ?_)
      · exact absurd hc_4 (by decide)
      refine z_aload_n C dL_law_725 5 rfl ?_
      refine z_iconst C (z := 0) dL_law_726 ?_
      refine z_lald C 0 2 (g := (va_up fo (0 : Int).toNat (BitVec.ofInt 64 (lrun (px wo co z1) co z2 (co + 1).toNat 0 0 false)))) rfl rfl (by decide) (by decide) (by decide) dL_law_727 ?_
      refine z_iload C dL_law_728 0 rfl ?_
      refine z_i2l C (by omega) dL_law_730 ?_
      refine z_lcmp C dL_law_731 ?_
      refine z_if_eq C (lcm_rg _ _) (tgt := 737) dL_law_732 (by decide) (fun _ => ?_) (fun hc => absurd (lcm_same rfl) hc)
      refine z_goto C (tgt := 949) dL_law_737 (by decide) ?_
      refine z_lsub C [2, 3, 4, 5, 6] rfl ?_
      exact KK _ _ _ _ _ _ _ _ _ _ _ _ _ _ _ _ _ _ _ _ _ _ _ _ _ _ _ _ _ _ _ _ (by omega) (by omega) (LI_mk ⟨hkd, hco⟩ (hrw) (hsz) (hps) (hdm) (⟨rfl, rfl, rfl, rfl⟩) (hPX) (hSA) (⟨hBT, hB2⟩) (⟨hOR, hOZ, h8, hLn⟩))
    · have eC : cntC (px wo co z1) (co : Int).toNat = cntC (pd da z1) (co : Int).toNat := cntC_cg (N := co) (fun j hj => hPX z1 j (by omega) (by omega) hj) (co : Int).toNat (by omega)
      have eL : lnC (px wo co z1) z2 (co : Int).toNat = lnC (pd da z1) z2 (co : Int).toNat := lnC_cg z2 (N := co) (fun j hj => hPX z1 j (by omega) (by omega) hj) (co : Int).toNat (by omega)
      have eR : lrun (px wo co z1) co z2 (co + 1).toNat 0 0 false = if 0 ≤ z2 ∧ z2 < 1 + cntC (pd da z1) (co : Int).toNat then lnC (pd da z1) z2 (co : Int).toNat else -2 := by rw [lrun_ln z2 hco.1 (px_ge wo co z1 (by decide)), eC, eL]
      have hq := lnC_le (pd da z1) z2 (co : Int).toNat
      rw [if_neg hin] at eR
      refine z_aload_n C dL_law_672 1 rfl ?_
      refine z_aload_n C dL_law_673 0 rfl ?_
      refine z_iload C dL_law_674 4 rfl ?_
      refine z_iconst C (z := 1) dL_law_676 ?_
      refine z_iadd C dL_law_677 ?_
      refine z_sldv C hX hbl hbA ez1 (by omega) (by omega) hN dL_law_678 ?_
      refine z_aload_n C dL_law_679 0 rfl ?_
      refine z_iload C dL_law_680 4 rfl ?_
      refine z_iconst C (z := 2) dL_law_682 ?_
      refine z_iadd C dL_law_683 ?_
      refine z_sldv C hX hbl hbA ez2 (by omega) (by omega) hN dL_law_684 ?_
      refine z_aload_n C dL_law_685 3 rfl ?_
      show V k n (([] ++ ([(o, aJ (cy 2) 1 fo)] ++ CW cy a kd co (se 0) (se 1) (se 2) (se 3) rw wo sa sz ps bt ou ((L.length : Nat) : Int) dm pl re cu)) ++ MW cy b kd co th rw sz ((L.length : Nat) : Int) ps dm sx aa dk fi bb cz hm se da sa2 bt2 oz) [(0, .ref scr), (1, .ref (a 0)), (2, .ref (b 0)), (3, .ref o), (4, vI i)] ([.ref (a 0), vI z1, vI z2, .ref o].reverse ++ []) 686
      refine z_callSWF C XL (X := []) (W0 := [(o, aJ (cy 2) 1 fo)] ++ CW cy a kd co (se 0) (se 1) (se 2) (se 3) rw wo sa sz ps bt ou ((L.length : Nat) : Int) dm pl re cu) (Y := MW cy b kd co th rw sz ((L.length : Nat) : Int) ps dm sx aa dk fi bb cz hm se da sa2 bt2 oz) (As := [.ref (a 0), vI z1, vI z2, .ref o]) (st := []) (c_L_runX l hl9 D cy tw sr o a fo kd co (se 0) (se 1) (se 2) (se 3) rw wo sa sz ps bt ou ((L.length : Nat) : Int) dm pl re cu z1 z2 (by omega) (by omega) (by omega) (by omega) (Or.inr (by rw [eR]; decide))) (goodIn_sA (goodIn_mo wsL_law_in gL_law_L_run) goodEL) kn_L_runA ⟨rfl, rfl, Nat.le_of_ble_eq_true rfl, Nat.le_of_ble_eq_true rfl⟩ rfl (Nat.le_of_ble_eq_true rfl) hk1 dL_law_686 (fun y_1 hy_1 => ?_)
      show V (k + 1) (n + 6) (([(o, aJ (cy 2) 1 fo)] ++ CW cy a kd co (se 0) (se 1) (se 2) (se 3) rw wo sa sz ps bt ou ((L.length : Nat) : Int) dm pl re cu) ++ MW cy b kd co th rw sz ((L.length : Nat) : Int) ps dm sx aa dk fi bb cz hm se da sa2 bt2 oz) [(0, .ref scr), (1, .ref (a 0)), (2, .ref (b 0)), (3, .ref o), (4, vI i)] [vI 1] 689
      refine z_istore C (lv' := [(5, vI 1), (0, .ref scr), (1, .ref (a 0)), (2, .ref (b 0)), (3, .ref o), (4, vI i)]) dL_law_689 (by decide) rfl ?_
      refine z_aload_n C dL_law_691 3 rfl ?_
      refine z_aload_n C dL_law_692 1 rfl ?_
      refine z_iload C dL_law_693 5 rfl ?_
      refine z_iconst C (z := 1) dL_law_695 ?_
      refine z_iadd C dL_law_696 ?_
      refine z_sldv C hX hbl hbA ez1 (by omega) (by omega) hN dL_law_697 ?_
      refine z_aload_n C dL_law_698 1 rfl ?_
      refine z_iload C dL_law_699 5 rfl ?_
      refine z_iconst C (z := 2) dL_law_701 ?_
      refine z_iadd C dL_law_702 ?_
      refine z_sldv C hX hbl hbA ez2 (by omega) (by omega) hN dL_law_703 ?_
      show V (k + 1) (n + 6) (([(o, aJ (cy 2) 1 fo)] ++ CW cy a kd co (se 0) (se 1) (se 2) (se 3) rw wo sa sz ps bt ou ((L.length : Nat) : Int) dm pl re cu) ++ MW cy b kd co th rw sz ((L.length : Nat) : Int) ps dm sx aa dk fi bb cz hm se da sa2 bt2 oz) [(5, vI 1), (0, .ref scr), (1, .ref (a 0)), (2, .ref (b 0)), (3, .ref o), (4, vI i)] ([vI z1, vI z2].reverse ++ .ref (b 0) :: []) 704
      refine z_callVE C (X := [(o, aJ (cy 2) 1 fo)] ++ CW cy a kd co (se 0) (se 1) (se 2) (se 3) rw wo sa sz ps bt ou ((L.length : Nat) : Int) dm pl re cu) (W0 := MW cy b kd co th rw sz ((L.length : Nat) : Int) ps dm sx aa dk fi bb cz hm se da sa2 bt2 oz) (As := [vI z1, vI z2]) (st := []) (c_X8_run l D cy tw b kd co th rw sz ((L.length : Nat) : Int) ps dm sx aa dk fi bb cz hm se da sa2 bt2 oz z1 z2 (by omega) (by omega) (by omega) (by omega)) (goodIn_mo wsL_law_in gL_law_X8_run) kn_X8_run rfl ⟨rfl, rfl, Nat.le_of_ble_eq_true rfl, Nat.le_of_ble_eq_true rfl⟩ 0 rfl (ci := 10) rfl rfl (Nat.le_of_ble_eq_true rfl) hk2 dL_law_704 (fun y_2 hy_2 => ?_)
      show V (k + 1) (n + 6) (([(o, aJ (cy 2) 1 fo)] ++ CW cy a kd co (se 0) (se 1) (se 2) (se 3) rw wo sa sz ps bt ou ((L.length : Nat) : Int) dm pl re cu) ++ MW cy b kd co (if 0 ≤ z1 ∧ z1 < rw ∧ 0 ≤ z2 ∧ z2 < 1 + cntC (pd da z1) (co : Int).toNat then 0 else 1) rw sz ((L.length : Nat) : Int) ps dm sx aa dk fi bb cz hm se da sa2 bt2 oz) [(5, vI 1), (0, .ref scr), (1, .ref (a 0)), (2, .ref (b 0)), (3, .ref o), (4, vI i)] [vI (if 0 ≤ z1 ∧ z1 < rw ∧ 0 ≤ z2 ∧ z2 < 1 + cntC (pd da z1) (co : Int).toNat then lnC (pd da z1) z2 (co : Int).toNat else 0)] 707
      refine z_res (ws' := (([(o, aJ (cy 2) 1 fo)] ++ CW cy a kd co (se 0) (se 1) (se 2) (se 3) rw wo sa sz ps bt ou ((L.length : Nat) : Int) dm pl re cu) ++ MW cy b kd co 1 rw sz ((L.length : Nat) : Int) ps dm sx aa dk fi bb cz hm se da sa2 bt2 oz)) (y := 0) (by rw [if_neg (fun h : 0 ≤ z1 ∧ z1 < rw ∧ 0 ≤ z2 ∧ z2 < 1 + cntC (pd da z1) (co : Int).toNat => hin h.2.2)]) (by rw [if_neg (fun h : 0 ≤ z1 ∧ z1 < rw ∧ 0 ≤ z2 ∧ z2 < 1 + cntC (pd da z1) (co : Int).toNat => hin h.2.2)]) ?_
      show V (k + 1) (n + 6) (([(o, aJ (cy 2) 1 fo)] ++ CW cy a kd co (se 0) (se 1) (se 2) (se 3) rw wo sa sz ps bt ou ((L.length : Nat) : Int) dm pl re cu) ++ MW cy b kd co 1 rw sz ((L.length : Nat) : Int) ps dm sx aa dk fi bb cz hm se da sa2 bt2 oz) [(5, vI 1), (0, .ref scr), (1, .ref (a 0)), (2, .ref (b 0)), (3, .ref o), (4, vI i)] [vI 0] 707
      refine z_istore C (lv' := [(6, vI 0), (5, vI 1), (0, .ref scr), (1, .ref (a 0)), (2, .ref (b 0)), (3, .ref o), (4, vI i)]) dL_law_707 (by decide) rfl ?_
      refine z_aload_n C dL_law_709 4 rfl ?_
      show V (k + 1) (n + 6) (([(o, aJ (cy 2) 1 fo)] ++ CW cy a kd co (se 0) (se 1) (se 2) (se 3) rw wo sa sz ps bt ou ((L.length : Nat) : Int) dm pl re cu) ++ MW cy b kd co 1 rw sz ((L.length : Nat) : Int) ps dm sx aa dk fi bb cz hm se da sa2 bt2 oz) [(6, vI 0), (5, vI 1), (0, .ref scr), (1, .ref (a 0)), (2, .ref (b 0)), (3, .ref o), (4, vI i)] ([].reverse ++ .ref (b 0) :: []) 710
      refine z_callVE C (X := [(o, aJ (cy 2) 1 fo)] ++ CW cy a kd co (se 0) (se 1) (se 2) (se 3) rw wo sa sz ps bt ou ((L.length : Nat) : Int) dm pl re cu) (W0 := MW cy b kd co 1 rw sz ((L.length : Nat) : Int) ps dm sx aa dk fi bb cz hm se da sa2 bt2 oz) (As := []) (st := []) (c_X8_thrown l D cy tw b kd co 1 rw sz ((L.length : Nat) : Int) ps dm sx aa dk fi bb cz hm se da sa2 bt2 oz  ) (goodIn_mo wsL_law_in gL_law_X8_thrown) kn_X8_thrown rfl ⟨rfl, rfl, Nat.le_of_ble_eq_true rfl, Nat.le_of_ble_eq_true rfl⟩ 0 rfl (ci := 10) rfl rfl (Nat.le_of_ble_eq_true rfl) hk2 dL_law_710 (fun y_3 hy_3 => ?_)
      show V (k + 1) (n + 6) (([(o, aJ (cy 2) 1 fo)] ++ CW cy a kd co (se 0) (se 1) (se 2) (se 3) rw wo sa sz ps bt ou ((L.length : Nat) : Int) dm pl re cu) ++ MW cy b kd co 1 rw sz ((L.length : Nat) : Int) ps dm sx aa dk fi bb cz hm se da sa2 bt2 oz) [(6, vI 0), (5, vI 1), (0, .ref scr), (1, .ref (a 0)), (2, .ref (b 0)), (3, .ref o), (4, vI i)] [vI 1] 713
      refine z_iload C dL_law_713 1 rfl ?_
      refine z_icmp_eq C (by decide) (by decide) (tgt := 720) dL_law_715 (by decide) (fun _ => ?_) (fun hc => absurd rfl hc)
      refine z_iload C dL_law_720 1 rfl ?_
      refine z_if_ne C (by decide) (tgt := 737) dL_law_722 (by decide) (fun hc_4 => ?_) (fun hc_4 => ?_)
      rotate_left; · exact absurd hc_4 (by decide)
      refine z_goto C (tgt := 949) dL_law_737 (by decide) ?_
      refine z_lsub C [2, 3, 4, 5, 6] rfl ?_
      exact KK _ _ _ _ _ _ _ _ _ _ _ _ _ _ _ _ _ _ _ _ _ _ _ _ _ _ _ _ _ _ _ _ (by omega) (by omega) (LI_mk ⟨hkd, hco⟩ (hrw) (hsz) (hps) (hdm) (⟨rfl, rfl, rfl, rfl⟩) (hPX) (hSA) (⟨hBT, hB2⟩) (⟨hOR, hOZ, h8, hLn⟩))
  · refine z_aload_n C dL_law_672 1 rfl ?_
    refine z_aload_n C dL_law_673 0 rfl ?_
    refine z_iload C dL_law_674 4 rfl ?_
    refine z_iconst C (z := 1) dL_law_676 ?_
    refine z_iadd C dL_law_677 ?_
    refine z_sldv C hX hbl hbA ez1 (by omega) (by omega) hN dL_law_678 ?_
    refine z_aload_n C dL_law_679 0 rfl ?_
    refine z_iload C dL_law_680 4 rfl ?_
    refine z_iconst C (z := 2) dL_law_682 ?_
    refine z_iadd C dL_law_683 ?_
    refine z_sldv C hX hbl hbA ez2 (by omega) (by omega) hN dL_law_684 ?_
    refine z_aload_n C dL_law_685 3 rfl ?_
    show V k n (([] ++ ([(o, aJ (cy 2) 1 fo)] ++ CW cy a kd co (se 0) (se 1) (se 2) (se 3) rw wo sa sz ps bt ou ((L.length : Nat) : Int) dm pl re cu)) ++ MW cy b kd co th rw sz ((L.length : Nat) : Int) ps dm sx aa dk fi bb cz hm se da sa2 bt2 oz) [(0, .ref scr), (1, .ref (a 0)), (2, .ref (b 0)), (3, .ref o), (4, vI i)] ([.ref (a 0), vI z1, vI z2, .ref o].reverse ++ []) 686
    refine z_callSWF C XL (X := []) (W0 := [(o, aJ (cy 2) 1 fo)] ++ CW cy a kd co (se 0) (se 1) (se 2) (se 3) rw wo sa sz ps bt ou ((L.length : Nat) : Int) dm pl re cu) (Y := MW cy b kd co th rw sz ((L.length : Nat) : Int) ps dm sx aa dk fi bb cz hm se da sa2 bt2 oz) (As := [.ref (a 0), vI z1, vI z2, .ref o]) (st := []) (c_L_runX l hl9 D cy tw sr o a fo kd co (se 0) (se 1) (se 2) (se 3) rw wo sa sz ps bt ou ((L.length : Nat) : Int) dm pl re cu z1 z2 (by omega) (by omega) (by omega) (by omega) (Or.inl hr1)) (goodIn_sA (goodIn_mo wsL_law_in gL_law_L_run) goodEL) kn_L_runA ⟨rfl, rfl, Nat.le_of_ble_eq_true rfl, Nat.le_of_ble_eq_true rfl⟩ rfl (Nat.le_of_ble_eq_true rfl) hk1 dL_law_686 (fun y_1 hy_1 => ?_)
    show V (k + 1) (n + 6) (([(o, aJ (cy 2) 1 fo)] ++ CW cy a kd co (se 0) (se 1) (se 2) (se 3) rw wo sa sz ps bt ou ((L.length : Nat) : Int) dm pl re cu) ++ MW cy b kd co th rw sz ((L.length : Nat) : Int) ps dm sx aa dk fi bb cz hm se da sa2 bt2 oz) [(0, .ref scr), (1, .ref (a 0)), (2, .ref (b 0)), (3, .ref o), (4, vI i)] [vI 1] 689
    refine z_istore C (lv' := [(5, vI 1), (0, .ref scr), (1, .ref (a 0)), (2, .ref (b 0)), (3, .ref o), (4, vI i)]) dL_law_689 (by decide) rfl ?_
    refine z_aload_n C dL_law_691 3 rfl ?_
    refine z_aload_n C dL_law_692 1 rfl ?_
    refine z_iload C dL_law_693 5 rfl ?_
    refine z_iconst C (z := 1) dL_law_695 ?_
    refine z_iadd C dL_law_696 ?_
    refine z_sldv C hX hbl hbA ez1 (by omega) (by omega) hN dL_law_697 ?_
    refine z_aload_n C dL_law_698 1 rfl ?_
    refine z_iload C dL_law_699 5 rfl ?_
    refine z_iconst C (z := 2) dL_law_701 ?_
    refine z_iadd C dL_law_702 ?_
    refine z_sldv C hX hbl hbA ez2 (by omega) (by omega) hN dL_law_703 ?_
    show V (k + 1) (n + 6) (([(o, aJ (cy 2) 1 fo)] ++ CW cy a kd co (se 0) (se 1) (se 2) (se 3) rw wo sa sz ps bt ou ((L.length : Nat) : Int) dm pl re cu) ++ MW cy b kd co th rw sz ((L.length : Nat) : Int) ps dm sx aa dk fi bb cz hm se da sa2 bt2 oz) [(5, vI 1), (0, .ref scr), (1, .ref (a 0)), (2, .ref (b 0)), (3, .ref o), (4, vI i)] ([vI z1, vI z2].reverse ++ .ref (b 0) :: []) 704
    refine z_callVE C (X := [(o, aJ (cy 2) 1 fo)] ++ CW cy a kd co (se 0) (se 1) (se 2) (se 3) rw wo sa sz ps bt ou ((L.length : Nat) : Int) dm pl re cu) (W0 := MW cy b kd co th rw sz ((L.length : Nat) : Int) ps dm sx aa dk fi bb cz hm se da sa2 bt2 oz) (As := [vI z1, vI z2]) (st := []) (c_X8_run l D cy tw b kd co th rw sz ((L.length : Nat) : Int) ps dm sx aa dk fi bb cz hm se da sa2 bt2 oz z1 z2 (by omega) (by omega) (by omega) (by omega)) (goodIn_mo wsL_law_in gL_law_X8_run) kn_X8_run rfl ⟨rfl, rfl, Nat.le_of_ble_eq_true rfl, Nat.le_of_ble_eq_true rfl⟩ 0 rfl (ci := 10) rfl rfl (Nat.le_of_ble_eq_true rfl) hk2 dL_law_704 (fun y_2 hy_2 => ?_)
    show V (k + 1) (n + 6) (([(o, aJ (cy 2) 1 fo)] ++ CW cy a kd co (se 0) (se 1) (se 2) (se 3) rw wo sa sz ps bt ou ((L.length : Nat) : Int) dm pl re cu) ++ MW cy b kd co (if 0 ≤ z1 ∧ z1 < rw ∧ 0 ≤ z2 ∧ z2 < 1 + cntC (pd da z1) (co : Int).toNat then 0 else 1) rw sz ((L.length : Nat) : Int) ps dm sx aa dk fi bb cz hm se da sa2 bt2 oz) [(5, vI 1), (0, .ref scr), (1, .ref (a 0)), (2, .ref (b 0)), (3, .ref o), (4, vI i)] [vI (if 0 ≤ z1 ∧ z1 < rw ∧ 0 ≤ z2 ∧ z2 < 1 + cntC (pd da z1) (co : Int).toNat then lnC (pd da z1) z2 (co : Int).toNat else 0)] 707
    refine z_res (ws' := (([(o, aJ (cy 2) 1 fo)] ++ CW cy a kd co (se 0) (se 1) (se 2) (se 3) rw wo sa sz ps bt ou ((L.length : Nat) : Int) dm pl re cu) ++ MW cy b kd co 1 rw sz ((L.length : Nat) : Int) ps dm sx aa dk fi bb cz hm se da sa2 bt2 oz)) (y := 0) (by rw [if_neg (fun h : 0 ≤ z1 ∧ z1 < rw ∧ 0 ≤ z2 ∧ z2 < 1 + cntC (pd da z1) (co : Int).toNat => hr1 ⟨h.1, h.2.1⟩)]) (by rw [if_neg (fun h : 0 ≤ z1 ∧ z1 < rw ∧ 0 ≤ z2 ∧ z2 < 1 + cntC (pd da z1) (co : Int).toNat => hr1 ⟨h.1, h.2.1⟩)]) ?_
    show V (k + 1) (n + 6) (([(o, aJ (cy 2) 1 fo)] ++ CW cy a kd co (se 0) (se 1) (se 2) (se 3) rw wo sa sz ps bt ou ((L.length : Nat) : Int) dm pl re cu) ++ MW cy b kd co 1 rw sz ((L.length : Nat) : Int) ps dm sx aa dk fi bb cz hm se da sa2 bt2 oz) [(5, vI 1), (0, .ref scr), (1, .ref (a 0)), (2, .ref (b 0)), (3, .ref o), (4, vI i)] [vI 0] 707
    refine z_istore C (lv' := [(6, vI 0), (5, vI 1), (0, .ref scr), (1, .ref (a 0)), (2, .ref (b 0)), (3, .ref o), (4, vI i)]) dL_law_707 (by decide) rfl ?_
    refine z_aload_n C dL_law_709 4 rfl ?_
    show V (k + 1) (n + 6) (([(o, aJ (cy 2) 1 fo)] ++ CW cy a kd co (se 0) (se 1) (se 2) (se 3) rw wo sa sz ps bt ou ((L.length : Nat) : Int) dm pl re cu) ++ MW cy b kd co 1 rw sz ((L.length : Nat) : Int) ps dm sx aa dk fi bb cz hm se da sa2 bt2 oz) [(6, vI 0), (5, vI 1), (0, .ref scr), (1, .ref (a 0)), (2, .ref (b 0)), (3, .ref o), (4, vI i)] ([].reverse ++ .ref (b 0) :: []) 710
    refine z_callVE C (X := [(o, aJ (cy 2) 1 fo)] ++ CW cy a kd co (se 0) (se 1) (se 2) (se 3) rw wo sa sz ps bt ou ((L.length : Nat) : Int) dm pl re cu) (W0 := MW cy b kd co 1 rw sz ((L.length : Nat) : Int) ps dm sx aa dk fi bb cz hm se da sa2 bt2 oz) (As := []) (st := []) (c_X8_thrown l D cy tw b kd co 1 rw sz ((L.length : Nat) : Int) ps dm sx aa dk fi bb cz hm se da sa2 bt2 oz  ) (goodIn_mo wsL_law_in gL_law_X8_thrown) kn_X8_thrown rfl ⟨rfl, rfl, Nat.le_of_ble_eq_true rfl, Nat.le_of_ble_eq_true rfl⟩ 0 rfl (ci := 10) rfl rfl (Nat.le_of_ble_eq_true rfl) hk2 dL_law_710 (fun y_3 hy_3 => ?_)
    show V (k + 1) (n + 6) (([(o, aJ (cy 2) 1 fo)] ++ CW cy a kd co (se 0) (se 1) (se 2) (se 3) rw wo sa sz ps bt ou ((L.length : Nat) : Int) dm pl re cu) ++ MW cy b kd co 1 rw sz ((L.length : Nat) : Int) ps dm sx aa dk fi bb cz hm se da sa2 bt2 oz) [(6, vI 0), (5, vI 1), (0, .ref scr), (1, .ref (a 0)), (2, .ref (b 0)), (3, .ref o), (4, vI i)] [vI 1] 713
    refine z_iload C dL_law_713 1 rfl ?_
    refine z_icmp_eq C (by decide) (by decide) (tgt := 720) dL_law_715 (by decide) (fun _ => ?_) (fun hc => absurd rfl hc)
    refine z_iload C dL_law_720 1 rfl ?_
    refine z_if_ne C (by decide) (tgt := 737) dL_law_722 (by decide) (fun hc_4 => ?_) (fun hc_4 => ?_)
    rotate_left; · exact absurd hc_4 (by decide)
    refine z_goto C (tgt := 949) dL_law_737 (by decide) ?_
    refine z_lsub C [2, 3, 4, 5, 6] rfl ?_
    exact KK _ _ _ _ _ _ _ _ _ _ _ _ _ _ _ _ _ _ _ _ _ _ _ _ _ _ _ _ _ _ _ _ (by omega) (by omega) (LI_mk ⟨hkd, hco⟩ (hrw) (hsz) (hps) (hdm) (⟨rfl, rfl, rfl, rfl⟩) (hPX) (hSA) (⟨hBT, hB2⟩) (⟨hOR, hOZ, h8, hLn⟩))
set_option maxHeartbeats 2000000 in
set_option maxRecDepth 100000 in
theorem lw_runs {V : zV} {p : Program} {l : Launch} {e : Env} {s : State} {m : MethodId} {args : Array Value} {below : List Frame} {meth : Method} {c : Code} {D : va_G} {cy : Nat → ClassId} {tw sr : Nat → Nat} {A : Nat → Prop} {Q : State → Prop} {scr N : Nat} {zx : Nat → Int} (H : LC V p l e s m args below meth c D cy tw sr A Q scr N zx) (a b : Nat → Nat) (o : Nat) {k n : Nat} (hk : k + 1 ≤ 600384 ∧ n + 6 ≤ 7290968) {i : Int} (hi : 0 ≤ i ∧ i + 5 ≤ (N : Int)) {kd co : Int} (fo : Nat → BitVec 64) (mk al dz rd : Bool) (rw : Int) (wo : Nat → BitVec 64) (sa : Nat → Int) (sz ps : Int) (bt : Nat → Int) (ou : Nat → BitVec 64) (L : List Bool) (dm : Int) (pl : Bool) (re : Int) (cu : Bool) (th sx aa : Int) (dk fi : Bool) (bb cz : Int) (hm : Bool) (se da : Nat → Bool) (sa2 bt2 : Nat → Int) (oz : Nat → Bool) (hI : LI kd co mk al dz rd rw wo sa sz ps bt ou L dm se da sa2 bt2 oz) (KK : LKK V cy a b o scr i k n kd co) : V k n (([(o, aJ (cy 2) 1 fo)] ++ CW cy a kd co mk al dz rd rw wo sa sz ps bt ou ((L.length : Nat) : Int) dm pl re cu) ++ MW cy b kd co th rw sz ((L.length : Nat) : Int) ps dm sx aa dk fi bb cz hm se da sa2 bt2 oz) [(0, .ref scr), (1, .ref (a 0)), (2, .ref (b 0)), (3, .ref o), (4, vI i)] [] 740 := by
  obtain ⟨C, XL, hX, hbl, hbA, hN, hzx, hl9⟩ := H
  obtain ⟨⟨hkd, hco, hrw, hsz, hps, hdm⟩, ⟨rfl, rfl, rfl, rfl⟩, hPX, hSA, ⟨hBT, hB2⟩, hOR, hOZ, h8, hLn⟩ := hI
  have hk0 : k + 0 ≤ (room_1).cells ∧ n + 0 ≤ (room_1).slots := ⟨by show k ≤ 600384; omega, by show n ≤ 7290968; omega⟩
  have hk1 : k + 1 ≤ (room_1).cells ∧ n + 6 ≤ (room_1).slots := hk
  have hk2 : k + 1 + 0 ≤ (room_1).cells ∧ n + 6 + 0 ≤ (room_1).slots := hk
  have e8 : (((L.length : Nat) : Int) + 7) / 8 = ((L.length : Nat) : Int) / 8 := by omega
  obtain ⟨z1, ez1, hz1⟩ : ∃ z, zx (i + 1).toNat = z ∧ (-2147483648 ≤ z ∧ z < 2147483648) := ⟨_, rfl, hzx _⟩
  by_cases hin : 0 ≤ z1 ∧ z1 < rw
  · have eC : cntC (px wo co z1) (co : Int).toNat = cntC (pd da z1) (co : Int).toNat := cntC_cg (N := co) (fun j hj => hPX z1 j (by omega) (by omega) hj) (co : Int).toNat (by omega)
    have eR : crun (px wo co z1) co (co + 1).toNat 0 false = 1 + cntC (pd da z1) (co : Int).toNat := by rw [crun_cnt hco.1 (px_ge wo co z1 (by decide)), eC]
    have hq := cntC_rg (pd da z1) (co : Int).toNat
    refine z_aload_n C dL_law_740 1 rfl ?_
    refine z_aload_n C dL_law_741 0 rfl ?_
    refine z_iload C dL_law_742 4 rfl ?_
    refine z_iconst C (z := 1) dL_law_744 ?_
    refine z_iadd C dL_law_745 ?_
    refine z_sldv C hX hbl hbA ez1 (by omega) (by omega) hN dL_law_746 ?_
    refine z_aload_n C dL_law_747 3 rfl ?_
    show V k n (([] ++ ([(o, aJ (cy 2) 1 fo)] ++ CW cy a kd co (se 0) (se 1) (se 2) (se 3) rw wo sa sz ps bt ou ((L.length : Nat) : Int) dm pl re cu)) ++ MW cy b kd co th rw sz ((L.length : Nat) : Int) ps dm sx aa dk fi bb cz hm se da sa2 bt2 oz) [(0, .ref scr), (1, .ref (a 0)), (2, .ref (b 0)), (3, .ref o), (4, vI i)] ([.ref (a 0), vI z1, .ref o].reverse ++ []) 748
    refine z_callSWF C XL (X := []) (W0 := [(o, aJ (cy 2) 1 fo)] ++ CW cy a kd co (se 0) (se 1) (se 2) (se 3) rw wo sa sz ps bt ou ((L.length : Nat) : Int) dm pl re cu) (Y := MW cy b kd co th rw sz ((L.length : Nat) : Int) ps dm sx aa dk fi bb cz hm se da sa2 bt2 oz) (As := [.ref (a 0), vI z1, .ref o]) (st := []) (c_L_runs l D cy tw sr o a fo kd co (se 0) (se 1) (se 2) (se 3) rw wo sa sz ps bt ou ((L.length : Nat) : Int) dm pl re cu z1 (by omega) (by omega) (by omega) (by rw [eR]; omega)) (goodIn_mo wsL_law_in gL_law_L_runs) kn_L_runs ⟨rfl, rfl, Nat.le_of_ble_eq_true rfl, Nat.le_of_ble_eq_true rfl⟩ rfl (Nat.le_of_ble_eq_true rfl) hk0 dL_law_748 (fun y_1 hy_1 => ?_)
    show V k n (([(o, aJ (cy 2) 1 (va_up fo (0 : Int).toNat (BitVec.ofInt 64 (crun (px wo co z1) co (co + 1).toNat 0 false))))] ++ CW cy a kd co (se 0) (se 1) (se 2) (se 3) rw wo sa sz ps bt ou ((L.length : Nat) : Int) dm pl re cu) ++ MW cy b kd co th rw sz ((L.length : Nat) : Int) ps dm sx aa dk fi bb cz hm se da sa2 bt2 oz) [(0, .ref scr), (1, .ref (a 0)), (2, .ref (b 0)), (3, .ref o), (4, vI i)] [vI 0] 751
    refine z_istore C (lv' := [(5, vI 0), (0, .ref scr), (1, .ref (a 0)), (2, .ref (b 0)), (3, .ref o), (4, vI i)]) dL_law_751 (by decide) rfl ?_
    refine z_aload_n C dL_law_753 3 rfl ?_
    refine z_aload_n C dL_law_754 1 rfl ?_
    refine z_iload C dL_law_755 5 rfl ?_
    refine z_iconst C (z := 1) dL_law_757 ?_
    refine z_iadd C dL_law_758 ?_
    refine z_sldv C hX hbl hbA ez1 (by omega) (by omega) hN dL_law_759 ?_
    show V k n (([(o, aJ (cy 2) 1 (va_up fo (0 : Int).toNat (BitVec.ofInt 64 (crun (px wo co z1) co (co + 1).toNat 0 false))))] ++ CW cy a kd co (se 0) (se 1) (se 2) (se 3) rw wo sa sz ps bt ou ((L.length : Nat) : Int) dm pl re cu) ++ MW cy b kd co th rw sz ((L.length : Nat) : Int) ps dm sx aa dk fi bb cz hm se da sa2 bt2 oz) [(5, vI 0), (0, .ref scr), (1, .ref (a 0)), (2, .ref (b 0)), (3, .ref o), (4, vI i)] ([vI z1].reverse ++ .ref (b 0) :: []) 760
    refine z_callVE C (X := [(o, aJ (cy 2) 1 (va_up fo (0 : Int).toNat (BitVec.ofInt 64 (crun (px wo co z1) co (co + 1).toNat 0 false))))] ++ CW cy a kd co (se 0) (se 1) (se 2) (se 3) rw wo sa sz ps bt ou ((L.length : Nat) : Int) dm pl re cu) (W0 := MW cy b kd co th rw sz ((L.length : Nat) : Int) ps dm sx aa dk fi bb cz hm se da sa2 bt2 oz) (As := [vI z1]) (st := []) (c_X8_runs l D cy tw b kd co th rw sz ((L.length : Nat) : Int) ps dm sx aa dk fi bb cz hm se da sa2 bt2 oz z1 (by omega) (by omega) (by omega)) (goodIn_mo wsL_law_in gL_law_X8_runs) kn_X8_runs rfl ⟨rfl, rfl, Nat.le_of_ble_eq_true rfl, Nat.le_of_ble_eq_true rfl⟩ 0 rfl (ci := 10) rfl rfl (Nat.le_of_ble_eq_true rfl) hk0 dL_law_760 (fun y_2 hy_2 => ?_)
    show V k n (([(o, aJ (cy 2) 1 (va_up fo (0 : Int).toNat (BitVec.ofInt 64 (crun (px wo co z1) co (co + 1).toNat 0 false))))] ++ CW cy a kd co (se 0) (se 1) (se 2) (se 3) rw wo sa sz ps bt ou ((L.length : Nat) : Int) dm pl re cu) ++ MW cy b kd co (if 0 ≤ z1 ∧ z1 < rw then 0 else 1) rw sz ((L.length : Nat) : Int) ps dm sx aa dk fi bb cz hm se da sa2 bt2 oz) [(5, vI 0), (0, .ref scr), (1, .ref (a 0)), (2, .ref (b 0)), (3, .ref o), (4, vI i)] [vI (if 0 ≤ z1 ∧ z1 < rw then 1 + cntC (pd da z1) (co : Int).toNat else 0)] 763
    refine z_res (ws' := (([(o, aJ (cy 2) 1 (va_up fo (0 : Int).toNat (BitVec.ofInt 64 (crun (px wo co z1) co (co + 1).toNat 0 false))))] ++ CW cy a kd co (se 0) (se 1) (se 2) (se 3) rw wo sa sz ps bt ou ((L.length : Nat) : Int) dm pl re cu) ++ MW cy b kd co 0 rw sz ((L.length : Nat) : Int) ps dm sx aa dk fi bb cz hm se da sa2 bt2 oz)) (y := crun (px wo co z1) co (co + 1).toNat 0 false) (by rw [if_pos hin]) (by rw [if_pos hin, eR]) ?_
    show V k n (([(o, aJ (cy 2) 1 (va_up fo (0 : Int).toNat (BitVec.ofInt 64 (crun (px wo co z1) co (co + 1).toNat 0 false))))] ++ CW cy a kd co (se 0) (se 1) (se 2) (se 3) rw wo sa sz ps bt ou ((L.length : Nat) : Int) dm pl re cu) ++ MW cy b kd co 0 rw sz ((L.length : Nat) : Int) ps dm sx aa dk fi bb cz hm se da sa2 bt2 oz) [(5, vI 0), (0, .ref scr), (1, .ref (a 0)), (2, .ref (b 0)), (3, .ref o), (4, vI i)] [vI (crun (px wo co z1) co (co + 1).toNat 0 false)] 763
    refine z_istore C (lv' := [(6, vI (crun (px wo co z1) co (co + 1).toNat 0 false)), (5, vI 0), (0, .ref scr), (1, .ref (a 0)), (2, .ref (b 0)), (3, .ref o), (4, vI i)]) dL_law_763 (by decide) rfl ?_
    refine z_aload_n C dL_law_765 4 rfl ?_
    show V k n (([(o, aJ (cy 2) 1 (va_up fo (0 : Int).toNat (BitVec.ofInt 64 (crun (px wo co z1) co (co + 1).toNat 0 false))))] ++ CW cy a kd co (se 0) (se 1) (se 2) (se 3) rw wo sa sz ps bt ou ((L.length : Nat) : Int) dm pl re cu) ++ MW cy b kd co 0 rw sz ((L.length : Nat) : Int) ps dm sx aa dk fi bb cz hm se da sa2 bt2 oz) [(6, vI (crun (px wo co z1) co (co + 1).toNat 0 false)), (5, vI 0), (0, .ref scr), (1, .ref (a 0)), (2, .ref (b 0)), (3, .ref o), (4, vI i)] ([].reverse ++ .ref (b 0) :: []) 766
    refine z_callVE C (X := [(o, aJ (cy 2) 1 (va_up fo (0 : Int).toNat (BitVec.ofInt 64 (crun (px wo co z1) co (co + 1).toNat 0 false))))] ++ CW cy a kd co (se 0) (se 1) (se 2) (se 3) rw wo sa sz ps bt ou ((L.length : Nat) : Int) dm pl re cu) (W0 := MW cy b kd co 0 rw sz ((L.length : Nat) : Int) ps dm sx aa dk fi bb cz hm se da sa2 bt2 oz) (As := []) (st := []) (c_X8_thrown l D cy tw b kd co 0 rw sz ((L.length : Nat) : Int) ps dm sx aa dk fi bb cz hm se da sa2 bt2 oz  ) (goodIn_mo wsL_law_in gL_law_X8_thrown) kn_X8_thrown rfl ⟨rfl, rfl, Nat.le_of_ble_eq_true rfl, Nat.le_of_ble_eq_true rfl⟩ 0 rfl (ci := 10) rfl rfl (Nat.le_of_ble_eq_true rfl) hk0 dL_law_766 (fun y_3 hy_3 => ?_)
    show V k n (([(o, aJ (cy 2) 1 (va_up fo (0 : Int).toNat (BitVec.ofInt 64 (crun (px wo co z1) co (co + 1).toNat 0 false))))] ++ CW cy a kd co (se 0) (se 1) (se 2) (se 3) rw wo sa sz ps bt ou ((L.length : Nat) : Int) dm pl re cu) ++ MW cy b kd co 0 rw sz ((L.length : Nat) : Int) ps dm sx aa dk fi bb cz hm se da sa2 bt2 oz) [(6, vI (crun (px wo co z1) co (co + 1).toNat 0 false)), (5, vI 0), (0, .ref scr), (1, .ref (a 0)), (2, .ref (b 0)), (3, .ref o), (4, vI i)] [vI 0] 769
    refine z_iload C dL_law_769 1 rfl ?_
    refine z_icmp_eq C (by decide) (by decide) (tgt := 776) dL_law_771 (by decide) (fun _ => ?_) (fun hc => absurd rfl hc)
    refine z_iload C dL_law_776 1 rfl ?_
    refine z_if_ne C (by decide) (tgt := 793) dL_law_778 (by decide) (fun hc_4 => ?_) (fun hc_4 => ?_)
    · exact absurd hc_4 (by decide)
    refine z_aload_n C dL_law_781 5 rfl ?_
    refine z_iconst C (z := 0) dL_law_782 ?_
    refine z_lald C 0 2 (g := (va_up fo (0 : Int).toNat (BitVec.ofInt 64 (crun (px wo co z1) co (co + 1).toNat 0 false)))) rfl rfl (by decide) (by decide) (by decide) dL_law_783 ?_
    refine z_iload C dL_law_784 0 rfl ?_
    refine z_i2l C (by omega) dL_law_786 ?_
    refine z_lcmp C dL_law_787 ?_
    refine z_if_eq C (lcm_rg _ _) (tgt := 793) dL_law_788 (by decide) (fun _ => ?_) (fun hc => absurd (lcm_same rfl) hc)
    refine z_goto C (tgt := 949) dL_law_793 (by decide) ?_
    refine z_lsub C [2, 3, 4, 5, 6] rfl ?_
    exact KK _ _ _ _ _ _ _ _ _ _ _ _ _ _ _ _ _ _ _ _ _ _ _ _ _ _ _ _ _ _ _ _ (by omega) (by omega) (LI_mk ⟨hkd, hco⟩ (hrw) (hsz) (hps) (hdm) (⟨rfl, rfl, rfl, rfl⟩) (hPX) (hSA) (⟨hBT, hB2⟩) (⟨hOR, hOZ, h8, hLn⟩))
  · refine z_aload_n C dL_law_740 1 rfl ?_
    refine z_aload_n C dL_law_741 0 rfl ?_
    refine z_iload C dL_law_742 4 rfl ?_
    refine z_iconst C (z := 1) dL_law_744 ?_
    refine z_iadd C dL_law_745 ?_
    refine z_sldv C hX hbl hbA ez1 (by omega) (by omega) hN dL_law_746 ?_
    refine z_aload_n C dL_law_747 3 rfl ?_
    show V k n (([] ++ ([(o, aJ (cy 2) 1 fo)] ++ CW cy a kd co (se 0) (se 1) (se 2) (se 3) rw wo sa sz ps bt ou ((L.length : Nat) : Int) dm pl re cu)) ++ MW cy b kd co th rw sz ((L.length : Nat) : Int) ps dm sx aa dk fi bb cz hm se da sa2 bt2 oz) [(0, .ref scr), (1, .ref (a 0)), (2, .ref (b 0)), (3, .ref o), (4, vI i)] ([.ref (a 0), vI z1, .ref o].reverse ++ []) 748
    refine z_callSWF C XL (X := []) (W0 := [(o, aJ (cy 2) 1 fo)] ++ CW cy a kd co (se 0) (se 1) (se 2) (se 3) rw wo sa sz ps bt ou ((L.length : Nat) : Int) dm pl re cu) (Y := MW cy b kd co th rw sz ((L.length : Nat) : Int) ps dm sx aa dk fi bb cz hm se da sa2 bt2 oz) (As := [.ref (a 0), vI z1, .ref o]) (st := []) (c_L_runsX l hl9 D cy tw sr o a fo kd co (se 0) (se 1) (se 2) (se 3) rw wo sa sz ps bt ou ((L.length : Nat) : Int) dm pl re cu z1 (by omega) (by omega) (by omega)) (goodIn_sA (goodIn_mo wsL_law_in gL_law_L_runs) goodEL) kn_L_runsA ⟨rfl, rfl, Nat.le_of_ble_eq_true rfl, Nat.le_of_ble_eq_true rfl⟩ rfl (Nat.le_of_ble_eq_true rfl) hk1 dL_law_748 (fun y_1 hy_1 => ?_)
    show V (k + 1) (n + 6) (([(o, aJ (cy 2) 1 fo)] ++ CW cy a kd co (se 0) (se 1) (se 2) (se 3) rw wo sa sz ps bt ou ((L.length : Nat) : Int) dm pl re cu) ++ MW cy b kd co th rw sz ((L.length : Nat) : Int) ps dm sx aa dk fi bb cz hm se da sa2 bt2 oz) [(0, .ref scr), (1, .ref (a 0)), (2, .ref (b 0)), (3, .ref o), (4, vI i)] [vI 1] 751
    refine z_istore C (lv' := [(5, vI 1), (0, .ref scr), (1, .ref (a 0)), (2, .ref (b 0)), (3, .ref o), (4, vI i)]) dL_law_751 (by decide) rfl ?_
    refine z_aload_n C dL_law_753 3 rfl ?_
    refine z_aload_n C dL_law_754 1 rfl ?_
    refine z_iload C dL_law_755 5 rfl ?_
    refine z_iconst C (z := 1) dL_law_757 ?_
    refine z_iadd C dL_law_758 ?_
    refine z_sldv C hX hbl hbA ez1 (by omega) (by omega) hN dL_law_759 ?_
    show V (k + 1) (n + 6) (([(o, aJ (cy 2) 1 fo)] ++ CW cy a kd co (se 0) (se 1) (se 2) (se 3) rw wo sa sz ps bt ou ((L.length : Nat) : Int) dm pl re cu) ++ MW cy b kd co th rw sz ((L.length : Nat) : Int) ps dm sx aa dk fi bb cz hm se da sa2 bt2 oz) [(5, vI 1), (0, .ref scr), (1, .ref (a 0)), (2, .ref (b 0)), (3, .ref o), (4, vI i)] ([vI z1].reverse ++ .ref (b 0) :: []) 760
    refine z_callVE C (X := [(o, aJ (cy 2) 1 fo)] ++ CW cy a kd co (se 0) (se 1) (se 2) (se 3) rw wo sa sz ps bt ou ((L.length : Nat) : Int) dm pl re cu) (W0 := MW cy b kd co th rw sz ((L.length : Nat) : Int) ps dm sx aa dk fi bb cz hm se da sa2 bt2 oz) (As := [vI z1]) (st := []) (c_X8_runs l D cy tw b kd co th rw sz ((L.length : Nat) : Int) ps dm sx aa dk fi bb cz hm se da sa2 bt2 oz z1 (by omega) (by omega) (by omega)) (goodIn_mo wsL_law_in gL_law_X8_runs) kn_X8_runs rfl ⟨rfl, rfl, Nat.le_of_ble_eq_true rfl, Nat.le_of_ble_eq_true rfl⟩ 0 rfl (ci := 10) rfl rfl (Nat.le_of_ble_eq_true rfl) hk2 dL_law_760 (fun y_2 hy_2 => ?_)
    show V (k + 1) (n + 6) (([(o, aJ (cy 2) 1 fo)] ++ CW cy a kd co (se 0) (se 1) (se 2) (se 3) rw wo sa sz ps bt ou ((L.length : Nat) : Int) dm pl re cu) ++ MW cy b kd co (if 0 ≤ z1 ∧ z1 < rw then 0 else 1) rw sz ((L.length : Nat) : Int) ps dm sx aa dk fi bb cz hm se da sa2 bt2 oz) [(5, vI 1), (0, .ref scr), (1, .ref (a 0)), (2, .ref (b 0)), (3, .ref o), (4, vI i)] [vI (if 0 ≤ z1 ∧ z1 < rw then 1 + cntC (pd da z1) (co : Int).toNat else 0)] 763
    refine z_res (ws' := (([(o, aJ (cy 2) 1 fo)] ++ CW cy a kd co (se 0) (se 1) (se 2) (se 3) rw wo sa sz ps bt ou ((L.length : Nat) : Int) dm pl re cu) ++ MW cy b kd co 1 rw sz ((L.length : Nat) : Int) ps dm sx aa dk fi bb cz hm se da sa2 bt2 oz)) (y := 0) (by rw [if_neg hin]) (by rw [if_neg hin]) ?_
    show V (k + 1) (n + 6) (([(o, aJ (cy 2) 1 fo)] ++ CW cy a kd co (se 0) (se 1) (se 2) (se 3) rw wo sa sz ps bt ou ((L.length : Nat) : Int) dm pl re cu) ++ MW cy b kd co 1 rw sz ((L.length : Nat) : Int) ps dm sx aa dk fi bb cz hm se da sa2 bt2 oz) [(5, vI 1), (0, .ref scr), (1, .ref (a 0)), (2, .ref (b 0)), (3, .ref o), (4, vI i)] [vI 0] 763
    refine z_istore C (lv' := [(6, vI 0), (5, vI 1), (0, .ref scr), (1, .ref (a 0)), (2, .ref (b 0)), (3, .ref o), (4, vI i)]) dL_law_763 (by decide) rfl ?_
    refine z_aload_n C dL_law_765 4 rfl ?_
    show V (k + 1) (n + 6) (([(o, aJ (cy 2) 1 fo)] ++ CW cy a kd co (se 0) (se 1) (se 2) (se 3) rw wo sa sz ps bt ou ((L.length : Nat) : Int) dm pl re cu) ++ MW cy b kd co 1 rw sz ((L.length : Nat) : Int) ps dm sx aa dk fi bb cz hm se da sa2 bt2 oz) [(6, vI 0), (5, vI 1), (0, .ref scr), (1, .ref (a 0)), (2, .ref (b 0)), (3, .ref o), (4, vI i)] ([].reverse ++ .ref (b 0) :: []) 766
    refine z_callVE C (X := [(o, aJ (cy 2) 1 fo)] ++ CW cy a kd co (se 0) (se 1) (se 2) (se 3) rw wo sa sz ps bt ou ((L.length : Nat) : Int) dm pl re cu) (W0 := MW cy b kd co 1 rw sz ((L.length : Nat) : Int) ps dm sx aa dk fi bb cz hm se da sa2 bt2 oz) (As := []) (st := []) (c_X8_thrown l D cy tw b kd co 1 rw sz ((L.length : Nat) : Int) ps dm sx aa dk fi bb cz hm se da sa2 bt2 oz  ) (goodIn_mo wsL_law_in gL_law_X8_thrown) kn_X8_thrown rfl ⟨rfl, rfl, Nat.le_of_ble_eq_true rfl, Nat.le_of_ble_eq_true rfl⟩ 0 rfl (ci := 10) rfl rfl (Nat.le_of_ble_eq_true rfl) hk2 dL_law_766 (fun y_3 hy_3 => ?_)
    show V (k + 1) (n + 6) (([(o, aJ (cy 2) 1 fo)] ++ CW cy a kd co (se 0) (se 1) (se 2) (se 3) rw wo sa sz ps bt ou ((L.length : Nat) : Int) dm pl re cu) ++ MW cy b kd co 1 rw sz ((L.length : Nat) : Int) ps dm sx aa dk fi bb cz hm se da sa2 bt2 oz) [(6, vI 0), (5, vI 1), (0, .ref scr), (1, .ref (a 0)), (2, .ref (b 0)), (3, .ref o), (4, vI i)] [vI 1] 769
    refine z_iload C dL_law_769 1 rfl ?_
    refine z_icmp_eq C (by decide) (by decide) (tgt := 776) dL_law_771 (by decide) (fun _ => ?_) (fun hc => absurd rfl hc)
    refine z_iload C dL_law_776 1 rfl ?_
    refine z_if_ne C (by decide) (tgt := 793) dL_law_778 (by decide) (fun hc_4 => ?_) (fun hc_4 => ?_)
    rotate_left; · exact absurd hc_4 (by decide)
    refine z_goto C (tgt := 949) dL_law_793 (by decide) ?_
    refine z_lsub C [2, 3, 4, 5, 6] rfl ?_
    exact KK _ _ _ _ _ _ _ _ _ _ _ _ _ _ _ _ _ _ _ _ _ _ _ _ _ _ _ _ _ _ _ _ (by omega) (by omega) (LI_mk ⟨hkd, hco⟩ (hrw) (hsz) (hps) (hdm) (⟨rfl, rfl, rfl, rfl⟩) (hPX) (hSA) (⟨hBT, hB2⟩) (⟨hOR, hOZ, h8, hLn⟩))
set_option maxHeartbeats 2000000 in
set_option maxRecDepth 100000 in
theorem lw_write {V : zV} {p : Program} {l : Launch} {e : Env} {s : State} {m : MethodId} {args : Array Value} {below : List Frame} {meth : Method} {c : Code} {D : va_G} {cy : Nat → ClassId} {tw sr : Nat → Nat} {A : Nat → Prop} {Q : State → Prop} {scr N : Nat} {zx : Nat → Int} (H : LC V p l e s m args below meth c D cy tw sr A Q scr N zx) (a b : Nat → Nat) (o : Nat) {k n : Nat} (hk : k + 1 ≤ 600384 ∧ n + 6 ≤ 7290968) {i : Int} (hi : 0 ≤ i ∧ i + 5 ≤ (N : Int)) {kd co : Int} (fo : Nat → BitVec 64) (mk al dz rd : Bool) (rw : Int) (wo : Nat → BitVec 64) (sa : Nat → Int) (sz ps : Int) (bt : Nat → Int) (ou : Nat → BitVec 64) (L : List Bool) (dm : Int) (pl : Bool) (re : Int) (cu : Bool) (th sx aa : Int) (dk fi : Bool) (bb cz : Int) (hm : Bool) (se da : Nat → Bool) (sa2 bt2 : Nat → Int) (oz : Nat → Bool) (hI : LI kd co mk al dz rd rw wo sa sz ps bt ou L dm se da sa2 bt2 oz) (KK : LKK V cy a b o scr i k n kd co) : V k n (([(o, aJ (cy 2) 1 fo)] ++ CW cy a kd co mk al dz rd rw wo sa sz ps bt ou ((L.length : Nat) : Int) dm pl re cu) ++ MW cy b kd co th rw sz ((L.length : Nat) : Int) ps dm sx aa dk fi bb cz hm se da sa2 bt2 oz) [(0, .ref scr), (1, .ref (a 0)), (2, .ref (b 0)), (3, .ref o), (4, vI i)] [] 796 := by
  obtain ⟨C, XL, hX, hbl, hbA, hN, hzx, hl9⟩ := H
  obtain ⟨⟨hkd, hco, hrw, hsz, hps, hdm⟩, ⟨rfl, rfl, rfl, rfl⟩, hPX, hSA, ⟨hBT, hB2⟩, hOR, hOZ, h8, hLn⟩ := hI
  have hk0 : k + 0 ≤ (room_1).cells ∧ n + 0 ≤ (room_1).slots := ⟨by show k ≤ 600384; omega, by show n ≤ 7290968; omega⟩
  have hk1 : k + 1 ≤ (room_1).cells ∧ n + 6 ≤ (room_1).slots := hk
  have hk2 : k + 1 + 0 ≤ (room_1).cells ∧ n + 6 + 0 ≤ (room_1).slots := hk
  have e8 : (((L.length : Nat) : Int) + 7) / 8 = ((L.length : Nat) : Int) / 8 := by omega
  have eE : encA kd (se 0) (se 1) co (px wo co) rw = encA kd (se 0) (se 1) co (pd da) rw := encA_cg _ _ _ hrw.1 hPX
  have hbd := encA_bd kd (se 0) (se 1) (pd da) hco hrw
  refine z_aload_n C dL_law_796 1 rfl ?_
  show V k n (([(o, aJ (cy 2) 1 fo)] ++ CW cy a kd co (se 0) (se 1) (se 2) (se 3) rw wo sa sz ps bt ou ((L.length : Nat) : Int) dm pl re cu) ++ MW cy b kd co th rw sz ((L.length : Nat) : Int) ps dm sx aa dk fi bb cz hm se da sa2 bt2 oz) [(0, .ref scr), (1, .ref (a 0)), (2, .ref (b 0)), (3, .ref o), (4, vI i)] ([].reverse ++ .ref (a 0) :: []) 797
  refine z_callVF C (X := [(o, aJ (cy 2) 1 fo)]) (W0 := CW cy a kd co (se 0) (se 1) (se 2) (se 3) rw wo sa sz ps bt ou ((L.length : Nat) : Int) dm pl re cu) (Y := MW cy b kd co th rw sz ((L.length : Nat) : Int) ps dm sx aa dk fi bb cz hm se da sa2 bt2 oz) (As := []) (st := []) (c_X7_write l D cy tw a kd co (se 0) (se 1) (se 2) (se 3) rw wo sa sz ps bt ou ((L.length : Nat) : Int) dm pl re cu  (by omega) (by omega) (by omega)) (goodIn_mo wsL_law_in gL_law_X7_write) kn_X7_write rfl ⟨rfl, rfl, Nat.le_of_ble_eq_true rfl, Nat.le_of_ble_eq_true rfl⟩ 0 rfl (ci := 9) rfl rfl (Nat.le_of_ble_eq_true rfl) hk0 dL_law_797 (fun y_1 hy_1 => ?_)
  show V k n (([(o, aJ (cy 2) 1 fo)] ++ CW cy a kd co (se 0) (se 1) (se 2) (se 3) rw wo sa sz ps bt y_1 (((encA kd (se 0) (se 1) co (px wo co) rw).length : Nat) : Int) dm pl re cu) ++ MW cy b kd co th rw sz ((L.length : Nat) : Int) ps dm sx aa dk fi bb cz hm se da sa2 bt2 oz) [(0, .ref scr), (1, .ref (a 0)), (2, .ref (b 0)), (3, .ref o), (4, vI i)] [vI (((((encA kd (se 0) (se 1) co (px wo co) rw).length : Nat) : Int) + 7) / 8)] 800
  rw [eE] at hy_1
  have hu1 := hy_1
  refine z_res (ws' := (([(o, aJ (cy 2) 1 fo)] ++ CW cy a kd co (se 0) (se 1) (se 2) (se 3) rw wo sa sz ps bt y_1 (((encA kd (se 0) (se 1) co (pd da) rw).length : Nat) : Int) dm pl re cu) ++ MW cy b kd co th rw sz ((L.length : Nat) : Int) ps dm sx aa dk fi bb cz hm se da sa2 bt2 oz)) (y := (((encA kd (se 0) (se 1) co (pd da) rw).length : Nat) : Int) / 8) (by rw [eE]) (by rw [eE]; omega) ?_
  show V k n (([(o, aJ (cy 2) 1 fo)] ++ CW cy a kd co (se 0) (se 1) (se 2) (se 3) rw wo sa sz ps bt y_1 (((encA kd (se 0) (se 1) co (pd da) rw).length : Nat) : Int) dm pl re cu) ++ MW cy b kd co th rw sz ((L.length : Nat) : Int) ps dm sx aa dk fi bb cz hm se da sa2 bt2 oz) [(0, .ref scr), (1, .ref (a 0)), (2, .ref (b 0)), (3, .ref o), (4, vI i)] [vI ((((encA kd (se 0) (se 1) co (pd da) rw).length : Nat) : Int) / 8)] 800
  refine z_aload_n C dL_law_800 2 rfl ?_
  show V k n (([(o, aJ (cy 2) 1 fo)] ++ CW cy a kd co (se 0) (se 1) (se 2) (se 3) rw wo sa sz ps bt y_1 (((encA kd (se 0) (se 1) co (pd da) rw).length : Nat) : Int) dm pl re cu) ++ MW cy b kd co th rw sz ((L.length : Nat) : Int) ps dm sx aa dk fi bb cz hm se da sa2 bt2 oz) [(0, .ref scr), (1, .ref (a 0)), (2, .ref (b 0)), (3, .ref o), (4, vI i)] ([].reverse ++ .ref (b 0) :: [vI ((((encA kd (se 0) (se 1) co (pd da) rw).length : Nat) : Int) / 8)]) 801
  refine z_callVE C (X := [(o, aJ (cy 2) 1 fo)] ++ CW cy a kd co (se 0) (se 1) (se 2) (se 3) rw wo sa sz ps bt y_1 (((encA kd (se 0) (se 1) co (pd da) rw).length : Nat) : Int) dm pl re cu) (W0 := MW cy b kd co th rw sz ((L.length : Nat) : Int) ps dm sx aa dk fi bb cz hm se da sa2 bt2 oz) (As := []) (st := [vI ((((encA kd (se 0) (se 1) co (pd da) rw).length : Nat) : Int) / 8)]) (c_X8_write l D cy tw b kd co th rw sz ((L.length : Nat) : Int) ps dm sx aa dk fi bb cz hm se da sa2 bt2 oz  (by omega) (by omega) (by omega)) (goodIn_mo wsL_law_in gL_law_X8_write) kn_X8_write rfl ⟨rfl, rfl, Nat.le_of_ble_eq_true rfl, Nat.le_of_ble_eq_true rfl⟩ 0 rfl (ci := 10) rfl rfl (Nat.le_of_ble_eq_true rfl) hk0 dL_law_801 (fun y_2 hy_2 => ?_)
  show V k n (([(o, aJ (cy 2) 1 fo)] ++ CW cy a kd co (se 0) (se 1) (se 2) (se 3) rw wo sa sz ps bt y_1 (((encA kd (se 0) (se 1) co (pd da) rw).length : Nat) : Int) dm pl re cu) ++ MW cy b kd co 0 rw sz (((encA kd (se 0) (se 1) co (pd da) rw).length : Nat) : Int) ps dm sx y_2.2.1 y_2.2.2.1 y_2.2.2.2.1 y_2.2.2.2.2.1 y_2.2.2.2.2.2 hm se da sa2 bt2 y_2.1) [(0, .ref scr), (1, .ref (a 0)), (2, .ref (b 0)), (3, .ref o), (4, vI i)] [vI ((((encA kd (se 0) (se 1) co (pd da) rw).length : Nat) : Int) / 8), vI ((((encA kd (se 0) (se 1) co (pd da) rw).length : Nat) : Int) / 8)] 804
  have hu2 := hy_2
  refine z_icmp_eq C (by omega) (by omega) (tgt := 949) dL_law_804 (by decide) (fun _ => ?_) (fun hc => absurd rfl hc)
  exact KK _ _ _ _ _ _ _ _ _ _ _ _ _ _ _ _ _ _ _ _ _ _ _ _ _ _ _ _ _ _ _ _ (by omega) (by omega) (LI_mk ⟨hkd, hco⟩ (hrw) (hsz) (hps) (hdm) (⟨rfl, rfl, rfl, rfl⟩) (hPX) (hSA) (⟨hBT, hB2⟩) (⟨hu1, hu2, hbd.2, hbd.1⟩))
set_option maxHeartbeats 2000000 in
set_option maxRecDepth 100000 in
theorem lw_octet {V : zV} {p : Program} {l : Launch} {e : Env} {s : State} {m : MethodId} {args : Array Value} {below : List Frame} {meth : Method} {c : Code} {D : va_G} {cy : Nat → ClassId} {tw sr : Nat → Nat} {A : Nat → Prop} {Q : State → Prop} {scr N : Nat} {zx : Nat → Int} (H : LC V p l e s m args below meth c D cy tw sr A Q scr N zx) (a b : Nat → Nat) (o : Nat) {k n : Nat} (hk : k + 1 ≤ 600384 ∧ n + 6 ≤ 7290968) {i : Int} (hi : 0 ≤ i ∧ i + 5 ≤ (N : Int)) {kd co : Int} (fo : Nat → BitVec 64) (mk al dz rd : Bool) (rw : Int) (wo : Nat → BitVec 64) (sa : Nat → Int) (sz ps : Int) (bt : Nat → Int) (ou : Nat → BitVec 64) (L : List Bool) (dm : Int) (pl : Bool) (re : Int) (cu : Bool) (th sx aa : Int) (dk fi : Bool) (bb cz : Int) (hm : Bool) (se da : Nat → Bool) (sa2 bt2 : Nat → Int) (oz : Nat → Bool) (hI : LI kd co mk al dz rd rw wo sa sz ps bt ou L dm se da sa2 bt2 oz) (KK : LKK V cy a b o scr i k n kd co) : V k n (([(o, aJ (cy 2) 1 fo)] ++ CW cy a kd co mk al dz rd rw wo sa sz ps bt ou ((L.length : Nat) : Int) dm pl re cu) ++ MW cy b kd co th rw sz ((L.length : Nat) : Int) ps dm sx aa dk fi bb cz hm se da sa2 bt2 oz) [(0, .ref scr), (1, .ref (a 0)), (2, .ref (b 0)), (3, .ref o), (4, vI i)] [] 809 := by
  obtain ⟨C, XL, hX, hbl, hbA, hN, hzx, hl9⟩ := H
  obtain ⟨⟨hkd, hco, hrw, hsz, hps, hdm⟩, ⟨rfl, rfl, rfl, rfl⟩, hPX, hSA, ⟨hBT, hB2⟩, hOR, hOZ, h8, hLn⟩ := hI
  have hk0 : k + 0 ≤ (room_1).cells ∧ n + 0 ≤ (room_1).slots := ⟨by show k ≤ 600384; omega, by show n ≤ 7290968; omega⟩
  have hk1 : k + 1 ≤ (room_1).cells ∧ n + 6 ≤ (room_1).slots := hk
  have hk2 : k + 1 + 0 ≤ (room_1).cells ∧ n + 6 + 0 ≤ (room_1).slots := hk
  have e8 : (((L.length : Nat) : Int) + 7) / 8 = ((L.length : Nat) : Int) / 8 := by omega
  obtain ⟨z1, ez1, hz1⟩ : ∃ z, zx (i + 1).toNat = z ∧ (-2147483648 ≤ z ∧ z < 2147483648) := ⟨_, rfl, hzx _⟩
  by_cases hin : 0 ≤ z1 ∧ z1 < ((L.length : Nat) : Int) / 8
  · have eB : obC ou co z1 = byN oz z1 8 := byte_link hOR hOZ hin.1 (by omega) (by have := on_eq hco.1; omega)
    have hq := byN_rg oz z1 8
    refine z_aload_n C dL_law_809 1 rfl ?_
    refine z_aload_n C dL_law_810 0 rfl ?_
    refine z_iload C dL_law_811 4 rfl ?_
    refine z_iconst C (z := 1) dL_law_813 ?_
    refine z_iadd C dL_law_814 ?_
    refine z_sldv C hX hbl hbA ez1 (by omega) (by omega) hN dL_law_815 ?_
    refine z_aload_n C dL_law_816 3 rfl ?_
    show V k n (([] ++ ([(o, aJ (cy 2) 1 fo)] ++ CW cy a kd co (se 0) (se 1) (se 2) (se 3) rw wo sa sz ps bt ou ((L.length : Nat) : Int) dm pl re cu)) ++ MW cy b kd co th rw sz ((L.length : Nat) : Int) ps dm sx aa dk fi bb cz hm se da sa2 bt2 oz) [(0, .ref scr), (1, .ref (a 0)), (2, .ref (b 0)), (3, .ref o), (4, vI i)] ([.ref (a 0), vI z1, .ref o].reverse ++ []) 817
    refine z_callSWF C XL (X := []) (W0 := [(o, aJ (cy 2) 1 fo)] ++ CW cy a kd co (se 0) (se 1) (se 2) (se 3) rw wo sa sz ps bt ou ((L.length : Nat) : Int) dm pl re cu) (Y := MW cy b kd co th rw sz ((L.length : Nat) : Int) ps dm sx aa dk fi bb cz hm se da sa2 bt2 oz) (As := [.ref (a 0), vI z1, .ref o]) (st := []) (c_L_octet l D cy tw sr o a fo kd co (se 0) (se 1) (se 2) (se 3) rw wo sa sz ps bt ou ((L.length : Nat) : Int) dm pl re cu z1 (by omega) (by omega) (by omega) (by rw [eB]; omega)) (goodIn_mo wsL_law_in gL_law_L_octet) kn_L_octet ⟨rfl, rfl, Nat.le_of_ble_eq_true rfl, Nat.le_of_ble_eq_true rfl⟩ rfl (Nat.le_of_ble_eq_true rfl) hk0 dL_law_817 (fun y_1 hy_1 => ?_)
    show V k n (([(o, aJ (cy 2) 1 (va_up fo (0 : Int).toNat (BitVec.ofInt 64 (obC ou co z1))))] ++ CW cy a kd co (se 0) (se 1) (se 2) (se 3) rw wo sa sz ps bt ou ((L.length : Nat) : Int) dm pl re cu) ++ MW cy b kd co th rw sz ((L.length : Nat) : Int) ps dm sx aa dk fi bb cz hm se da sa2 bt2 oz) [(0, .ref scr), (1, .ref (a 0)), (2, .ref (b 0)), (3, .ref o), (4, vI i)] [vI 0] 820
    refine z_istore C (lv' := [(5, vI 0), (0, .ref scr), (1, .ref (a 0)), (2, .ref (b 0)), (3, .ref o), (4, vI i)]) dL_law_820 (by decide) rfl ?_
    refine z_aload_n C dL_law_822 3 rfl ?_
    refine z_aload_n C dL_law_823 1 rfl ?_
    refine z_iload C dL_law_824 5 rfl ?_
    refine z_iconst C (z := 1) dL_law_826 ?_
    refine z_iadd C dL_law_827 ?_
    refine z_sldv C hX hbl hbA ez1 (by omega) (by omega) hN dL_law_828 ?_
    show V k n (([(o, aJ (cy 2) 1 (va_up fo (0 : Int).toNat (BitVec.ofInt 64 (obC ou co z1))))] ++ CW cy a kd co (se 0) (se 1) (se 2) (se 3) rw wo sa sz ps bt ou ((L.length : Nat) : Int) dm pl re cu) ++ MW cy b kd co th rw sz ((L.length : Nat) : Int) ps dm sx aa dk fi bb cz hm se da sa2 bt2 oz) [(5, vI 0), (0, .ref scr), (1, .ref (a 0)), (2, .ref (b 0)), (3, .ref o), (4, vI i)] ([vI z1].reverse ++ .ref (b 0) :: []) 829
    refine z_callVE C (X := [(o, aJ (cy 2) 1 (va_up fo (0 : Int).toNat (BitVec.ofInt 64 (obC ou co z1))))] ++ CW cy a kd co (se 0) (se 1) (se 2) (se 3) rw wo sa sz ps bt ou ((L.length : Nat) : Int) dm pl re cu) (W0 := MW cy b kd co th rw sz ((L.length : Nat) : Int) ps dm sx aa dk fi bb cz hm se da sa2 bt2 oz) (As := [vI z1]) (st := []) (c_X8_octet l D cy tw b kd co th rw sz ((L.length : Nat) : Int) ps dm sx aa dk fi bb cz hm se da sa2 bt2 oz z1 (by omega) (by omega)) (goodIn_mo wsL_law_in gL_law_X8_octet) kn_X8_octet rfl ⟨rfl, rfl, Nat.le_of_ble_eq_true rfl, Nat.le_of_ble_eq_true rfl⟩ 0 rfl (ci := 10) rfl rfl (Nat.le_of_ble_eq_true rfl) hk0 dL_law_829 (fun y_2 hy_2 => ?_)
    show V k n (([(o, aJ (cy 2) 1 (va_up fo (0 : Int).toNat (BitVec.ofInt 64 (obC ou co z1))))] ++ CW cy a kd co (se 0) (se 1) (se 2) (se 3) rw wo sa sz ps bt ou ((L.length : Nat) : Int) dm pl re cu) ++ MW cy b kd co (if 0 ≤ z1 ∧ z1 < ((L.length : Nat) : Int) / 8 then 0 else 1) rw sz ((L.length : Nat) : Int) ps dm sx aa dk fi bb cz hm se da sa2 bt2 oz) [(5, vI 0), (0, .ref scr), (1, .ref (a 0)), (2, .ref (b 0)), (3, .ref o), (4, vI i)] [vI (if 0 ≤ z1 ∧ z1 < ((L.length : Nat) : Int) / 8 then byN oz z1 8 else 0)] 832
    refine z_res (ws' := (([(o, aJ (cy 2) 1 (va_up fo (0 : Int).toNat (BitVec.ofInt 64 (obC ou co z1))))] ++ CW cy a kd co (se 0) (se 1) (se 2) (se 3) rw wo sa sz ps bt ou ((L.length : Nat) : Int) dm pl re cu) ++ MW cy b kd co 0 rw sz ((L.length : Nat) : Int) ps dm sx aa dk fi bb cz hm se da sa2 bt2 oz)) (y := obC ou co z1) (by rw [if_pos hin]) (by rw [if_pos hin, eB]) ?_
    show V k n (([(o, aJ (cy 2) 1 (va_up fo (0 : Int).toNat (BitVec.ofInt 64 (obC ou co z1))))] ++ CW cy a kd co (se 0) (se 1) (se 2) (se 3) rw wo sa sz ps bt ou ((L.length : Nat) : Int) dm pl re cu) ++ MW cy b kd co 0 rw sz ((L.length : Nat) : Int) ps dm sx aa dk fi bb cz hm se da sa2 bt2 oz) [(5, vI 0), (0, .ref scr), (1, .ref (a 0)), (2, .ref (b 0)), (3, .ref o), (4, vI i)] [vI (obC ou co z1)] 832
    refine z_istore C (lv' := [(6, vI (obC ou co z1)), (5, vI 0), (0, .ref scr), (1, .ref (a 0)), (2, .ref (b 0)), (3, .ref o), (4, vI i)]) dL_law_832 (by decide) rfl ?_
    refine z_aload_n C dL_law_834 4 rfl ?_
    show V k n (([(o, aJ (cy 2) 1 (va_up fo (0 : Int).toNat (BitVec.ofInt 64 (obC ou co z1))))] ++ CW cy a kd co (se 0) (se 1) (se 2) (se 3) rw wo sa sz ps bt ou ((L.length : Nat) : Int) dm pl re cu) ++ MW cy b kd co 0 rw sz ((L.length : Nat) : Int) ps dm sx aa dk fi bb cz hm se da sa2 bt2 oz) [(6, vI (obC ou co z1)), (5, vI 0), (0, .ref scr), (1, .ref (a 0)), (2, .ref (b 0)), (3, .ref o), (4, vI i)] ([].reverse ++ .ref (b 0) :: []) 835
    refine z_callVE C (X := [(o, aJ (cy 2) 1 (va_up fo (0 : Int).toNat (BitVec.ofInt 64 (obC ou co z1))))] ++ CW cy a kd co (se 0) (se 1) (se 2) (se 3) rw wo sa sz ps bt ou ((L.length : Nat) : Int) dm pl re cu) (W0 := MW cy b kd co 0 rw sz ((L.length : Nat) : Int) ps dm sx aa dk fi bb cz hm se da sa2 bt2 oz) (As := []) (st := []) (c_X8_thrown l D cy tw b kd co 0 rw sz ((L.length : Nat) : Int) ps dm sx aa dk fi bb cz hm se da sa2 bt2 oz  ) (goodIn_mo wsL_law_in gL_law_X8_thrown) kn_X8_thrown rfl ⟨rfl, rfl, Nat.le_of_ble_eq_true rfl, Nat.le_of_ble_eq_true rfl⟩ 0 rfl (ci := 10) rfl rfl (Nat.le_of_ble_eq_true rfl) hk0 dL_law_835 (fun y_3 hy_3 => ?_)
    show V k n (([(o, aJ (cy 2) 1 (va_up fo (0 : Int).toNat (BitVec.ofInt 64 (obC ou co z1))))] ++ CW cy a kd co (se 0) (se 1) (se 2) (se 3) rw wo sa sz ps bt ou ((L.length : Nat) : Int) dm pl re cu) ++ MW cy b kd co 0 rw sz ((L.length : Nat) : Int) ps dm sx aa dk fi bb cz hm se da sa2 bt2 oz) [(6, vI (obC ou co z1)), (5, vI 0), (0, .ref scr), (1, .ref (a 0)), (2, .ref (b 0)), (3, .ref o), (4, vI i)] [vI 0] 838
    refine z_iload C dL_law_838 1 rfl ?_
    refine z_icmp_eq C (by decide) (by decide) (tgt := 845) dL_law_840 (by decide) (fun _ => ?_) (fun hc => absurd rfl hc)
    refine z_iload C dL_law_845 1 rfl ?_
    refine z_if_ne C (by decide) (tgt := 862) dL_law_847 (by decide) (fun hc_4 => ?_) (fun hc_4 => ?_)
    · exact absurd hc_4 (by decide)
    refine z_aload_n C dL_law_850 5 rfl ?_
    refine z_iconst C (z := 0) dL_law_851 ?_
    refine z_lald C 0 2 (g := (va_up fo (0 : Int).toNat (BitVec.ofInt 64 (obC ou co z1)))) rfl rfl (by decide) (by decide) (by decide) dL_law_852 ?_
    refine z_iload C dL_law_853 0 rfl ?_
    refine z_i2l C (by omega) dL_law_855 ?_
    refine z_lcmp C dL_law_856 ?_
    refine z_if_eq C (lcm_rg _ _) (tgt := 862) dL_law_857 (by decide) (fun _ => ?_) (fun hc => absurd (lcm_same rfl) hc)
    refine z_goto C (tgt := 949) dL_law_862 (by decide) ?_
    refine z_lsub C [2, 3, 4, 5, 6] rfl ?_
    exact KK _ _ _ _ _ _ _ _ _ _ _ _ _ _ _ _ _ _ _ _ _ _ _ _ _ _ _ _ _ _ _ _ (by omega) (by omega) (LI_mk ⟨hkd, hco⟩ (hrw) (hsz) (hps) (hdm) (⟨rfl, rfl, rfl, rfl⟩) (hPX) (hSA) (⟨hBT, hB2⟩) (⟨hOR, hOZ, h8, hLn⟩))
  · refine z_aload_n C dL_law_809 1 rfl ?_
    refine z_aload_n C dL_law_810 0 rfl ?_
    refine z_iload C dL_law_811 4 rfl ?_
    refine z_iconst C (z := 1) dL_law_813 ?_
    refine z_iadd C dL_law_814 ?_
    refine z_sldv C hX hbl hbA ez1 (by omega) (by omega) hN dL_law_815 ?_
    refine z_aload_n C dL_law_816 3 rfl ?_
    show V k n (([] ++ ([(o, aJ (cy 2) 1 fo)] ++ CW cy a kd co (se 0) (se 1) (se 2) (se 3) rw wo sa sz ps bt ou ((L.length : Nat) : Int) dm pl re cu)) ++ MW cy b kd co th rw sz ((L.length : Nat) : Int) ps dm sx aa dk fi bb cz hm se da sa2 bt2 oz) [(0, .ref scr), (1, .ref (a 0)), (2, .ref (b 0)), (3, .ref o), (4, vI i)] ([.ref (a 0), vI z1, .ref o].reverse ++ []) 817
    refine z_callSWF C XL (X := []) (W0 := [(o, aJ (cy 2) 1 fo)] ++ CW cy a kd co (se 0) (se 1) (se 2) (se 3) rw wo sa sz ps bt ou ((L.length : Nat) : Int) dm pl re cu) (Y := MW cy b kd co th rw sz ((L.length : Nat) : Int) ps dm sx aa dk fi bb cz hm se da sa2 bt2 oz) (As := [.ref (a 0), vI z1, .ref o]) (st := []) (c_L_octetX l hl9 D cy tw sr o a fo kd co (se 0) (se 1) (se 2) (se 3) rw wo sa sz ps bt ou ((L.length : Nat) : Int) dm pl re cu z1 (by omega) (by omega) (by omega)) (goodIn_sA (goodIn_mo wsL_law_in gL_law_L_octet) goodEL) kn_L_octetA ⟨rfl, rfl, Nat.le_of_ble_eq_true rfl, Nat.le_of_ble_eq_true rfl⟩ rfl (Nat.le_of_ble_eq_true rfl) hk1 dL_law_817 (fun y_1 hy_1 => ?_)
    show V (k + 1) (n + 6) (([(o, aJ (cy 2) 1 fo)] ++ CW cy a kd co (se 0) (se 1) (se 2) (se 3) rw wo sa sz ps bt ou ((L.length : Nat) : Int) dm pl re cu) ++ MW cy b kd co th rw sz ((L.length : Nat) : Int) ps dm sx aa dk fi bb cz hm se da sa2 bt2 oz) [(0, .ref scr), (1, .ref (a 0)), (2, .ref (b 0)), (3, .ref o), (4, vI i)] [vI 1] 820
    refine z_istore C (lv' := [(5, vI 1), (0, .ref scr), (1, .ref (a 0)), (2, .ref (b 0)), (3, .ref o), (4, vI i)]) dL_law_820 (by decide) rfl ?_
    refine z_aload_n C dL_law_822 3 rfl ?_
    refine z_aload_n C dL_law_823 1 rfl ?_
    refine z_iload C dL_law_824 5 rfl ?_
    refine z_iconst C (z := 1) dL_law_826 ?_
    refine z_iadd C dL_law_827 ?_
    refine z_sldv C hX hbl hbA ez1 (by omega) (by omega) hN dL_law_828 ?_
    show V (k + 1) (n + 6) (([(o, aJ (cy 2) 1 fo)] ++ CW cy a kd co (se 0) (se 1) (se 2) (se 3) rw wo sa sz ps bt ou ((L.length : Nat) : Int) dm pl re cu) ++ MW cy b kd co th rw sz ((L.length : Nat) : Int) ps dm sx aa dk fi bb cz hm se da sa2 bt2 oz) [(5, vI 1), (0, .ref scr), (1, .ref (a 0)), (2, .ref (b 0)), (3, .ref o), (4, vI i)] ([vI z1].reverse ++ .ref (b 0) :: []) 829
    refine z_callVE C (X := [(o, aJ (cy 2) 1 fo)] ++ CW cy a kd co (se 0) (se 1) (se 2) (se 3) rw wo sa sz ps bt ou ((L.length : Nat) : Int) dm pl re cu) (W0 := MW cy b kd co th rw sz ((L.length : Nat) : Int) ps dm sx aa dk fi bb cz hm se da sa2 bt2 oz) (As := [vI z1]) (st := []) (c_X8_octet l D cy tw b kd co th rw sz ((L.length : Nat) : Int) ps dm sx aa dk fi bb cz hm se da sa2 bt2 oz z1 (by omega) (by omega)) (goodIn_mo wsL_law_in gL_law_X8_octet) kn_X8_octet rfl ⟨rfl, rfl, Nat.le_of_ble_eq_true rfl, Nat.le_of_ble_eq_true rfl⟩ 0 rfl (ci := 10) rfl rfl (Nat.le_of_ble_eq_true rfl) hk2 dL_law_829 (fun y_2 hy_2 => ?_)
    show V (k + 1) (n + 6) (([(o, aJ (cy 2) 1 fo)] ++ CW cy a kd co (se 0) (se 1) (se 2) (se 3) rw wo sa sz ps bt ou ((L.length : Nat) : Int) dm pl re cu) ++ MW cy b kd co (if 0 ≤ z1 ∧ z1 < ((L.length : Nat) : Int) / 8 then 0 else 1) rw sz ((L.length : Nat) : Int) ps dm sx aa dk fi bb cz hm se da sa2 bt2 oz) [(5, vI 1), (0, .ref scr), (1, .ref (a 0)), (2, .ref (b 0)), (3, .ref o), (4, vI i)] [vI (if 0 ≤ z1 ∧ z1 < ((L.length : Nat) : Int) / 8 then byN oz z1 8 else 0)] 832
    refine z_res (ws' := (([(o, aJ (cy 2) 1 fo)] ++ CW cy a kd co (se 0) (se 1) (se 2) (se 3) rw wo sa sz ps bt ou ((L.length : Nat) : Int) dm pl re cu) ++ MW cy b kd co 1 rw sz ((L.length : Nat) : Int) ps dm sx aa dk fi bb cz hm se da sa2 bt2 oz)) (y := 0) (by rw [if_neg hin]) (by rw [if_neg hin]) ?_
    show V (k + 1) (n + 6) (([(o, aJ (cy 2) 1 fo)] ++ CW cy a kd co (se 0) (se 1) (se 2) (se 3) rw wo sa sz ps bt ou ((L.length : Nat) : Int) dm pl re cu) ++ MW cy b kd co 1 rw sz ((L.length : Nat) : Int) ps dm sx aa dk fi bb cz hm se da sa2 bt2 oz) [(5, vI 1), (0, .ref scr), (1, .ref (a 0)), (2, .ref (b 0)), (3, .ref o), (4, vI i)] [vI 0] 832
    refine z_istore C (lv' := [(6, vI 0), (5, vI 1), (0, .ref scr), (1, .ref (a 0)), (2, .ref (b 0)), (3, .ref o), (4, vI i)]) dL_law_832 (by decide) rfl ?_
    refine z_aload_n C dL_law_834 4 rfl ?_
    show V (k + 1) (n + 6) (([(o, aJ (cy 2) 1 fo)] ++ CW cy a kd co (se 0) (se 1) (se 2) (se 3) rw wo sa sz ps bt ou ((L.length : Nat) : Int) dm pl re cu) ++ MW cy b kd co 1 rw sz ((L.length : Nat) : Int) ps dm sx aa dk fi bb cz hm se da sa2 bt2 oz) [(6, vI 0), (5, vI 1), (0, .ref scr), (1, .ref (a 0)), (2, .ref (b 0)), (3, .ref o), (4, vI i)] ([].reverse ++ .ref (b 0) :: []) 835
    refine z_callVE C (X := [(o, aJ (cy 2) 1 fo)] ++ CW cy a kd co (se 0) (se 1) (se 2) (se 3) rw wo sa sz ps bt ou ((L.length : Nat) : Int) dm pl re cu) (W0 := MW cy b kd co 1 rw sz ((L.length : Nat) : Int) ps dm sx aa dk fi bb cz hm se da sa2 bt2 oz) (As := []) (st := []) (c_X8_thrown l D cy tw b kd co 1 rw sz ((L.length : Nat) : Int) ps dm sx aa dk fi bb cz hm se da sa2 bt2 oz  ) (goodIn_mo wsL_law_in gL_law_X8_thrown) kn_X8_thrown rfl ⟨rfl, rfl, Nat.le_of_ble_eq_true rfl, Nat.le_of_ble_eq_true rfl⟩ 0 rfl (ci := 10) rfl rfl (Nat.le_of_ble_eq_true rfl) hk2 dL_law_835 (fun y_3 hy_3 => ?_)
    show V (k + 1) (n + 6) (([(o, aJ (cy 2) 1 fo)] ++ CW cy a kd co (se 0) (se 1) (se 2) (se 3) rw wo sa sz ps bt ou ((L.length : Nat) : Int) dm pl re cu) ++ MW cy b kd co 1 rw sz ((L.length : Nat) : Int) ps dm sx aa dk fi bb cz hm se da sa2 bt2 oz) [(6, vI 0), (5, vI 1), (0, .ref scr), (1, .ref (a 0)), (2, .ref (b 0)), (3, .ref o), (4, vI i)] [vI 1] 838
    refine z_iload C dL_law_838 1 rfl ?_
    refine z_icmp_eq C (by decide) (by decide) (tgt := 845) dL_law_840 (by decide) (fun _ => ?_) (fun hc => absurd rfl hc)
    refine z_iload C dL_law_845 1 rfl ?_
    refine z_if_ne C (by decide) (tgt := 862) dL_law_847 (by decide) (fun hc_4 => ?_) (fun hc_4 => ?_)
    rotate_left; · exact absurd hc_4 (by decide)
    refine z_goto C (tgt := 949) dL_law_862 (by decide) ?_
    refine z_lsub C [2, 3, 4, 5, 6] rfl ?_
    exact KK _ _ _ _ _ _ _ _ _ _ _ _ _ _ _ _ _ _ _ _ _ _ _ _ _ _ _ _ _ _ _ _ (by omega) (by omega) (LI_mk ⟨hkd, hco⟩ (hrw) (hsz) (hps) (hdm) (⟨rfl, rfl, rfl, rfl⟩) (hPX) (hSA) (⟨hBT, hB2⟩) (⟨hOR, hOZ, h8, hLn⟩))
set_option maxHeartbeats 2000000 in
set_option maxRecDepth 100000 in
theorem lw_code {V : zV} {p : Program} {l : Launch} {e : Env} {s : State} {m : MethodId} {args : Array Value} {below : List Frame} {meth : Method} {c : Code} {D : va_G} {cy : Nat → ClassId} {tw sr : Nat → Nat} {A : Nat → Prop} {Q : State → Prop} {scr N : Nat} {zx : Nat → Int} (H : LC V p l e s m args below meth c D cy tw sr A Q scr N zx) (a b : Nat → Nat) (o : Nat) {k n : Nat} (hk : k + 1 ≤ 600384 ∧ n + 6 ≤ 7290968) {i : Int} (hi : 0 ≤ i ∧ i + 5 ≤ (N : Int)) {kd co : Int} (fo : Nat → BitVec 64) (mk al dz rd : Bool) (rw : Int) (wo : Nat → BitVec 64) (sa : Nat → Int) (sz ps : Int) (bt : Nat → Int) (ou : Nat → BitVec 64) (L : List Bool) (dm : Int) (pl : Bool) (re : Int) (cu : Bool) (th sx aa : Int) (dk fi : Bool) (bb cz : Int) (hm : Bool) (se da : Nat → Bool) (sa2 bt2 : Nat → Int) (oz : Nat → Bool) (hI : LI kd co mk al dz rd rw wo sa sz ps bt ou L dm se da sa2 bt2 oz) (KK : LKK V cy a b o scr i k n kd co) : V k n (([(o, aJ (cy 2) 1 fo)] ++ CW cy a kd co mk al dz rd rw wo sa sz ps bt ou ((L.length : Nat) : Int) dm pl re cu) ++ MW cy b kd co th rw sz ((L.length : Nat) : Int) ps dm sx aa dk fi bb cz hm se da sa2 bt2 oz) [(0, .ref scr), (1, .ref (a 0)), (2, .ref (b 0)), (3, .ref o), (4, vI i)] [] 865 := by
  obtain ⟨C, XL, hX, hbl, hbA, hN, hzx, hl9⟩ := H
  obtain ⟨⟨hkd, hco, hrw, hsz, hps, hdm⟩, ⟨rfl, rfl, rfl, rfl⟩, hPX, hSA, ⟨hBT, hB2⟩, hOR, hOZ, h8, hLn⟩ := hI
  have hk0 : k + 0 ≤ (room_1).cells ∧ n + 0 ≤ (room_1).slots := ⟨by show k ≤ 600384; omega, by show n ≤ 7290968; omega⟩
  have hk1 : k + 1 ≤ (room_1).cells ∧ n + 6 ≤ (room_1).slots := hk
  have hk2 : k + 1 + 0 ≤ (room_1).cells ∧ n + 6 + 0 ≤ (room_1).slots := hk
  have e8 : (((L.length : Nat) : Int) + 7) / 8 = ((L.length : Nat) : Int) / 8 := by omega
  obtain ⟨z1, ez1, hz1⟩ : ∃ z, zx (i + 1).toNat = z ∧ (-2147483648 ≤ z ∧ z < 2147483648) := ⟨_, rfl, hzx _⟩
  obtain ⟨z2, ez2, hz2⟩ : ∃ z, zx (i + 2).toNat = z ∧ (-2147483648 ≤ z ∧ z < 2147483648) := ⟨_, rfl, hzx _⟩
  by_cases hR : isR z2 = true
  · have hs := sltC_sl.1 hR
    have hq1 := lenC_rg (decide (¬ z1 = 0)) (sltC z2)
    have hq2 := codC_rg (decide (¬ z1 = 0)) (sltC z2)
    have hq3 := mCB_at (c := b2i (decide (¬ z1 = 0))) hR (b2i_01 _)
    refine z_aload_n C dL_law_865 1 rfl ?_
    refine z_aload_n C dL_law_866 0 rfl ?_
    refine z_iload C dL_law_867 4 rfl ?_
    refine z_iconst C (z := 1) dL_law_869 ?_
    refine z_iadd C dL_law_870 ?_
    refine z_sldv C hX hbl hbA ez1 (by omega) (by omega) hN dL_law_871 ?_
    refine z_selz C (fun z => decide (¬ z = 0)) (by omega) (Or.inl ⟨rfl, rfl⟩) dL_law_872 dL_law_875 dL_law_876 dL_law_879 ?_
    refine z_aload_n C dL_law_880 0 rfl ?_
    refine z_iload C dL_law_881 4 rfl ?_
    refine z_iconst C (z := 2) dL_law_883 ?_
    refine z_iadd C dL_law_884 ?_
    refine z_sldv C hX hbl hbA ez2 (by omega) (by omega) hN dL_law_885 ?_
    refine z_aload_n C dL_law_886 3 rfl ?_
    show V k n (([] ++ ([(o, aJ (cy 2) 1 fo)] ++ CW cy a kd co (se 0) (se 1) (se 2) (se 3) rw wo sa sz ps bt ou ((L.length : Nat) : Int) dm pl re cu)) ++ MW cy b kd co th rw sz ((L.length : Nat) : Int) ps dm sx aa dk fi bb cz hm se da sa2 bt2 oz) [(0, .ref scr), (1, .ref (a 0)), (2, .ref (b 0)), (3, .ref o), (4, vI i)] ([.ref (a 0), vI (b2i (decide (¬ z1 = 0))), vI z2, .ref o].reverse ++ []) 887
    refine z_callSWF C XL (X := []) (W0 := [(o, aJ (cy 2) 1 fo)] ++ CW cy a kd co (se 0) (se 1) (se 2) (se 3) rw wo sa sz ps bt ou ((L.length : Nat) : Int) dm pl re cu) (Y := MW cy b kd co th rw sz ((L.length : Nat) : Int) ps dm sx aa dk fi bb cz hm se da sa2 bt2 oz) (As := [.ref (a 0), vI (b2i (decide (¬ z1 = 0))), vI z2, .ref o]) (st := []) (c_L_code l D cy tw sr o a fo kd co (se 0) (se 1) (se 2) (se 3) rw wo sa sz ps bt ou ((L.length : Nat) : Int) dm pl re cu (decide (¬ z1 = 0)) z2 (by omega) (hs.2) (by omega)) (goodIn_mo wsL_law_in gL_law_L_code) kn_L_code ⟨rfl, rfl, Nat.le_of_ble_eq_true rfl, Nat.le_of_ble_eq_true rfl⟩ rfl (Nat.le_of_ble_eq_true rfl) hk0 dL_law_887 (fun y_1 hy_1 => ?_)
    show V k n (([(o, aJ (cy 2) 1 (va_up fo (0 : Int).toNat (BitVec.ofInt 64 (lenC (decide (¬ z1 = 0)) (sltC z2) * 65536 + codC (decide (¬ z1 = 0)) (sltC z2)))))] ++ CW cy a kd co (se 0) (se 1) (se 2) (se 3) rw wo sa sz ps bt ou ((L.length : Nat) : Int) dm pl re cu) ++ MW cy b kd co th rw sz ((L.length : Nat) : Int) ps dm sx aa dk fi bb cz hm se da sa2 bt2 oz) [(0, .ref scr), (1, .ref (a 0)), (2, .ref (b 0)), (3, .ref o), (4, vI i)] [vI 0] 890
    refine z_istore C (lv' := [(5, vI 0), (0, .ref scr), (1, .ref (a 0)), (2, .ref (b 0)), (3, .ref o), (4, vI i)]) dL_law_890 (by decide) rfl ?_
    refine z_aload_n C dL_law_892 3 rfl ?_
    refine z_aload_n C dL_law_893 1 rfl ?_
    refine z_iload C dL_law_894 5 rfl ?_
    refine z_iconst C (z := 1) dL_law_896 ?_
    refine z_iadd C dL_law_897 ?_
    refine z_sldv C hX hbl hbA ez1 (by omega) (by omega) hN dL_law_898 ?_
    refine z_selz C (fun z => decide (¬ z = 0)) (by omega) (Or.inl ⟨rfl, rfl⟩) dL_law_899 dL_law_902 dL_law_903 dL_law_906 ?_
    refine z_aload_n C dL_law_907 1 rfl ?_
    refine z_iload C dL_law_908 5 rfl ?_
    refine z_iconst C (z := 2) dL_law_910 ?_
    refine z_iadd C dL_law_911 ?_
    refine z_sldv C hX hbl hbA ez2 (by omega) (by omega) hN dL_law_912 ?_
    show V k n (([(o, aJ (cy 2) 1 (va_up fo (0 : Int).toNat (BitVec.ofInt 64 (lenC (decide (¬ z1 = 0)) (sltC z2) * 65536 + codC (decide (¬ z1 = 0)) (sltC z2)))))] ++ CW cy a kd co (se 0) (se 1) (se 2) (se 3) rw wo sa sz ps bt ou ((L.length : Nat) : Int) dm pl re cu) ++ MW cy b kd co th rw sz ((L.length : Nat) : Int) ps dm sx aa dk fi bb cz hm se da sa2 bt2 oz) [(5, vI 0), (0, .ref scr), (1, .ref (a 0)), (2, .ref (b 0)), (3, .ref o), (4, vI i)] ([vI (b2i (decide (¬ z1 = 0))), vI z2].reverse ++ .ref (b 0) :: []) 913
    refine z_callVE C (X := [(o, aJ (cy 2) 1 (va_up fo (0 : Int).toNat (BitVec.ofInt 64 (lenC (decide (¬ z1 = 0)) (sltC z2) * 65536 + codC (decide (¬ z1 = 0)) (sltC z2)))))] ++ CW cy a kd co (se 0) (se 1) (se 2) (se 3) rw wo sa sz ps bt ou ((L.length : Nat) : Int) dm pl re cu) (W0 := MW cy b kd co th rw sz ((L.length : Nat) : Int) ps dm sx aa dk fi bb cz hm se da sa2 bt2 oz) (As := [vI (b2i (decide (¬ z1 = 0))), vI z2]) (st := []) (c_X8_codeF l D cy tw b kd co th rw sz ((L.length : Nat) : Int) ps dm sx aa dk fi bb cz hm se da sa2 bt2 oz (decide (¬ z1 = 0)) z2 (by omega)) (goodIn_mo wsL_law_in gL_law_X8_code) kn_X8_code rfl ⟨rfl, rfl, Nat.le_of_ble_eq_true rfl, Nat.le_of_ble_eq_true rfl⟩ 0 rfl (ci := 10) rfl rfl (Nat.le_of_ble_eq_true rfl) hk0 dL_law_913 (fun y_2 hy_2 => ?_)
    show V k n (([(o, aJ (cy 2) 1 (va_up fo (0 : Int).toNat (BitVec.ofInt 64 (lenC (decide (¬ z1 = 0)) (sltC z2) * 65536 + codC (decide (¬ z1 = 0)) (sltC z2)))))] ++ CW cy a kd co (se 0) (se 1) (se 2) (se 3) rw wo sa sz ps bt ou ((L.length : Nat) : Int) dm pl re cu) ++ MW cy b kd co (if isR z2 = true then 0 else 1) rw sz ((L.length : Nat) : Int) ps dm sx aa dk fi bb cz hm se da sa2 bt2 oz) [(5, vI 0), (0, .ref scr), (1, .ref (a 0)), (2, .ref (b 0)), (3, .ref o), (4, vI i)] [vI (if isR z2 = true then mC (704 * b2i (decide (¬ z1 = 0)) + z2).toNat + 65536 * mB (704 * b2i (decide (¬ z1 = 0)) + z2).toNat else 0)] 916
    refine z_res (ws' := (([(o, aJ (cy 2) 1 (va_up fo (0 : Int).toNat (BitVec.ofInt 64 (lenC (decide (¬ z1 = 0)) (sltC z2) * 65536 + codC (decide (¬ z1 = 0)) (sltC z2)))))] ++ CW cy a kd co (se 0) (se 1) (se 2) (se 3) rw wo sa sz ps bt ou ((L.length : Nat) : Int) dm pl re cu) ++ MW cy b kd co 0 rw sz ((L.length : Nat) : Int) ps dm sx aa dk fi bb cz hm se da sa2 bt2 oz)) (y := lenC (decide (¬ z1 = 0)) (sltC z2) * 65536 + codC (decide (¬ z1 = 0)) (sltC z2)) (by rw [if_pos hR]) (by rw [if_pos hR, hq3.1, hq3.2, cB_b2, hs.1]; omega) ?_
    show V k n (([(o, aJ (cy 2) 1 (va_up fo (0 : Int).toNat (BitVec.ofInt 64 (lenC (decide (¬ z1 = 0)) (sltC z2) * 65536 + codC (decide (¬ z1 = 0)) (sltC z2)))))] ++ CW cy a kd co (se 0) (se 1) (se 2) (se 3) rw wo sa sz ps bt ou ((L.length : Nat) : Int) dm pl re cu) ++ MW cy b kd co 0 rw sz ((L.length : Nat) : Int) ps dm sx aa dk fi bb cz hm se da sa2 bt2 oz) [(5, vI 0), (0, .ref scr), (1, .ref (a 0)), (2, .ref (b 0)), (3, .ref o), (4, vI i)] [vI (lenC (decide (¬ z1 = 0)) (sltC z2) * 65536 + codC (decide (¬ z1 = 0)) (sltC z2))] 916
    refine z_istore C (lv' := [(6, vI (lenC (decide (¬ z1 = 0)) (sltC z2) * 65536 + codC (decide (¬ z1 = 0)) (sltC z2))), (5, vI 0), (0, .ref scr), (1, .ref (a 0)), (2, .ref (b 0)), (3, .ref o), (4, vI i)]) dL_law_916 (by decide) rfl ?_
    refine z_aload_n C dL_law_918 4 rfl ?_
    show V k n (([(o, aJ (cy 2) 1 (va_up fo (0 : Int).toNat (BitVec.ofInt 64 (lenC (decide (¬ z1 = 0)) (sltC z2) * 65536 + codC (decide (¬ z1 = 0)) (sltC z2)))))] ++ CW cy a kd co (se 0) (se 1) (se 2) (se 3) rw wo sa sz ps bt ou ((L.length : Nat) : Int) dm pl re cu) ++ MW cy b kd co 0 rw sz ((L.length : Nat) : Int) ps dm sx aa dk fi bb cz hm se da sa2 bt2 oz) [(6, vI (lenC (decide (¬ z1 = 0)) (sltC z2) * 65536 + codC (decide (¬ z1 = 0)) (sltC z2))), (5, vI 0), (0, .ref scr), (1, .ref (a 0)), (2, .ref (b 0)), (3, .ref o), (4, vI i)] ([].reverse ++ .ref (b 0) :: []) 919
    refine z_callVE C (X := [(o, aJ (cy 2) 1 (va_up fo (0 : Int).toNat (BitVec.ofInt 64 (lenC (decide (¬ z1 = 0)) (sltC z2) * 65536 + codC (decide (¬ z1 = 0)) (sltC z2)))))] ++ CW cy a kd co (se 0) (se 1) (se 2) (se 3) rw wo sa sz ps bt ou ((L.length : Nat) : Int) dm pl re cu) (W0 := MW cy b kd co 0 rw sz ((L.length : Nat) : Int) ps dm sx aa dk fi bb cz hm se da sa2 bt2 oz) (As := []) (st := []) (c_X8_thrown l D cy tw b kd co 0 rw sz ((L.length : Nat) : Int) ps dm sx aa dk fi bb cz hm se da sa2 bt2 oz  ) (goodIn_mo wsL_law_in gL_law_X8_thrown) kn_X8_thrown rfl ⟨rfl, rfl, Nat.le_of_ble_eq_true rfl, Nat.le_of_ble_eq_true rfl⟩ 0 rfl (ci := 10) rfl rfl (Nat.le_of_ble_eq_true rfl) hk0 dL_law_919 (fun y_3 hy_3 => ?_)
    show V k n (([(o, aJ (cy 2) 1 (va_up fo (0 : Int).toNat (BitVec.ofInt 64 (lenC (decide (¬ z1 = 0)) (sltC z2) * 65536 + codC (decide (¬ z1 = 0)) (sltC z2)))))] ++ CW cy a kd co (se 0) (se 1) (se 2) (se 3) rw wo sa sz ps bt ou ((L.length : Nat) : Int) dm pl re cu) ++ MW cy b kd co 0 rw sz ((L.length : Nat) : Int) ps dm sx aa dk fi bb cz hm se da sa2 bt2 oz) [(6, vI (lenC (decide (¬ z1 = 0)) (sltC z2) * 65536 + codC (decide (¬ z1 = 0)) (sltC z2))), (5, vI 0), (0, .ref scr), (1, .ref (a 0)), (2, .ref (b 0)), (3, .ref o), (4, vI i)] [vI 0] 922
    refine z_iload C dL_law_922 1 rfl ?_
    refine z_icmp_eq C (by decide) (by decide) (tgt := 929) dL_law_924 (by decide) (fun _ => ?_) (fun hc => absurd rfl hc)
    refine z_iload C dL_law_929 1 rfl ?_
    refine z_if_ne C (by decide) (tgt := 946) dL_law_931 (by decide) (fun hc_4 => ?_) (fun hc_4 => ?_)
    · exact absurd hc_4 (by decide)
    refine z_aload_n C dL_law_934 5 rfl ?_
    refine z_iconst C (z := 0) dL_law_935 ?_
    refine z_lald C 0 2 (g := (va_up fo (0 : Int).toNat (BitVec.ofInt 64 (lenC (decide (¬ z1 = 0)) (sltC z2) * 65536 + codC (decide (¬ z1 = 0)) (sltC z2))))) rfl rfl (by decide) (by decide) (by decide) dL_law_936 ?_
    refine z_iload C dL_law_937 0 rfl ?_
    refine z_i2l C (by omega) dL_law_939 ?_
    refine z_lcmp C dL_law_940 ?_
    refine z_if_eq C (lcm_rg _ _) (tgt := 946) dL_law_941 (by decide) (fun _ => ?_) (fun hc => absurd (lcm_same rfl) hc)
    refine z_goto C (tgt := 949) dL_law_946 (by decide) ?_
    refine z_lsub C [2, 3, 4, 5, 6] rfl ?_
    exact KK _ _ _ _ _ _ _ _ _ _ _ _ _ _ _ _ _ _ _ _ _ _ _ _ _ _ _ _ _ _ _ _ (by omega) (by omega) (LI_mk ⟨hkd, hco⟩ (hrw) (hsz) (hps) (hdm) (⟨rfl, rfl, rfl, rfl⟩) (hPX) (hSA) (⟨hBT, hB2⟩) (⟨hOR, hOZ, h8, hLn⟩))
  · have hs := sltC_sl.2 (eq_false_of_ne_true hR)
    refine z_aload_n C dL_law_865 1 rfl ?_
    refine z_aload_n C dL_law_866 0 rfl ?_
    refine z_iload C dL_law_867 4 rfl ?_
    refine z_iconst C (z := 1) dL_law_869 ?_
    refine z_iadd C dL_law_870 ?_
    refine z_sldv C hX hbl hbA ez1 (by omega) (by omega) hN dL_law_871 ?_
    refine z_selz C (fun z => decide (¬ z = 0)) (by omega) (Or.inl ⟨rfl, rfl⟩) dL_law_872 dL_law_875 dL_law_876 dL_law_879 ?_
    refine z_aload_n C dL_law_880 0 rfl ?_
    refine z_iload C dL_law_881 4 rfl ?_
    refine z_iconst C (z := 2) dL_law_883 ?_
    refine z_iadd C dL_law_884 ?_
    refine z_sldv C hX hbl hbA ez2 (by omega) (by omega) hN dL_law_885 ?_
    refine z_aload_n C dL_law_886 3 rfl ?_
    show V k n (([] ++ ([(o, aJ (cy 2) 1 fo)] ++ CW cy a kd co (se 0) (se 1) (se 2) (se 3) rw wo sa sz ps bt ou ((L.length : Nat) : Int) dm pl re cu)) ++ MW cy b kd co th rw sz ((L.length : Nat) : Int) ps dm sx aa dk fi bb cz hm se da sa2 bt2 oz) [(0, .ref scr), (1, .ref (a 0)), (2, .ref (b 0)), (3, .ref o), (4, vI i)] ([.ref (a 0), vI (b2i (decide (¬ z1 = 0))), vI z2, .ref o].reverse ++ []) 887
    refine z_callSWF C XL (X := []) (W0 := [(o, aJ (cy 2) 1 fo)] ++ CW cy a kd co (se 0) (se 1) (se 2) (se 3) rw wo sa sz ps bt ou ((L.length : Nat) : Int) dm pl re cu) (Y := MW cy b kd co th rw sz ((L.length : Nat) : Int) ps dm sx aa dk fi bb cz hm se da sa2 bt2 oz) (As := [.ref (a 0), vI (b2i (decide (¬ z1 = 0))), vI z2, .ref o]) (st := []) (c_L_codeX l hl9 D cy tw sr o a fo kd co (se 0) (se 1) (se 2) (se 3) rw wo sa sz ps bt ou ((L.length : Nat) : Int) dm pl re cu (decide (¬ z1 = 0)) z2 (by omega) (by rw [hs]; decide)) (goodIn_mo wsL_law_in gL_law_L_code) kn_L_code ⟨rfl, rfl, Nat.le_of_ble_eq_true rfl, Nat.le_of_ble_eq_true rfl⟩ rfl (Nat.le_of_ble_eq_true rfl) hk1 dL_law_887 (fun y_1 hy_1 => ?_)
    show V (k + 1) (n + 6) (([(o, aJ (cy 2) 1 fo)] ++ CW cy a kd co (se 0) (se 1) (se 2) (se 3) rw wo sa sz ps bt ou ((L.length : Nat) : Int) dm pl re cu) ++ MW cy b kd co th rw sz ((L.length : Nat) : Int) ps dm sx aa dk fi bb cz hm se da sa2 bt2 oz) [(0, .ref scr), (1, .ref (a 0)), (2, .ref (b 0)), (3, .ref o), (4, vI i)] [vI 1] 890
    refine z_istore C (lv' := [(5, vI 1), (0, .ref scr), (1, .ref (a 0)), (2, .ref (b 0)), (3, .ref o), (4, vI i)]) dL_law_890 (by decide) rfl ?_
    refine z_aload_n C dL_law_892 3 rfl ?_
    refine z_aload_n C dL_law_893 1 rfl ?_
    refine z_iload C dL_law_894 5 rfl ?_
    refine z_iconst C (z := 1) dL_law_896 ?_
    refine z_iadd C dL_law_897 ?_
    refine z_sldv C hX hbl hbA ez1 (by omega) (by omega) hN dL_law_898 ?_
    refine z_selz C (fun z => decide (¬ z = 0)) (by omega) (Or.inl ⟨rfl, rfl⟩) dL_law_899 dL_law_902 dL_law_903 dL_law_906 ?_
    refine z_aload_n C dL_law_907 1 rfl ?_
    refine z_iload C dL_law_908 5 rfl ?_
    refine z_iconst C (z := 2) dL_law_910 ?_
    refine z_iadd C dL_law_911 ?_
    refine z_sldv C hX hbl hbA ez2 (by omega) (by omega) hN dL_law_912 ?_
    show V (k + 1) (n + 6) (([(o, aJ (cy 2) 1 fo)] ++ CW cy a kd co (se 0) (se 1) (se 2) (se 3) rw wo sa sz ps bt ou ((L.length : Nat) : Int) dm pl re cu) ++ MW cy b kd co th rw sz ((L.length : Nat) : Int) ps dm sx aa dk fi bb cz hm se da sa2 bt2 oz) [(5, vI 1), (0, .ref scr), (1, .ref (a 0)), (2, .ref (b 0)), (3, .ref o), (4, vI i)] ([vI (b2i (decide (¬ z1 = 0))), vI z2].reverse ++ .ref (b 0) :: []) 913
    refine z_callVE C (X := [(o, aJ (cy 2) 1 fo)] ++ CW cy a kd co (se 0) (se 1) (se 2) (se 3) rw wo sa sz ps bt ou ((L.length : Nat) : Int) dm pl re cu) (W0 := MW cy b kd co th rw sz ((L.length : Nat) : Int) ps dm sx aa dk fi bb cz hm se da sa2 bt2 oz) (As := [vI (b2i (decide (¬ z1 = 0))), vI z2]) (st := []) (c_X8_codeF l D cy tw b kd co th rw sz ((L.length : Nat) : Int) ps dm sx aa dk fi bb cz hm se da sa2 bt2 oz (decide (¬ z1 = 0)) z2 (by omega)) (goodIn_mo wsL_law_in gL_law_X8_code) kn_X8_code rfl ⟨rfl, rfl, Nat.le_of_ble_eq_true rfl, Nat.le_of_ble_eq_true rfl⟩ 0 rfl (ci := 10) rfl rfl (Nat.le_of_ble_eq_true rfl) hk2 dL_law_913 (fun y_2 hy_2 => ?_)
    show V (k + 1) (n + 6) (([(o, aJ (cy 2) 1 fo)] ++ CW cy a kd co (se 0) (se 1) (se 2) (se 3) rw wo sa sz ps bt ou ((L.length : Nat) : Int) dm pl re cu) ++ MW cy b kd co (if isR z2 = true then 0 else 1) rw sz ((L.length : Nat) : Int) ps dm sx aa dk fi bb cz hm se da sa2 bt2 oz) [(5, vI 1), (0, .ref scr), (1, .ref (a 0)), (2, .ref (b 0)), (3, .ref o), (4, vI i)] [vI (if isR z2 = true then mC (704 * b2i (decide (¬ z1 = 0)) + z2).toNat + 65536 * mB (704 * b2i (decide (¬ z1 = 0)) + z2).toNat else 0)] 916
    refine z_res (ws' := (([(o, aJ (cy 2) 1 fo)] ++ CW cy a kd co (se 0) (se 1) (se 2) (se 3) rw wo sa sz ps bt ou ((L.length : Nat) : Int) dm pl re cu) ++ MW cy b kd co 1 rw sz ((L.length : Nat) : Int) ps dm sx aa dk fi bb cz hm se da sa2 bt2 oz)) (y := 0) (by rw [if_neg hR]) (by rw [if_neg hR]) ?_
    show V (k + 1) (n + 6) (([(o, aJ (cy 2) 1 fo)] ++ CW cy a kd co (se 0) (se 1) (se 2) (se 3) rw wo sa sz ps bt ou ((L.length : Nat) : Int) dm pl re cu) ++ MW cy b kd co 1 rw sz ((L.length : Nat) : Int) ps dm sx aa dk fi bb cz hm se da sa2 bt2 oz) [(5, vI 1), (0, .ref scr), (1, .ref (a 0)), (2, .ref (b 0)), (3, .ref o), (4, vI i)] [vI 0] 916
    refine z_istore C (lv' := [(6, vI 0), (5, vI 1), (0, .ref scr), (1, .ref (a 0)), (2, .ref (b 0)), (3, .ref o), (4, vI i)]) dL_law_916 (by decide) rfl ?_
    refine z_aload_n C dL_law_918 4 rfl ?_
    show V (k + 1) (n + 6) (([(o, aJ (cy 2) 1 fo)] ++ CW cy a kd co (se 0) (se 1) (se 2) (se 3) rw wo sa sz ps bt ou ((L.length : Nat) : Int) dm pl re cu) ++ MW cy b kd co 1 rw sz ((L.length : Nat) : Int) ps dm sx aa dk fi bb cz hm se da sa2 bt2 oz) [(6, vI 0), (5, vI 1), (0, .ref scr), (1, .ref (a 0)), (2, .ref (b 0)), (3, .ref o), (4, vI i)] ([].reverse ++ .ref (b 0) :: []) 919
    refine z_callVE C (X := [(o, aJ (cy 2) 1 fo)] ++ CW cy a kd co (se 0) (se 1) (se 2) (se 3) rw wo sa sz ps bt ou ((L.length : Nat) : Int) dm pl re cu) (W0 := MW cy b kd co 1 rw sz ((L.length : Nat) : Int) ps dm sx aa dk fi bb cz hm se da sa2 bt2 oz) (As := []) (st := []) (c_X8_thrown l D cy tw b kd co 1 rw sz ((L.length : Nat) : Int) ps dm sx aa dk fi bb cz hm se da sa2 bt2 oz  ) (goodIn_mo wsL_law_in gL_law_X8_thrown) kn_X8_thrown rfl ⟨rfl, rfl, Nat.le_of_ble_eq_true rfl, Nat.le_of_ble_eq_true rfl⟩ 0 rfl (ci := 10) rfl rfl (Nat.le_of_ble_eq_true rfl) hk2 dL_law_919 (fun y_3 hy_3 => ?_)
    show V (k + 1) (n + 6) (([(o, aJ (cy 2) 1 fo)] ++ CW cy a kd co (se 0) (se 1) (se 2) (se 3) rw wo sa sz ps bt ou ((L.length : Nat) : Int) dm pl re cu) ++ MW cy b kd co 1 rw sz ((L.length : Nat) : Int) ps dm sx aa dk fi bb cz hm se da sa2 bt2 oz) [(6, vI 0), (5, vI 1), (0, .ref scr), (1, .ref (a 0)), (2, .ref (b 0)), (3, .ref o), (4, vI i)] [vI 1] 922
    refine z_iload C dL_law_922 1 rfl ?_
    refine z_icmp_eq C (by decide) (by decide) (tgt := 929) dL_law_924 (by decide) (fun _ => ?_) (fun hc => absurd rfl hc)
    refine z_iload C dL_law_929 1 rfl ?_
    refine z_if_ne C (by decide) (tgt := 946) dL_law_931 (by decide) (fun hc_4 => ?_) (fun hc_4 => ?_)
    rotate_left; · exact absurd hc_4 (by decide)
    refine z_goto C (tgt := 949) dL_law_946 (by decide) ?_
    refine z_lsub C [2, 3, 4, 5, 6] rfl ?_
    exact KK _ _ _ _ _ _ _ _ _ _ _ _ _ _ _ _ _ _ _ _ _ _ _ _ _ _ _ _ _ _ _ _ (by omega) (by omega) (LI_mk ⟨hkd, hco⟩ (hrw) (hsz) (hps) (hdm) (⟨rfl, rfl, rfl, rfl⟩) (hPX) (hSA) (⟨hBT, hB2⟩) (⟨hOR, hOZ, h8, hLn⟩))
