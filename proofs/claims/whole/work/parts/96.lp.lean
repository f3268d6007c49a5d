set_option maxHeartbeats 2000000 in
set_option maxRecDepth 100000 in
/-- the law's loop -/
theorem lw_loop {V : zV} {p : Program} {l : Launch} {e : Env} {s : State} {m : MethodId} {args : Array Value} {below : List Frame} {meth : Method} {c : Code} {D : va_G} {cy : Nat → ClassId} {tw sr : Nat → Nat} {A : Nat → Prop} {Q : State → Prop} {scr N : Nat} {zx : Nat → Int} (H : LC V p l e s m args below meth c D cy tw sr A Q scr N zx) (a b : Nat → Nat) (o : Nat) {kd co : Int} (END : ∀ (k n : Nat) (ws : va_W) (lv : List (Nat × Value)), k ≤ 600384 → n ≤ 7290968 → V k n ws lv [] 955) : ∀ (f : Nat) (k n : Nat) (i : Int) (fo : Nat → BitVec 64) (mk al dz rd : Bool) (rw : Int) (wo : Nat → BitVec 64) (sa : Nat → Int) (sz ps : Int) (bt : Nat → Int) (ou : Nat → BitVec 64) (L : List Bool) (dm : Int) (pl : Bool) (re : Int) (cu : Bool) (th sx aa : Int) (dk fi : Bool) (bb cz : Int) (hm : Bool) (se da : Nat → Bool) (sa2 bt2 : Nat → Int) (oz : Nat → Bool), (2 ≤ i ∧ i ≤ 330) → (5 * (k : Int) ≤ 148 + i ∧ 5 * (n : Int) ≤ 881440 + 6 * i) → ((N : Int) + 5 - i).toNat < f → LI kd co mk al dz rd rw wo sa sz ps bt ou L dm se da sa2 bt2 oz → V k n (([(o, aJ (cy 2) 1 fo)] ++ CW cy a kd co mk al dz rd rw wo sa sz ps bt ou ((L.length : Nat) : Int) dm pl re cu) ++ MW cy b kd co th rw sz ((L.length : Nat) : Int) ps dm sx aa dk fi bb cz hm se da sa2 bt2 oz) [(0, .ref scr), (1, .ref (a 0)), (2, .ref (b 0)), (3, .ref o), (4, vI i)] [] 43 := by
  intro f
  induction f with
  | zero => intro k n i fo mk al dz rd rw wo sa sz ps bt ou L dm pl re cu th sx aa dk fi bb cz hm se da sa2 bt2 oz _ _ hf _; exact absurd hf (Nat.not_lt_zero _)
  | succ f ih =>
    intro k n i fo mk al dz rd rw wo sa sz ps bt ou L dm pl re cu th sx aa dk fi bb cz hm se da sa2 bt2 oz h0 h1 hf hI
    have H0 := H
    obtain ⟨C, XL, hX, hbl, hbA, hN, hzx, hl9⟩ := H
    refine z_iload C dL_law_43 4 rfl ?_
    refine z_aload_n C dL_law_45 0 rfl ?_
    refine z_slen C hX hbl hbA dL_law_46 ?_
    refine z_iconst C (z := 5) dL_law_47 ?_
    refine z_isub C dL_law_48 ?_
    refine z_icmp_gt C (by omega) (by omega) (tgt := 955) dL_law_49 (by decide) (fun hc => END _ _ _ _ (by omega) (by omega)) (fun hc => ?_)
    have KK : LKK V cy a b o scr i k n kd co := fun k2 n2 fo2 mk2 al2 dz2 rd2 rw2 wo2 sa2 sz2 ps2 bt2 ou2 L2 dm2 pl2 re2 cu2 th2 sx2 aa2 dk2 fi2 bb2 cz2 hm2 se2 da2 sa22 bt22 oz2 hk2 hn2 hI2 => by
      refine z_iinc C (lv' := [(4, vI (i + 5)), (0, .ref scr), (1, .ref (a 0)), (2, .ref (b 0)), (3, .ref o)]) dL_law_949 4 rfl (by decide) rfl ?_
      refine z_goto C (tgt := 43) dL_law_952 (by decide) ?_
      refine z_lsub C [1, 2, 3, 4, 0] rfl ?_
      exact ih k2 n2 (i + 5) _ _ _ _ _ _ _ _ _ _ _ _ _ _ _ _ _ _ _ _ _ _ _ _ _ _ _ _ _ _ (by omega) (by omega) (by omega) hI2
    obtain ⟨z0, ez0, hz0⟩ : ∃ z, zx i.toNat = z ∧ (-2147483648 ≤ z ∧ z < 2147483648) := ⟨_, rfl, hzx _⟩
    refine z_aload_n C dL_law_52 0 rfl ?_
    refine z_iload C dL_law_53 4 rfl ?_
    refine z_sldv C hX hbl hbA ez0 (by omega) (by omega) hN dL_law_55 ?_
    refine z_bipush C (z := 15) dL_law_56 (by decide) ?_
    refine z_iand C 4 dL_law_58 (by decide) (by decide) ?_
    obtain ⟨w, ew⟩ : ∃ w, w = z0 % 2 ^ 4 := ⟨_, rfl⟩
    rw [← ew]
    have hk9 : k + 1 ≤ 600384 ∧ n + 6 ≤ 7290968 := by omega
    have hi9 : 0 ≤ i ∧ i + 5 ≤ (N : Int) := by omega
    have hw9 : -2147483648 ≤ w ∧ w < 2147483648 := by omega
    rcases (by omega : w = 0 ∨ w = 1 ∨ w = 2 ∨ w = 3 ∨ w = 4 ∨ w = 5 ∨ w = 6 ∨ w = 7 ∨ w = 8 ∨ w = 9 ∨ w = 10 ∨ w = 11 ∨ w = 12 ∨ w = 13 ∨ w = 14 ∨ w = 15) with hq9 | hq9 | hq9 | hq9 | hq9 | hq9 | hq9 | hq9 | hq9 | hq9 | hq9 | hq9 | hq9 | hq9 | hq9 | hq9
    · exact z_tabIn C hw9 (off := 77) (tgt := 136) dL_law_59 (by omega) (by omega) (by rw [hq9]; rfl) (by decide) (lw_told H0 a b o hk9 hi9 fo mk al dz rd rw wo sa sz ps bt ou L dm pl re cu th sx aa dk fi bb cz hm se da sa2 bt2 oz hI KK)
    · exact z_tabIn C hw9 (off := 133) (tgt := 192) dL_law_59 (by omega) (by omega) (by rw [hq9]; rfl) (by decide) (lw_setting H0 a b o hk9 hi9 fo mk al dz rd rw wo sa sz ps bt ou L dm pl re cu th sx aa dk fi bb cz hm se da sa2 bt2 oz hI KK)
    · exact z_tabIn C hw9 (off := 197) (tgt := 256) dL_law_59 (by omega) (by omega) (by rw [hq9]; rfl) (by decide) (lw_add H0 a b o hk9 hi9 fo mk al dz rd rw wo sa sz ps bt ou L dm pl re cu th sx aa dk fi bb cz hm se da sa2 bt2 oz hI KK)
    · exact z_tabIn C hw9 (off := 266) (tgt := 325) dL_law_59 (by omega) (by omega) (by rw [hq9]; rfl) (by decide) (lw_take H0 a b o hk9 hi9 fo mk al dz rd rw wo sa sz ps bt ou L dm pl re cu th sx aa dk fi bb cz hm se da sa2 bt2 oz hI KK)
    · exact z_tabIn C hw9 (off := 279) (tgt := 338) dL_law_59 (by omega) (by omega) (by rw [hq9]; rfl) (by decide) (lw_drop H0 a b o hk9 hi9 fo mk al dz rd rw wo sa sz ps bt ou L dm pl re cu th sx aa dk fi bb cz hm se da sa2 bt2 oz hI KK)
    · exact z_tabIn C hw9 (off := 290) (tgt := 349) dL_law_59 (by omega) (by omega) (by rw [hq9]; rfl) (by decide) (lw_read H0 a b o hk9 hi9 fo mk al dz rd rw wo sa sz ps bt ou L dm pl re cu th sx aa dk fi bb cz hm se da sa2 bt2 oz hI KK)
    · exact z_tabIn C hw9 (off := 346) (tgt := 405) dL_law_59 (by omega) (by omega) (by rw [hq9]; rfl) (by decide) (lw_state H0 a b o hk9 hi9 fo mk al dz rd rw wo sa sz ps bt ou L dm pl re cu th sx aa dk fi bb cz hm se da sa2 bt2 oz hI KK)
    · exact z_tabIn C hw9 (off := 402) (tgt := 461) dL_law_59 (by omega) (by omega) (by rw [hq9]; rfl) (by decide) (lw_row H0 a b o hk9 hi9 fo mk al dz rd rw wo sa sz ps bt ou L dm pl re cu th sx aa dk fi bb cz hm se da sa2 bt2 oz hI KK)
    · exact z_tabIn C hw9 (off := 446) (tgt := 505) dL_law_59 (by omega) (by omega) (by rw [hq9]; rfl) (by decide) (lw_clear H0 a b o hk9 hi9 fo mk al dz rd rw wo sa sz ps bt ou L dm pl re cu th sx aa dk fi bb cz hm se da sa2 bt2 oz hI KK)
    · exact z_tabIn C hw9 (off := 457) (tgt := 516) dL_law_59 (by omega) (by omega) (by rw [hq9]; rfl) (by decide) (lw_put H0 a b o hk9 hi9 fo mk al dz rd rw wo sa sz ps bt ou L dm pl re cu th sx aa dk fi bb cz hm se da sa2 bt2 oz hI KK)
    · exact z_tabIn C hw9 (off := 545) (tgt := 604) dL_law_59 (by omega) (by omega) (by rw [hq9]; rfl) (by decide) (lw_bit H0 a b o hk9 hi9 fo mk al dz rd rw wo sa sz ps bt ou L dm pl re cu th sx aa dk fi bb cz hm se da sa2 bt2 oz hI KK)
    · exact z_tabIn C hw9 (off := 613) (tgt := 672) dL_law_59 (by omega) (by omega) (by rw [hq9]; rfl) (by decide) (lw_run H0 a b o hk9 hi9 fo mk al dz rd rw wo sa sz ps bt ou L dm pl re cu th sx aa dk fi bb cz hm se da sa2 bt2 oz hI KK)
    · exact z_tabIn C hw9 (off := 681) (tgt := 740) dL_law_59 (by omega) (by omega) (by rw [hq9]; rfl) (by decide) (lw_runs H0 a b o hk9 hi9 fo mk al dz rd rw wo sa sz ps bt ou L dm pl re cu th sx aa dk fi bb cz hm se da sa2 bt2 oz hI KK)
    · exact z_tabIn C hw9 (off := 737) (tgt := 796) dL_law_59 (by omega) (by omega) (by rw [hq9]; rfl) (by decide) (lw_write H0 a b o hk9 hi9 fo mk al dz rd rw wo sa sz ps bt ou L dm pl re cu th sx aa dk fi bb cz hm se da sa2 bt2 oz hI KK)
    · exact z_tabIn C hw9 (off := 750) (tgt := 809) dL_law_59 (by omega) (by omega) (by rw [hq9]; rfl) (by decide) (lw_octet H0 a b o hk9 hi9 fo mk al dz rd rw wo sa sz ps bt ou L dm pl re cu th sx aa dk fi bb cz hm se da sa2 bt2 oz hI KK)
    · exact z_tabIn C hw9 (off := 806) (tgt := 865) dL_law_59 (by omega) (by omega) (by rw [hq9]; rfl) (by decide) (lw_code H0 a b o hk9 hi9 fo mk al dz rd rw wo sa sz ps bt ou L dm pl re cu th sx aa dk fi bb cz hm se da sa2 bt2 oz hI KK)
