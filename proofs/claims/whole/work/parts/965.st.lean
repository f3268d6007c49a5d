theorem lw_arr {args : Array Value} {s : State} {ty : FieldType} (h : (Cond.arrayClass ty).before args s = true) (hr : ∀ cA, s.vm.findClass ("[" ++ ty.toString) = some cA → va_RA s cA ty) : ∃ cA : ClassId, ArrOfT s cA ty ∧ va_RA s cA ty := by
  obtain ⟨cA, kA, comp, h1, h2, h3⟩ := Cond.arrayClass_spec h
  exact ⟨cA, fun n z => ⟨fun k h => (by cases h), kA, h2, comp, h3⟩, hr cA h1⟩
theorem lw_u0 : (∀ w ∈ u_ws RJ0 TJ0 2, w ∈ lw_tbl) ∧ Cond.instantiable RJ0 4 ∈ lw_tbl := by decide +kernel
theorem lw_u1 : (∀ w ∈ u_ws RJx00060 TJx00060 6, w ∈ lw_tbl) ∧ Cond.instantiable RJx00060 6 ∈ lw_tbl := by decide +kernel
theorem lw_u2 : (∀ w ∈ u_ws RX0 TX0 3, w ∈ lw_tbl) ∧ Cond.instantiable RX0 3 ∈ lw_tbl := by decide +kernel
theorem lw_u3 : (∀ w ∈ u_ws RX1 TX1 2, w ∈ lw_tbl) ∧ Cond.instantiable RX1 2 ∈ lw_tbl := by decide +kernel
theorem lw_u4 : (∀ w ∈ u_ws RX2 TX2 5, w ∈ lw_tbl) ∧ Cond.instantiable RX2 5 ∈ lw_tbl := by decide +kernel
theorem lw_u5 : (∀ w ∈ u_ws RX3 TX3 9, w ∈ lw_tbl) ∧ Cond.instantiable RX3 9 ∈ lw_tbl := by decide +kernel
theorem lw_u6 : (∀ w ∈ u_ws RX4 TX4 5, w ∈ lw_tbl) ∧ Cond.instantiable RX4 5 ∈ lw_tbl := by decide +kernel
theorem lw_u7 : (∀ w ∈ u_ws RX5 TX5 5, w ∈ lw_tbl) ∧ Cond.instantiable RX5 5 ∈ lw_tbl := by decide +kernel
theorem lw_u8 : (∀ w ∈ u_ws RX6 TX6 4, w ∈ lw_tbl) ∧ Cond.instantiable RX6 4 ∈ lw_tbl := by decide +kernel
theorem lw_u9 : (∀ w ∈ u_ws RX7 TX7 8, w ∈ lw_tbl) ∧ Cond.instantiable RX7 8 ∈ lw_tbl := by decide +kernel
theorem lw_u10 : (∀ w ∈ u_ws RX8 TX8 22, w ∈ lw_tbl) ∧ Cond.instantiable RX8 22 ∈ lw_tbl := by decide +kernel
theorem lw_K {args : Array Value} {s : State} (hts : ∀ w ∈ lw_tbl, w.before args s = true) : ∃ (D : va_G) (cy : Nat → ClassId), va_K D vwCl (zT cy) s := by
  have h : ∀ i : Nat, ∃ x : ClassId × (Nat → Nat), ∀ q : vw_C, vwCl[i]? = some q → u_Kn s q.1 q.2.1 q.2.2 x.1 x.2 := by
    intro i
    match i with
    | 0 => obtain ⟨cC, iS, hk⟩ := u_known (C := RJ0) (T := TJ0) (N := 2) (n := 4) hts lw_u0.1 (hts _ lw_u0.2); exact ⟨(cC, iS), fun q hq => by cases hq; exact hk⟩
    | 1 => obtain ⟨cC, iS, hk⟩ := u_known (C := RJx00060) (T := TJx00060) (N := 6) (n := 6) hts lw_u1.1 (hts _ lw_u1.2); exact ⟨(cC, iS), fun q hq => by cases hq; exact hk⟩
    | 2 => obtain ⟨cC, iS, hk⟩ := u_known (C := RX0) (T := TX0) (N := 3) (n := 3) hts lw_u2.1 (hts _ lw_u2.2); exact ⟨(cC, iS), fun q hq => by cases hq; exact hk⟩
    | 3 => obtain ⟨cC, iS, hk⟩ := u_known (C := RX1) (T := TX1) (N := 2) (n := 2) hts lw_u3.1 (hts _ lw_u3.2); exact ⟨(cC, iS), fun q hq => by cases hq; exact hk⟩
    | 4 => obtain ⟨cC, iS, hk⟩ := u_known (C := RX2) (T := TX2) (N := 5) (n := 5) hts lw_u4.1 (hts _ lw_u4.2); exact ⟨(cC, iS), fun q hq => by cases hq; exact hk⟩
    | 5 => obtain ⟨cC, iS, hk⟩ := u_known (C := RX3) (T := TX3) (N := 9) (n := 9) hts lw_u5.1 (hts _ lw_u5.2); exact ⟨(cC, iS), fun q hq => by cases hq; exact hk⟩
    | 6 => obtain ⟨cC, iS, hk⟩ := u_known (C := RX4) (T := TX4) (N := 5) (n := 5) hts lw_u6.1 (hts _ lw_u6.2); exact ⟨(cC, iS), fun q hq => by cases hq; exact hk⟩
    | 7 => obtain ⟨cC, iS, hk⟩ := u_known (C := RX5) (T := TX5) (N := 5) (n := 5) hts lw_u7.1 (hts _ lw_u7.2); exact ⟨(cC, iS), fun q hq => by cases hq; exact hk⟩
    | 8 => obtain ⟨cC, iS, hk⟩ := u_known (C := RX6) (T := TX6) (N := 4) (n := 4) hts lw_u8.1 (hts _ lw_u8.2); exact ⟨(cC, iS), fun q hq => by cases hq; exact hk⟩
    | 9 => obtain ⟨cC, iS, hk⟩ := u_known (C := RX7) (T := TX7) (N := 8) (n := 8) hts lw_u9.1 (hts _ lw_u9.2); exact ⟨(cC, iS), fun q hq => by cases hq; exact hk⟩
    | 10 => obtain ⟨cC, iS, hk⟩ := u_known (C := RX8) (T := TX8) (N := 22) (n := 22) hts lw_u10.1 (hts _ lw_u10.2); exact ⟨(cC, iS), fun q hq => by cases hq; exact hk⟩
    | i + 11 => exact ⟨(0, fun _ => 0), fun q hq => by simp [vwCl] at hq⟩
  obtain ⟨F, hF⟩ := Classical.axiomOfChoice h
  obtain ⟨c0, a0, b0⟩ := lw_arr (ty := .byte) (hts _ (by decide +kernel)) (fun _ h => h)
  obtain ⟨c1, a1, b1⟩ := lw_arr (ty := .int) (hts _ (by decide +kernel)) (fun _ h => h)
  obtain ⟨c2, a2, b2⟩ := lw_arr (ty := .long) (hts _ (by decide +kernel)) (fun _ h => h)
  obtain ⟨c3, a3, b3⟩ := lw_arr (ty := .boolean) (hts _ (by decide +kernel)) (fun _ h => h)
  refine ⟨(fun i => (F i).1, fun i => (F i).2), fun i => if i = 0 then c0 else if i = 1 then c1 else if i = 2 then c2 else c3, fun i q hq => hF i q hq, fun k q hq => ?_⟩
  match k, hq with
  | 0, hq => cases hq; exact ⟨a0, b0⟩
  | 1, hq => cases hq; exact ⟨a1, b1⟩
  | 2, hq => cases hq; exact ⟨a2, b2⟩
  | 3, hq => cases hq; exact ⟨a3, b3⟩
  | k + 4, hq => simp [zT] at hq
theorem lw_tab {args : Array Value} {s : State} {A : Nat → Prop} {n d : String} {ty : FieldType} {N : Nat} {f : Nat → Int} (hA : ∀ a : Nat, a < s.heap.size → ¬ A a) (hN : N < 2 ^ 31) (hl : (Cond.laysStatic "FaxFilter" n d).before args s = true) (hini : (Cond.initialized "FaxFilter").before args s = true) (harr : (Cond.arrayOf (.static "FaxFilter" n d) ty).before args s = true) (hlen : (Cond.eq (.length (.static "FaxFilter" n d)) (.int (Int32.ofNat N))).before args s = true) (hel : ∀ j : Nat, j < N → (Cond.eq (.elem (.static "FaxFilter" n d) (.int (Int32.ofNat j))) (.int (Int32.ofInt (f j)))).before args s = true) : ∃ t : Nat, zE1 n d ty t N f A s := by
  obtain ⟨t, h1, h2⟩ := va_Tof (f := fun j => vI (f j)) hN harr (va_eqt hlen) (fun j hj => va_eqt (hel j hj)) hA
  exact ⟨t, va_Zof hl hini h1 hA, h2⟩
def lw_gv : List Cond := flatC (Jvm.Cond.and given_1 narrow_1)
theorem lw_g0 : Cond.arrayOf (.static "FaxFilter" "WAY_CODES" "[I") .int ∈ lw_gv ∧ Cond.eq (.length (.static "FaxFilter" "WAY_CODES" "[I")) (.int (Int32.ofNat 9)) ∈ lw_gv ∧ Cond.laysStatic "FaxFilter" "WAY_CODES" "[I" ∈ lw_tbl := by decide +kernel
theorem lw_e0 : ∀ j : Nat, j < 9 → Cond.eq (.elem (.static "FaxFilter" "WAY_CODES" "[I") (.int (Int32.ofNat j))) (.int (Int32.ofInt (wayC j))) ∈ lw_gv := by decide +kernel
theorem lw_g1 : Cond.arrayOf (.static "FaxFilter" "WAY_BITS" "[I") .int ∈ lw_gv ∧ Cond.eq (.length (.static "FaxFilter" "WAY_BITS" "[I")) (.int (Int32.ofNat 9)) ∈ lw_gv ∧ Cond.laysStatic "FaxFilter" "WAY_BITS" "[I" ∈ lw_tbl := by decide +kernel
theorem lw_e1 : ∀ j : Nat, j < 9 → Cond.eq (.elem (.static "FaxFilter" "WAY_BITS" "[I") (.int (Int32.ofNat j))) (.int (Int32.ofInt (wayB j))) ∈ lw_gv := by decide +kernel
theorem lw_g2 : Cond.arrayOf (.static "FaxFilter" "WHITE_BITS" "[B") .byte ∈ lw_gv ∧ Cond.eq (.length (.static "FaxFilter" "WHITE_BITS" "[B")) (.int (Int32.ofNat 74)) ∈ lw_gv ∧ Cond.laysStatic "FaxFilter" "WHITE_BITS" "[B" ∈ lw_tbl := by decide +kernel
theorem lw_e2 : ∀ j : Nat, j < 74 → Cond.eq (.elem (.static "FaxFilter" "WHITE_BITS" "[B") (.int (Int32.ofNat j))) (.int (Int32.ofInt (lenW j))) ∈ lw_gv := by decide +kernel
theorem lw_g3 : Cond.arrayOf (.static "FaxFilter" "DARK_BITS" "[B") .byte ∈ lw_gv ∧ Cond.eq (.length (.static "FaxFilter" "DARK_BITS" "[B")) (.int (Int32.ofNat 74)) ∈ lw_gv ∧ Cond.laysStatic "FaxFilter" "DARK_BITS" "[B" ∈ lw_tbl := by decide +kernel
theorem lw_e3 : ∀ j : Nat, j < 74 → Cond.eq (.elem (.static "FaxFilter" "DARK_BITS" "[B") (.int (Int32.ofNat j))) (.int (Int32.ofInt (lenD j))) ∈ lw_gv := by decide +kernel
theorem lw_E {args : Array Value} {s : State} {A : Nat → Prop} (hA : ∀ a : Nat, a < s.heap.size → ¬ A a) (hts : ∀ w ∈ lw_tbl, w.before args s = true) (hs : ∀ w ∈ lw_gv, w.before args s = true) : ∃ tw : Nat → Nat, zE tw A s := by
  obtain ⟨t0, h0⟩ := lw_tab (A := A) (n := "WAY_CODES") (d := "[I") (ty := .int) (N := 9) (f := wayC) hA (by decide) (hts _ lw_g0.2.2) (hts _ (by decide +kernel)) (hs _ lw_g0.1) (hs _ lw_g0.2.1) (fun j hj => hs _ (lw_e0 j hj))
  obtain ⟨t1, h1⟩ := lw_tab (A := A) (n := "WAY_BITS") (d := "[I") (ty := .int) (N := 9) (f := wayB) hA (by decide) (hts _ lw_g1.2.2) (hts _ (by decide +kernel)) (hs _ lw_g1.1) (hs _ lw_g1.2.1) (fun j hj => hs _ (lw_e1 j hj))
  obtain ⟨t2, h2⟩ := lw_tab (A := A) (n := "WHITE_BITS") (d := "[B") (ty := .byte) (N := 74) (f := lenW) hA (by decide) (hts _ lw_g2.2.2) (hts _ (by decide +kernel)) (hs _ lw_g2.1) (hs _ lw_g2.2.1) (fun j hj => hs _ (lw_e2 j hj))
  obtain ⟨t3, h3⟩ := lw_tab (A := A) (n := "DARK_BITS") (d := "[B") (ty := .byte) (N := 74) (f := lenD) hA (by decide) (hts _ lw_g3.2.2) (hts _ (by decide +kernel)) (hs _ lw_g3.1) (hs _ lw_g3.2.1) (fun j hj => hs _ (lw_e3 j hj))
  exact ⟨fun i => if i = 0 then t0 else if i = 1 then t1 else if i = 2 then t2 else t3, va_Nw.of (by decide) (hts _ (by decide +kernel)), va_Nw.of (by decide) (hts _ (by decide +kernel)), va_Nw.of (by decide) (hts _ (by decide +kernel)), va_Nw.of (by decide) (hts _ (by decide +kernel)), va_Nw.of (by decide) (hts _ (by decide +kernel)), h0, h1, h2, h3⟩
theorem lw_s1 : ∀ q ∈ strL, Cond.exactly (.string RX7 q.1) "java/lang/String" ∈ lw_gv ∧ Cond.stringRef RX7 q.1 q.2 ∈ lw_tbl := by decide +kernel
theorem lw_s2 : ∀ w ∈ zxBI ++ (zxBA ++ zxBU), w ∈ lw_tbl := by decide +kernel
theorem lw_s3 : Cond.not (.castable "java/lang/IllegalArgumentException" "java/lang/ArrayIndexOutOfBoundsException") ∈ lw_gv ∧ Cond.laysStatic Bundle.tN "UNASSIGNED_STACK" Bundle.steD ∈ lw_tbl ∧ Cond.laysStatic Bundle.tN "SUPPRESSED_SENTINEL" Bundle.listD ∈ lw_tbl ∧ Cond.initialized Bundle.tN ∈ lw_tbl ∧ Cond.isRef (.static Bundle.tN "UNASSIGNED_STACK" Bundle.steD) ∈ lw_gv ∧ Cond.isRef (.static Bundle.tN "SUPPRESSED_SENTINEL" Bundle.listD) ∈ lw_gv := by decide +kernel
theorem lw_X {args : Array Value} {s : State} {A : Nat → Prop} (hA : ∀ a : Nat, a < s.heap.size → ¬ A a) (hts : ∀ w ∈ lw_tbl, w.before args s = true) (hs : ∀ w ∈ lw_gv, w.before args s = true) : ∃ sr : Nat → Nat, zXL sr A s := by
  have h : ∀ k : Nat, ∃ q : Nat, ∀ tx : String, (k, tx) ∈ strL → (Term.string RX7 k).eval args s none [] s = some (.ref q) := by
    intro k
    by_cases hk : ∃ tx : String, (k, tx) ∈ strL
    · obtain ⟨tx, hm⟩ := hk
      obtain ⟨q, c, cell, kk, q1, -⟩ := Cond.exactly_spec (args := args) (first := s) (o := none) (s := s) (idx := []) (t := .string RX7 k) (cls := "java/lang/String") (hs _ (lw_s1 _ hm).1)
      exact ⟨q, fun _ _ => q1⟩
    · exact ⟨0, fun tx hm => absurd ⟨tx, hm⟩ hk⟩
  obtain ⟨sr, hsr⟩ := Classical.axiomOfChoice h
  refine ⟨sr, ⟨vx_Zqof (hts _ lw_s3.2.1) (hts _ lw_s3.2.2.2.1) (hs _ lw_s3.2.2.2.2.1) hA, vx_Zqof (hts _ lw_s3.2.2.1) (hts _ lw_s3.2.2.2.1) (hs _ lw_s3.2.2.2.2.2) hA⟩, fun q hq => vk_R.of (hts _ (lw_s1 q hq).2) (hsr q.1 q.2 hq), fun w hw => va_Nw.of (zN_onT _ hw) (hts _ (lw_s2 w hw)), va_Nc.of (hs _ lw_s3.1)⟩
