/-! rows of what is made; constructors; calls on a part of the world -/
theorem va_fr {D : va_G} {cl : List vw_C} {A : Nat → Prop} {X W0 Y W1 : va_W} {H H1 : Heap} (hP : va_P D cl ((X ++ W0) ++ Y) H) (hD : va_D A ((X ++ W0) ++ Y)) (hA : ∀ q, va_A W0 H.size q → A q) (hP1 : va_P D cl W1 H1) (hD1 : va_D (va_A W0 H.size) W1) (hk : ∀ q, q < H.size → ¬ va_A W0 H.size q → H1[q]? = H[q]?) : va_P D cl ((X ++ W1) ++ Y) H1 ∧ va_D A ((X ++ W1) ++ Y) := by
  have hP2 := hP.swap
  have hD2 := hD.swap
  have hPr : va_P D cl (X ++ Y) H := fun k q h => hP2 k q (by rw [List.getElem?_append_left (List.getElem?_eq_some_iff.mp h).1]; exact h)
  have hDr : va_D A (X ++ Y) := ⟨fun i j p q h1 h2 => hD2.1 i j p q (by rw [List.getElem?_append_left (List.getElem?_eq_some_iff.mp h1).1]; exact h1) (by rw [List.getElem?_append_left (List.getElem?_eq_some_iff.mp h2).1]; exact h2), fun k q h => hD2.2 k q (by rw [List.getElem?_append_left (List.getElem?_eq_some_iff.mp h).1]; exact h)⟩
  have hno : ∀ (k : Nat) (q : Nat × va_E), (X ++ Y)[k]? = some q → ¬ va_A W0 H.size q.1 := fun k q h z => by
    have hlt := (hPr k q h).lt
    rcases z with ⟨j, w, z⟩ | z
    · have h1 := (List.getElem?_eq_some_iff.mp h).1
      have e := hD2.1 k ((X ++ Y).length + j) q (q.1, w) (by rw [List.getElem?_append_left h1]; exact h) (by rw [List.getElem?_append_right (by omega), Nat.add_sub_cancel_left]; exact z) rfl
      omega
    · omega
  have hPr1 : va_P D cl (X ++ Y) H1 := hPr.kept (fun k q h => hk q.1 ((hPr k q h).lt) (hno k q h))
  have hDx : ∀ (i j : Nat) (p q : Nat × va_E), (X ++ Y)[i]? = some p → W1[j]? = some q → p.1 ≠ q.1 := fun i j p q h1 h2 e => hno i p h1 (by rw [e]; exact hD1.2 j q h2)
  exact ⟨(hPr1.app hP1).swap, (hDr.app (hD1.weaken (fun _ q _ h => hA q.1 h)) hDx).swap⟩
theorem va_mid {D : va_G} {cl : List vw_C} {A : Nat → Prop} {X W0 Y : va_W} {H : Heap} (hP : va_P D cl ((X ++ W0) ++ Y) H) (hD : va_D A ((X ++ W0) ++ Y)) : va_P D cl W0 H ∧ va_D A W0 := by
  have hP2 := hP.swap
  have hD2 := hD.swap
  have e : ∀ j, ((X ++ Y) ++ W0)[(X ++ Y).length + j]? = W0[j]? := fun j => by rw [List.getElem?_append_right (by omega), Nat.add_sub_cancel_left]
  exact ⟨fun k q h => hP2 _ q (by rw [e]; exact h), fun i j p q h1 h2 h3 => by
    have := hD2.1 _ _ p q (by rw [e]; exact h1) (by rw [e]; exact h2) h3
    omega, fun k q h => hD2.2 _ q (by rw [e]; exact h)⟩
section ZNEW
variable {V : zV} {p : Program} {l : Launch} {e : Env} {R : Room} {s : State} {m : MethodId} {args : Array Value} {below : List Frame} {meth : Method} {c : Code} {D : va_G} {tys : List (ClassId × FieldType)} {tw : Nat → Nat} {A : Nat → Prop} {cc : ByteArray} {Ts : List Cond} {own : String} {nL : Nat} {ret : Option FieldType} {Q : State → Prop} {k n : Nat} {lv : List (Nat × Value)} {st : List Value} {pc : Nat} {ws : va_W}
theorem z_newaI (C : zX V p l e R s m args below meth c D tys tw A cc Ts own nL ret Q) {x : Int} (N : Nat) (hN : x = (N : Int)) (hN2 : N ≤ 50000000) {cA : ClassId} (ha : Cond.arrayClass .int ∈ Ts) (t0 : Nat) (ht : tys[t0]? = some (cA, .int)) (hcells : k + 1 ≤ R.cells) (hslots : n + N ≤ R.slots) (d : decode cc pc = .ok (.newarray .int, 2)) (kk : ∀ q : Nat, V (k + 1) (n + N) (ws ++ [(q, aI cA N (fun _ => 0))]) lv (.ref q :: st) (pc + 2)) : V k n ws lv (vI x :: st) pc := by
  obtain ⟨⟨hx, hb, hml, hown, hts⟩, hK, hE, hA, hr, hlk, rfl⟩ := C
  intro H locs ls hP hD hS hl
  subst hN
  refine va_newa (atype := .int) (ty := .int) (N' := N) (a0 := (N, .inl (fun i => Int32.ofInt ((fun _ => 0 : Nat → Int) i)))) hx hb (hts _ ha) rfl hK hP hD hS hA (fun cB => rfl) ?_ ?_ (by show N * 4 ≤ _; omega) hcells hslots d (fun q cB H1 hK1 hP1 hD1 hS1 => ?_)
  · have e := iI_lt (x := (N : Int)) (y := 0) (by omega) (by omega)
    exact fun z => absurd (e.mp z) (by omega)
  · show (Int32.ofInt (N : Int)).toNatClampNeg = N
    rw [iI_nat (by omega) (by omega), Int.toNat_natCast]
  · have h1 := (hK1.2 tys.length (cB, .int) (by rw [List.getElem?_append_right (Nat.le_refl _), Nat.sub_self]; rfl)).2
    have h2 := (hK.2 t0 _ ht).2
    have e : cB = cA := Option.some.inj (h1.symm.trans h2)
    subst e
    exact kk q H1 locs ls hP1 hD1 hS1 hl
theorem z_newaB (C : zX V p l e R s m args below meth c D tys tw A cc Ts own nL ret Q) {x : Int} (N : Nat) (hN : x = (N : Int)) (hN2 : N ≤ 50000000) {cA : ClassId} (ha : Cond.arrayClass .byte ∈ Ts) (t0 : Nat) (ht : tys[t0]? = some (cA, .byte)) (hcells : k + 1 ≤ R.cells) (hslots : n + N ≤ R.slots) (d : decode cc pc = .ok (.newarray .byte, 2)) (kk : ∀ q : Nat, V (k + 1) (n + N) (ws ++ [(q, aB cA N (fun _ => 0))]) lv (.ref q :: st) (pc + 2)) : V k n ws lv (vI x :: st) pc := by
  obtain ⟨⟨hx, hb, hml, hown, hts⟩, hK, hE, hA, hr, hlk, rfl⟩ := C
  intro H locs ls hP hD hS hl
  subst hN
  refine va_newa (atype := .byte) (ty := .byte) (N' := N) (a0 := (N, .inl (fun i => Int32.ofInt (sb ((fun _ => 0 : Nat → Int) i))))) hx hb (hts _ ha) rfl hK hP hD hS hA (fun cB => rfl) ?_ ?_ (by show N * 1 ≤ _; omega) hcells hslots d (fun q cB H1 hK1 hP1 hD1 hS1 => ?_)
  · have e := iI_lt (x := (N : Int)) (y := 0) (by omega) (by omega)
    exact fun z => absurd (e.mp z) (by omega)
  · show (Int32.ofInt (N : Int)).toNatClampNeg = N
    rw [iI_nat (by omega) (by omega), Int.toNat_natCast]
  · have h1 := (hK1.2 tys.length (cB, .byte) (by rw [List.getElem?_append_right (Nat.le_refl _), Nat.sub_self]; rfl)).2
    have h2 := (hK.2 t0 _ ht).2
    have e : cB = cA := Option.some.inj (h1.symm.trans h2)
    subst e
    exact kk q H1 locs ls hP1 hD1 hS1 hl
theorem z_newaZ (C : zX V p l e R s m args below meth c D tys tw A cc Ts own nL ret Q) {x : Int} (N : Nat) (hN : x = (N : Int)) (hN2 : N ≤ 50000000) {cA : ClassId} (ha : Cond.arrayClass .boolean ∈ Ts) (t0 : Nat) (ht : tys[t0]? = some (cA, .boolean)) (hcells : k + 1 ≤ R.cells) (hslots : n + N ≤ R.slots) (d : decode cc pc = .ok (.newarray .boolean, 2)) (kk : ∀ q : Nat, V (k + 1) (n + N) (ws ++ [(q, aZ cA N (fun _ => false))]) lv (.ref q :: st) (pc + 2)) : V k n ws lv (vI x :: st) pc := by
  obtain ⟨⟨hx, hb, hml, hown, hts⟩, hK, hE, hA, hr, hlk, rfl⟩ := C
  intro H locs ls hP hD hS hl
  subst hN
  refine va_newa (atype := .boolean) (ty := .boolean) (N' := N) (a0 := (N, .inl (fun i => Int32.ofInt (b2i ((fun _ => false : Nat → Bool) i))))) hx hb (hts _ ha) rfl hK hP hD hS hA (fun cB => rfl) ?_ ?_ (by show N * 1 ≤ _; omega) hcells hslots d (fun q cB H1 hK1 hP1 hD1 hS1 => ?_)
  · have e := iI_lt (x := (N : Int)) (y := 0) (by omega) (by omega)
    exact fun z => absurd (e.mp z) (by omega)
  · show (Int32.ofInt (N : Int)).toNatClampNeg = N
    rw [iI_nat (by omega) (by omega), Int.toNat_natCast]
  · have h1 := (hK1.2 tys.length (cB, .boolean) (by rw [List.getElem?_append_right (Nat.le_refl _), Nat.sub_self]; rfl)).2
    have h2 := (hK.2 t0 _ ht).2
    have e : cB = cA := Option.some.inj (h1.symm.trans h2)
    subst e
    exact kk q H1 locs ls hP1 hD1 hS1 hl
theorem z_newaJ (C : zX V p l e R s m args below meth c D tys tw A cc Ts own nL ret Q) {x : Int} (N : Nat) (hN : x = (N : Int)) (hN2 : N ≤ 50000000) {cA : ClassId} (ha : Cond.arrayClass .long ∈ Ts) (t0 : Nat) (ht : tys[t0]? = some (cA, .long)) (hcells : k + 1 ≤ R.cells) (hslots : n + N ≤ R.slots) (d : decode cc pc = .ok (.newarray .long, 2)) (kk : ∀ q : Nat, V (k + 1) (n + N) (ws ++ [(q, aJ cA N (fun _ => 0#64))]) lv (.ref q :: st) (pc + 2)) : V k n ws lv (vI x :: st) pc := by
  obtain ⟨⟨hx, hb, hml, hown, hts⟩, hK, hE, hA, hr, hlk, rfl⟩ := C
  intro H locs ls hP hD hS hl
  subst hN
  refine va_newa (atype := .long) (ty := .long) (N' := N) (a0 := (N, .inr (.inl (fun i => Int64.ofBitVec ((fun _ => 0#64 : Nat → BitVec 64) i))))) hx hb (hts _ ha) rfl hK hP hD hS hA (fun cB => rfl) ?_ ?_ (by show N * 8 ≤ _; omega) hcells hslots d (fun q cB H1 hK1 hP1 hD1 hS1 => ?_)
  · have e := iI_lt (x := (N : Int)) (y := 0) (by omega) (by omega)
    exact fun z => absurd (e.mp z) (by omega)
  · show (Int32.ofInt (N : Int)).toNatClampNeg = N
    rw [iI_nat (by omega) (by omega), Int.toNat_natCast]
  · have h1 := (hK1.2 tys.length (cB, .long) (by rw [List.getElem?_append_right (Nat.le_refl _), Nat.sub_self]; rfl)).2
    have h2 := (hK.2 t0 _ ht).2
    have e : cB = cA := Option.some.inj (h1.symm.trans h2)
    subst e
    exact kk q H1 locs ls hP1 hD1 hS1 hl
theorem z_new (C : zX V p l e R s m args below meth c D tys tw A cc Ts own nL ret Q) {CN : String} {T : u_T} {N ci index : Nat} (hin : ∀ w ∈ u_ws CN T N, w ∈ Ts) (ty : Nat → FieldType) (hty : ∀ k, k < N → parseFieldDescriptor (T k).2.2.1 = some (ty k)) (hc : vwCl[ci]? = some (CN, T, N)) (fs : List Value) (hcl : Cond.classLink own index CN ∈ Ts) (hinst : Cond.instantiable CN N ∈ Ts) (hini : Cond.initialized CN ∈ Ts) (hfs : ∀ j, j < N → defaultValue (ty j) = vp_V fs j) (hcells : k + 1 ≤ R.cells) (hslots : n + N ≤ R.slots) (d : decode cc pc = .ok (.new index, 3)) (kk : ∀ q : Nat, V (k + 1) (n + N) (ws ++ [(q, .inr (ci, fs))]) lv (.ref q :: st) (pc + 3)) : V k n ws lv st pc := by
  obtain ⟨⟨hx, hb, hml, hown, hts⟩, hK, hE, hA, hr, hlk, rfl⟩ := C
  intro H locs ls hP hD hS hl
  exact va_new hx hb hts hin ty hty hown (hts _ hcl) (hts _ hinst) (hts _ hini) hK hP hD hS hA hc hfs hcells hslots d (fun q H1 hP1 hD1 hS1 => kk q H1 locs ls hP1 hD1 hS1 hl)
theorem z_wid (C : zX V p l e R s m args below meth c D tys tw A cc Ts own nL ret Q) (k2 n2 : Nat) (h1 : k ≤ k2) (h2 : n ≤ n2) (kk : V k2 n2 ws lv st pc) : V k n ws lv st pc := by
  obtain ⟨⟨hx, hb, hml, hown, hts⟩, hK, hE, hA, hr, hlk, rfl⟩ := C
  intro H locs ls hP hD hS hl
  exact W.widen h1 h2 (kk H locs ls hP hD hS hl)
theorem z_psub (C : zX V p l e R s m args below meth c D tys tw A cc Ts own nL ret Q) {ws' : va_W} (is : List Nat) (h1 : is.filterMap (fun i => ws[i]?) = ws') (hn : va_nd is = true) (h2 : is.map (fun i => ws[i]?) = ws'.map some) (kk : V k n ws' lv st pc) : V k n ws lv st pc := by
  obtain ⟨⟨hx, hb, hml, hown, hts⟩, hK, hE, hA, hr, hlk, rfl⟩ := C
  intro H locs ls hP hD hS hl
  exact kk H locs ls (hP.sub is h1) (hD.sub is hn h2) hS hl
end ZNEW
section ZFR
variable {V : zV} {p : Program} {l : Launch} {e : Env} {R : Room} {s : State} {m : MethodId} {args : Array Value} {below : List Frame} {meth : Method} {c : Code} {D : va_G} {tys : List (ClassId × FieldType)} {tw : Nat → Nat} {A : Nat → Prop} {cc : ByteArray} {Ts : List Cond} {own : String} {nL : Nat} {ret : Option FieldType} {Q : State → Prop} {k n : Nat} {lv : List (Nat × Value)} {st : List Value} {pc : Nat}
variable {y : MethodName} {wsY : List Cond} {rm : Room} {X W0 Y : va_W} {As : List Value} {mc ms : Nat} {S : Type} {rv : S → Option Value} {wf : S → va_W} {post : S → Prop} {bytes : ByteArray} {maxL nA index : Nat} {retY : Option FieldType} {a : Nat}
theorem z_callVF (C : zX V p l e R s m args below meth c D tys tw A cc Ts own nL ret Q) {ci : Nat} {RC : String} {T : u_T} {N : Nat} {fs : List Value} (hM : zMet l y wsY rm D tys tw W0 (.ref a :: As) mc ms rv wf post) (hG : GoodIn Ts (wsV own index RC y wsY)) (kn : zKn y wsY bytes maxL retY nA) (hcls : y.cls = RC) (hR : rm.cells = mc ∧ rm.slots = ms ∧ rm.frames + 1 ≤ R.frames ∧ 8 + (maxL + 11) + rm.locals ≤ R.locals) (q0 : Nat) (he : W0[q0]? = some (a, .inr (ci, fs))) (hc : vwCl[ci]? = some (RC, T, N)) (hn : As.length = nA) (hst : (st.map fun v => v.category).sum ≤ 8) (hf : k + mc ≤ R.cells ∧ n + ms ≤ R.slots) (d : decode cc pc = .ok (.invokevirtual index, 3)) (kk : ∀ u : S, post u → V (k + mc) (n + ms) ((X ++ wf u) ++ Y) lv ((rv u).toList ++ st) (pc + 3)) : V k n ((X ++ W0) ++ Y) lv (As.reverse ++ .ref a :: st) pc := by
  obtain ⟨⟨hx, hb, hml, hown, hts⟩, hK, hE, hA, -, -, rfl⟩ := C
  obtain ⟨⟨ws', hw⟩, k1, k2, k3⟩ := kn
  intro H locs ls hP hD hS hl
  obtain ⟨hPc, hDc⟩ := va_mid hP hD
  have hf0 : ∀ q : Nat, va_A W0 H.size q → A q := by
    intro q h
    rcases h with ⟨j, w, h⟩ | h
    · exact hDc.2 j _ h
    · exact hA q (Nat.le_trans hS.1 h)
  have hr := va_runV (As := As) (rest := st) (nL := nL) (cc := cc) (Ts := Ts) (own := own) (g := F0 m pc ls (As.reverse ++ .ref a :: st)) ⟨hx, hb, hml, hown, hts⟩ (hM H.size) (cwV nA hts hG hw hR.1 hR.2.1 ⟨hcls, k1, k2, k3⟩ hR.2.2) ⟨zB_blind D tys tw W0 H.size _, va_recv hK hPc hc he, fun U hU hW => ⟨rfl, by rw [hU], by rw [hU]; exact hPc, va_K.moved hW.alike hK, hDc.weaken (fun _ _ _ _ => trivial), zE_move hW (fun q h1 h2 => by rw [hU]; exact hS.2.1 q h1 h2) hf0 hE⟩⟩ rfl hn hl.1 rfl (lv_room hst) d hf (p := p) (l := l) (e := e) (below := below) (meth := meth) (locs := locs)
  intro T hT X9
  obtain ⟨v, st₀, t, T', L, h0, X', hL, e1, e2, ⟨⟨u, hv, hp, hP1, hK1, hD1⟩, hz, hk1⟩, stp⟩ := hr T hT X9
  cases hv
  rw [h0] at hz hk1
  have hj := va_fr (H1 := T'.heap) hP hD hf0 (by rw [e1]; exact hP1) hD1 (fun q h1 h2 => by rw [e1]; exact hk1 q h1 h2)
  obtain ⟨t2, a1, b1⟩ := kk u hp T'.heap (locs ++ L) ls hj.1 hj.2 ⟨Nat.le_trans hS.1 (by rw [e1]; exact hz), fun q h1 h2 => by rw [e1, hk1 q (Nat.lt_of_lt_of_le h1 hS.1) (fun z => h2 (hf0 q z))]; exact hS.2.1 q h1 h2, fun q hq => by
      rcases List.mem_append.mp hq with h | h
      · exact hS.2.2 q h
      · exact hf0 _ (hL q h)⟩ hl T' rfl X'
  exact ⟨t2, stp t2 a1, b1⟩
theorem z_callSF (C : zX V p l e R s m args below meth c D tys tw A cc Ts own nL ret Q) (hM : zMet l y wsY rm D tys tw W0 As mc ms rv wf post) (hG : GoodIn Ts (va_wsS own index y wsY)) (kn : zKn y wsY bytes maxL retY nA) (hR : rm.cells = mc ∧ rm.slots = ms ∧ rm.frames + 1 ≤ R.frames ∧ 8 + (maxL + 11) + rm.locals ≤ R.locals) (hn : As.length = nA) (hst : (st.map fun v => v.category).sum ≤ 8) (hf : k + mc ≤ R.cells ∧ n + ms ≤ R.slots) (d : decode cc pc = .ok (.invokestatic index, 3)) (kk : ∀ u : S, post u → V (k + mc) (n + ms) ((X ++ wf u) ++ Y) lv ((rv u).toList ++ st) (pc + 3)) : V k n ((X ++ W0) ++ Y) lv (As.reverse ++ st) pc := by
  obtain ⟨⟨hx, hb, hml, hown, hts⟩, hK, hE, hA, -, -, rfl⟩ := C
  obtain ⟨⟨ws', hw⟩, k1, k2, k3⟩ := kn
  intro H locs ls hP hD hS hl
  obtain ⟨hPc, hDc⟩ := va_mid hP hD
  have hf0 : ∀ q : Nat, va_A W0 H.size q → A q := by
    intro q h
    rcases h with ⟨j, w, h⟩ | h
    · exact hDc.2 j _ h
    · exact hA q (Nat.le_trans hS.1 h)
  have hr := va_runS (As := As) (rest := st) (nL := nL) (cc := cc) (Ts := Ts) (own := own) (g := F0 m pc ls (As.reverse ++ st)) ⟨hx, hb, hml, hown, hts⟩ (hM H.size) (va_cwS nA hts hG hw hR.1 hR.2.1 ⟨k1, k2, k3⟩ hR.2.2) ⟨zB_blind D tys tw W0 H.size _, fun U hU hW => ⟨rfl, by rw [hU], by rw [hU]; exact hPc, va_K.moved hW.alike hK, hDc.weaken (fun _ _ _ _ => trivial), zE_move hW (fun q h1 h2 => by rw [hU]; exact hS.2.1 q h1 h2) hf0 hE⟩⟩ rfl hn hl.1 rfl (lv_room hst) d hf (p := p) (l := l) (e := e) (below := below) (meth := meth) (locs := locs)
  intro T hT X9
  obtain ⟨v, st₀, t, T', L, h0, X', hL, e1, e2, ⟨⟨u, hv, hp, hP1, hK1, hD1⟩, hz, hk1⟩, stp⟩ := hr T hT X9
  cases hv
  rw [h0] at hz hk1
  have hj := va_fr (H1 := T'.heap) hP hD hf0 (by rw [e1]; exact hP1) hD1 (fun q h1 h2 => by rw [e1]; exact hk1 q h1 h2)
  obtain ⟨t2, a1, b1⟩ := kk u hp T'.heap (locs ++ L) ls hj.1 hj.2 ⟨Nat.le_trans hS.1 (by rw [e1]; exact hz), fun q h1 h2 => by rw [e1, hk1 q (Nat.lt_of_lt_of_le h1 hS.1) (fun z => h2 (hf0 q z))]; exact hS.2.1 q h1 h2, fun q hq => by
      rcases List.mem_append.mp hq with h | h
      · exact hS.2.2 q h
      · exact hf0 _ (hL q h)⟩ hl T' rfl X'
  exact ⟨t2, stp t2 a1, b1⟩
theorem z_callIF (C : zX V p l e R s m args below meth c D tys tw A cc Ts own nL ret Q) (hM : zMet l y wsY rm D tys tw W0 (.ref a :: As) mc ms rv wf post) (hrv : ∀ u, post u → rv u = none) (hG : GoodIn Ts wsY) (kn : zKn y wsY bytes maxL none nA) (hini : Cond.initialized y.cls ∈ Ts) (hinst : Cond.instanceMethod y ∈ Ts) (hl0 : Cond.methodLink own index y ∈ Ts) (hy1 : y.name = "<init>") (hR : rm.cells = mc ∧ rm.slots = ms ∧ rm.frames + 1 ≤ R.frames ∧ 8 + (maxL + 11) + rm.locals ≤ R.locals) (hn : As.length = nA) (hst : (st.map fun v => v.category).sum ≤ 8) (hf : k + mc ≤ R.cells ∧ n + ms ≤ R.slots) (d : decode cc pc = .ok (.invokespecial index, 3)) (kk : ∀ u : S, post u → V (k + mc) (n + ms) ((X ++ wf u) ++ Y) lv st (pc + 3)) : V k n ((X ++ W0) ++ Y) lv (As.reverse ++ .ref a :: st) pc := by
  obtain ⟨⟨hx, hb, hml, hown, hts⟩, hK, hE, hA, -, -, rfl⟩ := C
  obtain ⟨⟨ws', hw⟩, k1, k2, k3⟩ := kn
  intro H locs ls hP hD hS hl
  obtain ⟨hPc, hDc⟩ := va_mid hP hD
  have hf0 : ∀ q : Nat, va_A W0 H.size q → A q := by
    intro q h
    rcases h with ⟨j, w, h⟩ | h
    · exact hDc.2 j _ h
    · exact hA q (Nat.le_trans hS.1 h)
  have hr := va_runI (As := As) (rest := st) (nL := nL) (cc := cc) (Ts := Ts) (own := own) (b := a) (g := F0 m pc ls (As.reverse ++ .ref a :: st)) ⟨hx, hb, hml, hown, hts⟩ (hM H.size) (cwI nA hts hG hw hR.1 hR.2.1 (hts _ hini) (hts _ hl0) (hts _ hinst) hy1 ⟨k1, k2, k3⟩ hR.2.2) ⟨zB_blind D tys tw W0 H.size _, fun U hU hW => ⟨rfl, by rw [hU], by rw [hU]; exact hPc, va_K.moved hW.alike hK, hDc.weaken (fun _ _ _ _ => trivial), zE_move hW (fun q h1 h2 => by rw [hU]; exact hS.2.1 q h1 h2) hf0 hE⟩⟩ rfl hn hl.1 rfl (lv_room hst) d hf (p := p) (l := l) (e := e) (below := below) (meth := meth) (locs := locs)
  intro T hT X9
  obtain ⟨v, st₀, t, T', L, h0, X', hL, e1, e2, ⟨⟨u, hv, hp, hP1, hK1, hD1⟩, hz, hk1⟩, stp⟩ := hr T hT X9
  rw [hrv u hp] at hv
  cases hv
  rw [h0] at hz hk1
  have hj := va_fr (H1 := T'.heap) hP hD hf0 (by rw [e1]; exact hP1) hD1 (fun q h1 h2 => by rw [e1]; exact hk1 q h1 h2)
  obtain ⟨t2, a1, b1⟩ := kk u hp T'.heap (locs ++ L) ls hj.1 hj.2 ⟨Nat.le_trans hS.1 (by rw [e1]; exact hz), fun q h1 h2 => by rw [e1, hk1 q (Nat.lt_of_lt_of_le h1 hS.1) (fun z => h2 (hf0 q z))]; exact hS.2.1 q h1 h2, fun q hq => by
      rcases List.mem_append.mp hq with h | h
      · exact hS.2.2 q h
      · exact hf0 _ (hL q h)⟩ hl T' rfl X'
  exact ⟨t2, stp t2 a1, b1⟩
theorem z_callINF (C : zX V p l e R s m args below meth c D tys tw A cc Ts own nL ret Q) (hM : zMet l y wsY rm D tys tw W0 (.ref a :: As) mc ms rv wf post) (hrv : ∀ u, post u → rv u = none) (hG : GoodIn Ts wsY) (kn : zKn y wsY bytes maxL none nA) (hini : Cond.initialized y.cls ∈ Ts) (hinst : Cond.instanceMethod y ∈ Ts) {host : String} (hl0 : va_Nw (.methodLinkNest own index y host) s) (hy1 : y.name = "<init>") (hR : rm.cells = mc ∧ rm.slots = ms ∧ rm.frames + 1 ≤ R.frames ∧ 8 + (maxL + 11) + rm.locals ≤ R.locals) (hn : As.length = nA) (hst : (st.map fun v => v.category).sum ≤ 8) (hf : k + mc ≤ R.cells ∧ n + ms ≤ R.slots) (d : decode cc pc = .ok (.invokespecial index, 3)) (kk : ∀ u : S, post u → V (k + mc) (n + ms) ((X ++ wf u) ++ Y) lv st (pc + 3)) : V k n ((X ++ W0) ++ Y) lv (As.reverse ++ .ref a :: st) pc := by
  obtain ⟨⟨hx, hb, hml, hown, hts⟩, hK, hE, hA, -, -, rfl⟩ := C
  obtain ⟨⟨ws', hw⟩, k1, k2, k3⟩ := kn
  intro H locs ls hP hD hS hl
  obtain ⟨hPc, hDc⟩ := va_mid hP hD
  have hf0 : ∀ q : Nat, va_A W0 H.size q → A q := by
    intro q h
    rcases h with ⟨j, w, h⟩ | h
    · exact hDc.2 j _ h
    · exact hA q (Nat.le_trans hS.1 h)
  have hr := va_runIN (As := As) (rest := st) (nL := nL) (cc := cc) (Ts := Ts) (own := own) (b := a) (g := F0 m pc ls (As.reverse ++ .ref a :: st)) ⟨hx, hb, hml, hown, hts⟩ (hM H.size) (⟨va_cnB nA hts hG hw hR.1 hR.2.1 hl0 (hts _ hini) ⟨k1, k2, k3⟩ hR.2.2, hy1, hts _ hinst⟩) ⟨zB_blind D tys tw W0 H.size _, fun U hU hW => ⟨rfl, by rw [hU], by rw [hU]; exact hPc, va_K.moved hW.alike hK, hDc.weaken (fun _ _ _ _ => trivial), zE_move hW (fun q h1 h2 => by rw [hU]; exact hS.2.1 q h1 h2) hf0 hE⟩⟩ rfl hn hl.1 rfl (lv_room hst) d hf (p := p) (l := l) (e := e) (below := below) (meth := meth) (locs := locs)
  intro T hT X9
  obtain ⟨v, st₀, t, T', L, h0, X', hL, e1, e2, ⟨⟨u, hv, hp, hP1, hK1, hD1⟩, hz, hk1⟩, stp⟩ := hr T hT X9
  rw [hrv u hp] at hv
  cases hv
  rw [h0] at hz hk1
  have hj := va_fr (H1 := T'.heap) hP hD hf0 (by rw [e1]; exact hP1) hD1 (fun q h1 h2 => by rw [e1]; exact hk1 q h1 h2)
  obtain ⟨t2, a1, b1⟩ := kk u hp T'.heap (locs ++ L) ls hj.1 hj.2 ⟨Nat.le_trans hS.1 (by rw [e1]; exact hz), fun q h1 h2 => by rw [e1, hk1 q (Nat.lt_of_lt_of_le h1 hS.1) (fun z => h2 (hf0 q z))]; exact hS.2.1 q h1 h2, fun q hq => by
      rcases List.mem_append.mp hq with h | h
      · exact hS.2.2 q h
      · exact hf0 _ (hL q h)⟩ hl T' rfl X'
  exact ⟨t2, stp t2 a1, b1⟩
end ZFR
section ZST
variable {V : zV} {p : Program} {l : Launch} {e : Env} {R : Room} {s : State} {m : MethodId} {args : Array Value} {below : List Frame} {meth : Method} {c : Code} {D : va_G} {tys : List (ClassId × FieldType)} {tw : Nat → Nat} {A : Nat → Prop} {cc : ByteArray} {Ts : List Cond} {own : String} {nL : Nat} {ret : Option FieldType} {Q : State → Prop} {k n : Nat} {lv : List (Nat × Value)} {st : List Value} {pc : Nat} {ws : va_W}
theorem z_sta2 (C : zX V p l e R s m args below meth c D tys tw A cc Ts RX7 nL ret Q) (hl0 : Cond.fieldLink RX7 36 "FaxFilter" "WHITE_BITS" "[B" ∈ Ts) (d : decode cc pc = .ok (.getstatic 36, 3)) (kk : V k n ws lv (.ref (tw 2) :: st) (pc + 3)) : V k n ws lv st pc := by
  obtain ⟨⟨hx, hb, hml, hown, hts⟩, hK, hE, hA, hr, hlk, rfl⟩ := C
  intro H locs ls hP hD hS hl
  obtain ⟨e1, e2, e3, e4, e5, e6, e7, e8, e9⟩ := hE
  exact va_gets hx hb e8.1 hS hown (hts _ hl0) (fun _ h => h) d (kk H locs ls hP hD hS hl)
theorem z_sta3 (C : zX V p l e R s m args below meth c D tys tw A cc Ts RX7 nL ret Q) (hl0 : Cond.fieldLink RX7 47 "FaxFilter" "DARK_BITS" "[B" ∈ Ts) (d : decode cc pc = .ok (.getstatic 47, 3)) (kk : V k n ws lv (.ref (tw 3) :: st) (pc + 3)) : V k n ws lv st pc := by
  obtain ⟨⟨hx, hb, hml, hown, hts⟩, hK, hE, hA, hr, hlk, rfl⟩ := C
  intro H locs ls hP hD hS hl
  obtain ⟨e1, e2, e3, e4, e5, e6, e7, e8, e9⟩ := hE
  exact va_gets hx hb e9.1 hS hown (hts _ hl0) (fun _ h => h) d (kk H locs ls hP hD hS hl)
end ZST
