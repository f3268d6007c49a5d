/-! the law's helpers: methods with a table; calls that throw and are caught; the script -/
def zNc (U : State) : Prop := va_Nc "java/lang/IllegalArgumentException" "java/lang/ArrayIndexOutOfBoundsException" U
def zXL (sr : Nat → Nat) (A : Nat → Prop) (s : State) : Prop := zU A s ∧ zStr sr s ∧ zN s ∧ zNc s
def zBH (D : va_G) (tys : List (ClassId × FieldType)) (tw sr : Nat → Nat) (W0 : va_W) (sz : Nat) (U : State) : Prop := zB D tys tw W0 sz U ∧ zXL sr (va_A W0 sz) U
theorem zBH_blind (D : va_G) (tys : List (ClassId × FieldType)) (tw sr : Nat → Nat) (W0 : va_W) (sz : Nat) (av : List Value) : FrameBlind (va_Pc av (zBH D tys tw sr W0 sz)) := fun a U g mk q => by
  obtain ⟨q0, ⟨q1, qP, qK, qD, qE⟩, qU, qS, qN, qC⟩ := q
  exact ⟨q0, ⟨q1, qP, va_K.moved (u := U) (U := U.calling g mk a) (Vm.Alike.refl U.vm) qK, qD, zE_blind g mk a qE⟩, zU_move (s := U) (U := U.calling g mk a) (Vm.Alike.refl U.vm) (fun _ _ _ => rfl) (fun _ h => h) qU, zStr_same rfl qS, zN_same (s := U) rfl qN, va_Nc.moved (u := U) (U := U.calling g mk a) (Vm.Alike.refl U.vm) qC⟩
theorem zXL_move {sr : Nat → Nat} {A B : Nat → Prop} {s U : State} (hW : s.WarmedH U.vm) (hq : ∀ q : Nat, q < s.heap.size → ¬ A q → U.heap[q]? = s.heap[q]?) (hB : ∀ q, B q → A q) (h : zXL sr A s) : zXL sr B U := ⟨zU_move hW.alike hq hB h.1, zStr_warm hW h.2.1, zN_warm hW h.2.2.1, va_Nc.moved hW.alike h.2.2.2⟩
/-- a helper's contract: it returns, whatever the class throws -/
def zMetB (l : Launch) (y : MethodName) (wsY : List Cond) (rm : Room) (D : va_G) (tys : List (ClassId × FieldType)) (tw sr : Nat → Nat) (W0 : va_W) (av : List Value) (mc ms : Nat) {S : Type} (rv : S → Option Value) (wf : S → va_W) (post : S → Prop) : Prop :=
  ∀ sz : Nat, Met l y wsY rm (va_Pc av (zBH D tys tw sr W0 sz)) (zQ D tys rv wf post (va_A W0 sz)) mc ms (va_A W0 sz)
def zKnW (y : MethodName) (wsY : List Cond) (bytes : ByteArray) (maxL : Nat) (retY : Option FieldType) (hh : List (Nat × Nat × Nat × Nat)) (nA : Nat) : Prop :=
  (∃ ws' : List Cond, wsY = Cond.codeWith y bytes maxL retY hh :: ws') ∧ y.cls ≠ "java/lang/invoke/MethodHandle" ∧ y.cls ≠ "java/lang/invoke/VarHandle" ∧ (parseMethodDescriptor y.desc).map (fun d => d.parameters.length) = some nA
theorem z_metH {l : Launch} {y : MethodName} {wsY ws' : List Cond} {rm : Room} {D : va_G} {tys : List (ClassId × FieldType)} {tw sr : Nat → Nat} {W0 : va_W} {av : List Value} {mc ms : Nat} {S : Type} {rv : S → Option Value} {wf : S → va_W} {post : S → Prop} {cc : ByteArray} {nL : Nat} {ret : Option FieldType} {hh : List (Nat × Nat × Nat × Nat)}
    (hy : plainName y.cls = true) (hw : wsY = Cond.codeWith y cc nL ret hh :: ws') (hn : (lg_sl av).length ≤ nL) {lv : List (Nat × Value)} (hlv : lv_args 0 av = lv)
    (body : ∀ (V : zV) (p : Program) (e : Env) (s : State) (m : MethodId) (args : Array Value) (below : List Frame) (meth : Method) (c : Code) (A : Nat → Prop),
      zX V p l e rm s m args below meth c D tys tw A cc wsY y.cls nL ret (MQ below (zQ D tys rv wf post A) args s mc ms A) → zXL sr A s → c.exceptionTable.toList = tableOf hh → V 0 0 W0 lv [] 0) :
    zMetB l y wsY rm D tys tw sr W0 av mc ms rv wf post := by
  intro sz
  refine va_MetW (cc := cc) (maxL := nL) (ret := ret) (hh := hh) hy hw ?_
  intro p e s m args below meth c s₁ B hml hv
  obtain ⟨rfl, ⟨hsz, hP, hK, hD0, hE⟩, hX⟩ := hv
  have hts := atoms_spec (ws := wsY) B.pre
  have hown : s.vm.findClass y.cls = some m.cls := findClass_of_methodNamed B.named
  have htab : c.exceptionTable.toList = tableOf hh := vx_table (x := y) B (hts _ (by rw [hw]; exact List.mem_cons_self))
  subst hsz
  have hD := hD0.self (sz := s.heap.size)
  have hA : ∀ q : Nat, s.heap.size ≤ q → va_A W0 s.heap.size q := fun q h => Or.inr h
  have hl := lv_entry av (n := nL) hn
  rw [hlv] at hl
  rw [lg_entry_eq]
  exact body _ p e s m _ below meth c (va_A W0 s.heap.size) ⟨⟨B.exec, B.bytes, hml, hown, hts⟩, hK, hE, hA, B.returns, B.notSynchronized, rfl⟩ hX htab s.heap [] _ hP hD va_S.rf hl
section ZHR
variable {V : zV} {p : Program} {l : Launch} {e : Env} {R : Room} {s : State} {m : MethodId} {args : Array Value} {below : List Frame} {meth : Method} {c : Code} {D : va_G} {tys : List (ClassId × FieldType)} {tw : Nat → Nat} {A : Nat → Prop} {cc : ByteArray} {Ts : List Cond} {own : String} {nL : Nat} {ret : Option FieldType} {Q : State → Prop} {k n : Nat} {lv : List (Nat × Value)} {st : List Value} {pc : Nat}
variable {sr : Nat → Nat} {y : MethodName} {wsY : List Cond} {rm : Room} {X W0 Y : va_W} {As : List Value} {mc ms : Nat} {S : Type} {rv : S → Option Value} {wf : S → va_W} {post : S → Prop} {bytes : ByteArray} {maxL nA index : Nat} {retY : Option FieldType} {a : Nat}
/-- a helper is called -/
theorem z_callSWF (C : zX V p l e R s m args below meth c D tys tw A cc Ts own nL ret Q) (XL : zXL sr A s) {hh : List (Nat × Nat × Nat × Nat)} (hM : zMetB l y wsY rm D tys tw sr W0 As mc ms rv wf post) (hG : GoodIn Ts (va_wsS own index y wsY)) (kn : zKnW y wsY bytes maxL retY hh nA) (hR : rm.cells = mc ∧ rm.slots = ms ∧ rm.frames + 1 ≤ R.frames ∧ 8 + (maxL + 11) + rm.locals ≤ R.locals) (hn : As.length = nA) (hst : (st.map fun v => v.category).sum ≤ 8) (hf : k + mc ≤ R.cells ∧ n + ms ≤ R.slots) (d : decode cc pc = .ok (.invokestatic index, 3)) (kk : ∀ u : S, post u → V (k + mc) (n + ms) ((X ++ wf u) ++ Y) lv ((rv u).toList ++ st) (pc + 3)) : V k n ((X ++ W0) ++ Y) lv (As.reverse ++ st) pc := by
  obtain ⟨⟨hx, hb, hml, hown, hts⟩, hK, hE, hA, -, -, rfl⟩ := C
  obtain ⟨⟨ws', hw⟩, k1, k2, k3⟩ := kn
  intro H locs ls hP hD hS hl
  obtain ⟨hPc, hDc⟩ := va_mid hP hD
  have hf0 : ∀ q : Nat, va_A W0 H.size q → A q := by
    intro q h
    rcases h with ⟨j, w, h⟩ | h
    · exact hDc.2 j _ h
    · exact hA q (Nat.le_trans hS.1 h)
  have hr := vx_runSW (As := As) (rest := st) (nL := nL) (cc := cc) (Ts := Ts) (own := own) (g := F0 m pc ls (As.reverse ++ st)) ⟨hx, hb, hml, hown, hts⟩ (hM H.size) (vx_cwSW nA hts hG hw hR.1 hR.2.1 ⟨k1, k2, k3⟩ hR.2.2) ⟨zBH_blind D tys tw sr W0 H.size _, fun U hU hW => ⟨rfl, ⟨by rw [hU], by rw [hU]; exact hPc, va_K.moved hW.alike hK, hDc.weaken (fun _ _ _ _ => trivial), zE_move hW (fun q h1 h2 => by rw [hU]; exact hS.2.1 q h1 h2) hf0 hE⟩, zXL_move hW (fun q h1 h2 => by rw [hU]; exact hS.2.1 q h1 h2) hf0 XL⟩⟩ rfl hn hl.1 rfl (lv_room hst) d hf (p := p) (l := l) (e := e) (below := below) (meth := meth) (locs := locs)
  intro T hT X9
  obtain ⟨v, st₀, t, T', L, h0, X', hL, e1, e2, ⟨⟨u, hv, hp, hP1, hK1, hD1⟩, hz, hk1⟩, stp⟩ := hr T hT X9
  cases hv
  rw [h0] at hz hk1
  have hj := va_fr (H1 := T'.heap) hP hD hf0 (by rw [e1]; exact hP1) hD1 (fun q h1 h2 => by rw [e1]; exact hk1 q h1 h2)
  obtain ⟨t2, a1, b1⟩ := kk u hp T'.heap (locs ++ L) ls hj.1 hj.2 ⟨Nat.le_trans hS.1 (by rw [e1]; exact hz), fun q h1 h2 => by rw [e1, hk1 q (Nat.lt_of_lt_of_le h1 hS.1) (fun z => h2 (hf0 q z))]; exact hS.2.1 q h1 h2, fun q hq => by
      rcases List.mem_append.mp hq with h | h
      · exact hS.2.2 q h
      · exact hf0 _ (hL q h)⟩ hl T' rfl X'
  exact ⟨t2, stp t2 a1, b1⟩
/-- a method of the class is called that throws; a row of the table catches it -/
theorem z_callVX (C : zX V p l e R s m args below meth c D tys tw A cc Ts own nL ret Q) (XL : zXL sr A s) {cls : String} {ci : Nat} {RC : String} {T : u_T} {N : Nat} {fs : List Value} (hM : zMetX l y wsY rm D tys tw sr W0 (.ref a :: As) cls) (hG : GoodIn Ts (wsV own index RC y wsY)) (kn : zKn y wsY bytes maxL retY nA) (hcls : y.cls = RC) (hR : rm.cells = 1 ∧ rm.slots = 6 ∧ rm.frames + 1 ≤ R.frames ∧ 8 + (maxL + 11) + rm.locals ≤ R.locals) (q0 : Nat) (he : W0[q0]? = some (a, .inr (ci, fs))) (hc : vwCl[ci]? = some (RC, T, N)) (hn : As.length = nA) (hst : (st.map fun v => v.category).sum ≤ 8) (hf : k + 1 ≤ R.cells ∧ n + 6 ≤ R.slots) (d : decode cc pc = .ok (.invokevirtual index, 3))
    (pre : List ExceptionTableEntry) (x : ExceptionTableEntry) (suf : List ExceptionTableEntry) (hsplit : c.exceptionTable.toList = pre ++ x :: suf) (hpass : ∀ z ∈ pre, covers z pc = false ∨ (z.catchType ≠ 0 ∧ ∃ nm : String, Cond.classLink own z.catchType nm ∈ Ts ∧ va_Nc cls nm s)) (hxc : covers x pc = true) (h00 : x.catchType ≠ 0) (hlink : Cond.classLink own x.catchType cls ∈ Ts) (hcast : Cond.castable cls cls ∈ zxBI ++ (zxBA ++ zxBU))
    (kk : ∀ q : Nat, V (k + 1) (n + 6) ((X ++ W0) ++ Y) lv [.ref q] x.handlerPc) : V k n ((X ++ W0) ++ Y) lv (As.reverse ++ .ref a :: st) pc := by
  obtain ⟨⟨hx, hb, hml, hown, hts⟩, hK, hE, hA, -, -, rfl⟩ := C
  obtain ⟨⟨ws', hw⟩, k1, k2, k3⟩ := kn
  intro H locs ls hP hD hS hl
  obtain ⟨hPc, hDc⟩ := va_mid hP hD
  have hf0 : ∀ q : Nat, va_A W0 H.size q → A q := by
    intro q h
    rcases h with ⟨j, w, h⟩ | h
    · exact hDc.2 j _ h
    · exact hA q (Nat.le_trans hS.1 h)
  have hr := vx_runV (As := As) (rest := st) (nL := nL) (cc := cc) (Ts := Ts) (own := own) (g := F0 m pc ls (As.reverse ++ .ref a :: st)) ⟨hx, hb, hml, hown, hts⟩ (hM H.size) (cwV nA hts hG hw hR.1 hR.2.1 ⟨hcls, k1, k2, k3⟩ hR.2.2) ⟨zBX_blind D tys tw sr W0 H.size _, va_recv hK hPc hc he, fun U hU hW => ⟨rfl, ⟨by rw [hU], by rw [hU]; exact hPc, va_K.moved hW.alike hK, hDc.weaken (fun _ _ _ _ => trivial), zE_move hW (fun q h1 h2 => by rw [hU]; exact hS.2.1 q h1 h2) hf0 hE⟩, zU_move hW.alike (fun q h1 h2 => by rw [hU]; exact hS.2.1 q h1 h2) hf0 XL.1, zStr_warm hW XL.2.1, zN_warm hW XL.2.2.1⟩⟩ rfl hn hl.1 rfl (lv_room hst) d hf (p := p) (l := l) (e := e) (below := below) (meth := meth) (locs := locs)
  intro T0 hT X9
  rcases hr T0 hT X9 with ⟨v, st₀, t, T', L, h0, X', hL, e1, e2, hq, stp⟩ | ⟨q, st₀, t, T', L, E, ce, h0, X', hL, e1, e2, ⟨u, -, ⟨hE9, hP1, hK1, hD1⟩, hz, hk1⟩, hce, hcv, hcl, stp⟩
  · exact hq.elim
  · subst hE9
    rw [h0] at hz hk1
    have hj := va_fr (H1 := T'.heap) hP hD hf0 (by rw [e1]; exact hP1) hD1 (fun q h1 h2 => by rw [e1]; exact hk1 q h1 h2)
    have hkk := kk q T'.heap (locs ++ L) ls hj.1 hj.2 ⟨Nat.le_trans hS.1 (by rw [e1]; exact hz), fun q h1 h2 => by rw [e1, hk1 q (Nat.lt_of_lt_of_le h1 hS.1) (fun z => h2 (hf0 q z))]; exact hS.2.1 q h1 h2, fun q hq => by
      rcases List.mem_append.mp hq with h | h
      · exact hS.2.2 q h
      · exact hf0 _ (hL q h)⟩ hl
    obtain ⟨t2, a1, b1⟩ := vx_catch hown pre x suf hsplit (fun z hz9 => (hpass z hz9).elim Or.inl (fun h9 => Or.inr ⟨h9.1, h9.2.elim (fun nm h8 => ⟨nm, hts _ h8.1, h8.2⟩)⟩)) hxc h00 (hts _ hlink) (va_Nw.use (zN_onT _ hcast) (XL.2.2.1 _ hcast)) (by rw [e1]; exact hce) hcv hcl hkk T' rfl X' (rest := st)
    exact ⟨t2, stp.trans a1, b1⟩
theorem z_callVE (C : zX V p l e R s m args below meth c D tys tw A cc Ts own nL ret Q) {ci : Nat} {RC : String} {T : u_T} {N : Nat} {fs : List Value} (hM : zMet l y wsY rm D tys tw W0 (.ref a :: As) mc ms rv wf post) (hG : GoodIn Ts (wsV own index RC y wsY)) (kn : zKn y wsY bytes maxL retY nA) (hcls : y.cls = RC) (hR : rm.cells = mc ∧ rm.slots = ms ∧ rm.frames + 1 ≤ R.frames ∧ 8 + (maxL + 11) + rm.locals ≤ R.locals) (q0 : Nat) (he : W0[q0]? = some (a, .inr (ci, fs))) (hc : vwCl[ci]? = some (RC, T, N)) (hn : As.length = nA) (hst : (st.map fun v => v.category).sum ≤ 8) (hf : k + mc ≤ R.cells ∧ n + ms ≤ R.slots) (d : decode cc pc = .ok (.invokevirtual index, 3)) (kk : ∀ u : S, post u → V (k + mc) (n + ms) (X ++ wf u) lv ((rv u).toList ++ st) (pc + 3)) : V k n (X ++ W0) lv (As.reverse ++ .ref a :: st) pc := by
  rw [← List.append_nil (X ++ W0)]
  exact z_callVF C hM hG kn hcls hR q0 he hc hn hst hf d (fun u hu => by rw [List.append_nil]; exact kk u hu)
theorem z_callVXE (C : zX V p l e R s m args below meth c D tys tw A cc Ts own nL ret Q) (XL : zXL sr A s) {cls : String} {ci : Nat} {RC : String} {T : u_T} {N : Nat} {fs : List Value} (hM : zMetX l y wsY rm D tys tw sr W0 (.ref a :: As) cls) (hG : GoodIn Ts (wsV own index RC y wsY)) (kn : zKn y wsY bytes maxL retY nA) (hcls : y.cls = RC) (hR : rm.cells = 1 ∧ rm.slots = 6 ∧ rm.frames + 1 ≤ R.frames ∧ 8 + (maxL + 11) + rm.locals ≤ R.locals) (q0 : Nat) (he : W0[q0]? = some (a, .inr (ci, fs))) (hc : vwCl[ci]? = some (RC, T, N)) (hn : As.length = nA) (hst : (st.map fun v => v.category).sum ≤ 8) (hf : k + 1 ≤ R.cells ∧ n + 6 ≤ R.slots) (d : decode cc pc = .ok (.invokevirtual index, 3))
    (pre : List ExceptionTableEntry) (x : ExceptionTableEntry) (suf : List ExceptionTableEntry) (hsplit : c.exceptionTable.toList = pre ++ x :: suf) (hpass : ∀ z ∈ pre, covers z pc = false ∨ (z.catchType ≠ 0 ∧ ∃ nm : String, Cond.classLink own z.catchType nm ∈ Ts ∧ va_Nc cls nm s)) (hxc : covers x pc = true) (h00 : x.catchType ≠ 0) (hlink : Cond.classLink own x.catchType cls ∈ Ts) (hcast : Cond.castable cls cls ∈ zxBI ++ (zxBA ++ zxBU))
    (kk : ∀ q : Nat, V (k + 1) (n + 6) (X ++ W0) lv [.ref q] x.handlerPc) : V k n (X ++ W0) lv (As.reverse ++ .ref a :: st) pc := by
  rw [← List.append_nil (X ++ W0)]
  exact z_callVX C XL hM hG kn hcls hR q0 he hc hn hst hf d pre x suf hsplit hpass hxc h00 hlink hcast (fun q => by rw [List.append_nil]; exact kk q)
end ZHR
section ZSC
variable {V : zV} {p : Program} {l : Launch} {e : Env} {R : Room} {s : State} {m : MethodId} {args : Array Value} {below : List Frame} {meth : Method} {c : Code} {D : va_G} {tys : List (ClassId × FieldType)} {tw : Nat → Nat} {A : Nat → Prop} {cc : ByteArray} {Ts : List Cond} {own : String} {nL : Nat} {ret : Option FieldType} {Q : State → Prop} {k n : Nat} {lv : List (Nat × Value)} {st : List Value} {pc : Nat} {ws : va_W}
/-- the script -/
theorem z_sld (C : zX V p l e R s m args below meth c D tys tw A cc Ts own nL ret Q) {b L : Nat} {zx : Nat → Int} (hX : va_X b L (fun j => Int32.ofInt (zx j)) s s.heap) (hbl : b < s.heap.size) (hbA : ¬ A b) {x : Int} (h0 : 0 ≤ x) (h1 : x < (L : Int)) (h2 : (L : Int) ≤ 2147483647) (d : decode cc pc = .ok (.iaload, 1)) (kk : V k n ws lv (vI (zx x.toNat) :: st) (pc + 1)) : V k n ws lv (vI x :: .ref b :: st) pc := by
  obtain ⟨⟨hx, hb, hml, hown, hts⟩, hK, hE, hA, hr, hlk, rfl⟩ := C
  intro H locs ls hP hD hS hl
  refine va_sld hx hb hX hbl hbA hS (i := Int32.ofInt x) (iI_in h0 h1 h2) d ?_
  rw [iI_nat h0 (by omega)]
  exact kk H locs ls hP hD hS hl
theorem z_slen (C : zX V p l e R s m args below meth c D tys tw A cc Ts own nL ret Q) {b L : Nat} {zx : Nat → Int} (hX : va_X b L (fun j => Int32.ofInt (zx j)) s s.heap) (hbl : b < s.heap.size) (hbA : ¬ A b) (d : decode cc pc = .ok (.arraylength, 1)) (kk : V k n ws lv (vI (L : Int) :: st) (pc + 1)) : V k n ws lv (.ref b :: st) pc := by
  obtain ⟨⟨hx, hb, hml, hown, hts⟩, hK, hE, hA, hr, hlk, rfl⟩ := C
  intro H locs ls hP hD hS hl
  refine va_slen hx hb hX hbl hbA hS d ?_
  have e9 : Int32.ofNat L = Int32.ofInt (L : Int) := (iI_nI L).symm
  rw [e9]
  exact kk H locs ls hP hD hS hl
end ZSC
