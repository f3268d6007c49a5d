/-! the law's reader of a place of its script, before the worlds stand -/
def zBC (D : va_G) (tys : List (ClassId × FieldType)) (tw : Nat → Nat) (scr N : Nat) (zx : Nat → Int) (sz : Nat) (U : State) : Prop := zB D tys tw [] sz U ∧ va_X scr N (fun j => Int32.ofInt (zx j)) U U.heap ∧ scr < sz
def zMetC (l : Launch) (y : MethodName) (wsY : List Cond) (rm : Room) (D : va_G) (tys : List (ClassId × FieldType)) (tw : Nat → Nat) (scr N : Nat) (zx : Nat → Int) (av : List Value) (r : Int) : Prop :=
  ∀ sz : Nat, Met l y wsY rm (va_Pc av (zBC D tys tw scr N zx sz)) (zQ D tys (S := Unit) (fun _ => some (vI r)) (fun _ => []) (fun _ => True) (va_A [] sz)) 0 0 (va_A [] sz)
theorem zBC_blind (D : va_G) (tys : List (ClassId × FieldType)) (tw : Nat → Nat) (scr N : Nat) (zx : Nat → Int) (sz : Nat) (av : List Value) : FrameBlind (va_Pc av (zBC D tys tw scr N zx sz)) := fun a U g mk q => by
  obtain ⟨q0, ⟨q1, qP, qK, qD, qE⟩, qX, qs⟩ := q
  exact ⟨q0, ⟨q1, qP, va_K.moved (u := U) (U := U.calling g mk a) (Vm.Alike.refl U.vm) qK, qD, zE_blind g mk a qE⟩, va_X.moved (u := U) (U := U.calling g mk a) (Vm.Alike.refl U.vm) qX, qs⟩
theorem z_metC {l : Launch} {y : MethodName} {wsY ws' : List Cond} {rm : Room} {D : va_G} {tys : List (ClassId × FieldType)} {tw : Nat → Nat} {scr N : Nat} {zx : Nat → Int} {av : List Value} {r : Int} {cc : ByteArray} {nL : Nat} {ret : Option FieldType}
    (hy : plainName y.cls = true) (hw : wsY = Cond.code y cc nL ret :: ws') (hn : (lg_sl av).length ≤ nL) {lv : List (Nat × Value)} (hlv : lv_args 0 av = lv)
    (body : ∀ (V : zV) (p : Program) (e : Env) (s : State) (m : MethodId) (args : Array Value) (below : List Frame) (meth : Method) (c : Code) (A : Nat → Prop),
      zX V p l e rm s m args below meth c D tys tw A cc wsY y.cls nL ret (MQ below (zQ D tys (S := Unit) (fun _ => some (vI r)) (fun _ => []) (fun _ => True) A) args s 0 0 A) → va_X scr N (fun j => Int32.ofInt (zx j)) s s.heap → scr < s.heap.size → ¬ A scr → V 0 0 [] lv [] 0) :
    zMetC l y wsY rm D tys tw scr N zx av r := by
  intro sz
  refine Met.ofW (cc := cc) (maxL := nL) (ret := ret) hy hw ?_
  intro p e s m args below meth c s₁ B hml hv
  obtain ⟨rfl, ⟨hsz, hP, hK, hD0, hE⟩, hX, hs⟩ := hv
  have hts := atoms_spec (ws := wsY) B.pre
  have hown : s.vm.findClass y.cls = some m.cls := findClass_of_methodNamed B.named
  subst hsz
  have hD := hD0.self (sz := s.heap.size)
  have hA : ∀ q : Nat, s.heap.size ≤ q → va_A [] s.heap.size q := fun q h => Or.inr h
  have hl := lv_entry av (n := nL) hn
  rw [hlv] at hl
  rw [lg_entry_eq]
  refine body _ p e s m _ below meth c (va_A [] s.heap.size) ⟨⟨B.exec, B.bytes, hml, hown, hts⟩, hK, hE, hA, B.returns, B.notSynchronized, rfl⟩ hX hs (fun h => ?_) s.heap [] _ hP hD va_S.rf hl
  rcases h with ⟨j, w, h⟩ | h
  · cases h
  · exact absurd hs (by omega)
section ZLC
variable {V : zV} {p : Program} {l : Launch} {e : Env} {R : Room} {s : State} {m : MethodId} {args : Array Value} {below : List Frame} {meth : Method} {c : Code} {D : va_G} {tys : List (ClassId × FieldType)} {tw : Nat → Nat} {A : Nat → Prop} {cc : ByteArray} {Ts : List Cond} {own : String} {nL : Nat} {ret : Option FieldType} {Q : State → Prop} {k n : Nat} {lv : List (Nat × Value)} {st : List Value} {pc : Nat}
theorem z_callC (C : zX V p l e R s m args below meth c D tys tw A cc Ts own nL ret Q) {y : MethodName} {wsY : List Cond} {rm : Room} {X : va_W} {As : List Value} {scr N : Nat} {zx : Nat → Int} {r : Int} {bytes : ByteArray} {maxL nA index : Nat} {retY : Option FieldType} (hM : zMetC l y wsY rm D tys tw scr N zx As r) (hX : va_X scr N (fun j => Int32.ofInt (zx j)) s s.heap) (hbl : scr < s.heap.size) (hbA : ¬ A scr) (hG : GoodIn Ts (va_wsS own index y wsY)) (kn : zKn y wsY bytes maxL retY nA) (hR : rm.cells = 0 ∧ rm.slots = 0 ∧ rm.frames + 1 ≤ R.frames ∧ 8 + (maxL + 11) + rm.locals ≤ R.locals) (hn : As.length = nA) (hst : (st.map fun v => v.category).sum ≤ 8) (hf : k + 0 ≤ R.cells ∧ n + 0 ≤ R.slots) (d : decode cc pc = .ok (.invokestatic index, 3)) (kk : V k n X lv (vI r :: st) (pc + 3)) : V k n X lv (As.reverse ++ st) pc := by
  have h99 : V k n ((X ++ []) ++ []) lv (As.reverse ++ st) pc := by
    have kk' : V k n ((X ++ []) ++ []) lv (vI r :: st) (pc + 3) := by rw [List.append_nil, List.append_nil]; exact kk
    obtain ⟨⟨hx, hb, hml, hown, hts⟩, hK, hE, hA, -, -, rfl⟩ := C
    obtain ⟨⟨ws', hw⟩, k1, k2, k3⟩ := kn
    intro H locs ls hP hD hS hl
    obtain ⟨hPc, hDc⟩ := va_mid (W0 := []) hP hD
    have hf0 : ∀ q : Nat, va_A [] H.size q → A q := by
      intro q h
      rcases h with ⟨j, w, h⟩ | h
      · cases h
      · exact hA q (Nat.le_trans hS.1 h)
    have hr := va_runS (As := As) (rest := st) (nL := nL) (cc := cc) (Ts := Ts) (own := own) (g := F0 m pc ls (As.reverse ++ st)) ⟨hx, hb, hml, hown, hts⟩ (hM H.size) (va_cwS nA hts hG hw hR.1 hR.2.1 ⟨k1, k2, k3⟩ hR.2.2) ⟨zBC_blind D tys tw scr N zx H.size _, fun U hU hW => ⟨rfl, ⟨by rw [hU], by rw [hU]; exact hPc, va_K.moved hW.alike hK, hDc.weaken (fun _ _ _ _ => trivial), zE_move hW (fun q h1 h2 => by rw [hU]; exact hS.2.1 q h1 h2) hf0 hE⟩, (va_X.moved hW.alike hX).kept (by rw [hU]; exact hS.2.1 scr hbl hbA), Nat.lt_of_lt_of_le hbl hS.1⟩⟩ rfl hn hl.1 rfl (lv_room hst) d hf (p := p) (l := l) (e := e) (below := below) (meth := meth) (locs := locs)
    intro T hT X9
    obtain ⟨v, st₀, t, T', L, h0, X', hL, e1, e2, ⟨⟨u, hv, hp, hP1, hK1, hD1⟩, hz, hk1⟩, stp⟩ := hr T hT X9
    cases hv
    rw [h0] at hz hk1
    have hj := va_fr (H1 := T'.heap) hP hD hf0 (by rw [e1]; exact hP1) hD1 (fun q h1 h2 => by rw [e1]; exact hk1 q h1 h2)
    obtain ⟨t2, a1, b1⟩ := kk' T'.heap (locs ++ L) ls hj.1 hj.2 ⟨Nat.le_trans hS.1 (by rw [e1]; exact hz), fun q h1 h2 => by rw [e1, hk1 q (Nat.lt_of_lt_of_le h1 hS.1) (fun z => h2 (hf0 q z))]; exact hS.2.1 q h1 h2, fun q hq => by
        rcases List.mem_append.mp hq with h | h
        · exact hS.2.2 q h
        · exact hf0 _ (hL q h)⟩ hl T' rfl X'
    exact ⟨t2, stp t2 a1, b1⟩
  rw [List.append_nil, List.append_nil] at h99
  exact h99
end ZLC
theorem kn_L_cell : zKn yL_cell wsL_cell cL_cell 2 (some .int) 2 := ⟨⟨_, rfl⟩, by decide +kernel, by decide +kernel, by decide +kernel⟩
theorem c_L_cell (l : Launch) (D : va_G) (cy : Nat → ClassId) (tw : Nat → Nat) (scr N : Nat) (zx : Nat → Int) (hN : (N : Int) ≤ 322) (j : Int) (hj : 0 ≤ j ∧ j ≤ 1000) : zMetC l yL_cell wsL_cell { frames := 0, cells := 0, slots := 0, locals := 0 } D (zT cy) tw scr N zx [.ref scr, vI j] (if j < (N : Int) then zx j.toNat else 0) := by
  refine z_metC (cc := cL_cell) (nL := 2) (ret := some .int) (by decide +kernel) rfl (Nat.le_of_ble_eq_true rfl) (lv := [(0, .ref scr), (1, vI j)]) rfl ?_
  intro V p_ e_ s_ m_ args_ below_ meth_ c_ A_ C hX hbl hbA
  refine z_iload_n C dL_cell_0 1 rfl ?_
  refine z_aload_n C dL_cell_1 0 rfl ?_
  refine z_slen C hX hbl hbA dL_cell_2 ?_
  refine z_icmp_ge C (by omega) (by omega) (tgt := 12) dL_cell_3 (by decide) (fun hc => ?_) (fun hc => ?_)
  · refine z_iconst C (z := 0) dL_cell_12 ?_
    exact z_iret (x := 0) C dL_cell_13 () (by rw [if_neg (by omega)]) trivial rfl (by decide) (by decide)
  · refine z_aload_n C dL_cell_6 0 rfl ?_
    refine z_iload_n C dL_cell_7 1 rfl ?_
    refine z_sldv C hX hbl hbA (v := zx j.toNat) rfl hj.1 (by omega) hN dL_cell_8 ?_
    refine z_goto C (tgt := 13) dL_cell_9 (by decide) ?_
    exact z_iret (x := zx j.toNat) C dL_cell_13 () (by rw [if_pos (by omega)]) trivial rfl (by decide) (by decide)
