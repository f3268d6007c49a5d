/-! the throwing methods of the class: contracts of a kind of their own; the switch's rows -/
def strL : List (Nat × String) := [(109, "what is told is 0 .. 6"), (127, "a setting is 0 .. 3"), (139, "rows to read are 0 .. 24"), (157, "no such row"), (165, "there are 24 rows"), (174, "places are 0 <= x < to <= columns"), (183, "no such row or place"), (192, "no such row or run"), (200, "no such byte"), (205, "a code is of 0 .. 63, or of 64, 128, .. 640")]
def zxnI : List String := ["java/lang/RuntimeException", "java/lang/Exception"]
def zxBI : List Cond := [.declares (Bundle.initS "java/lang/RuntimeException"), .declares (Bundle.initS "java/lang/Exception"), .declares (Bundle.initS "java/lang/Throwable"), .castable "java/lang/IllegalArgumentException" "java/lang/IllegalArgumentException"]
theorem zxfI : ∀ w ∈ (vx_atS RX7 111 "java/lang/IllegalArgumentException" zxnI).filter (fun w => !goodWord w), w ∈ zxBI := by decide +kernel
theorem zxoI : ∀ w ∈ Cond.classLink RX7 107 "java/lang/IllegalArgumentException" :: Cond.initialized "java/lang/IllegalArgumentException" :: vx_atS RX7 111 "java/lang/IllegalArgumentException" zxnI, vx_ot w = true := by decide +kernel
def zxnA : List String := ["java/lang/IndexOutOfBoundsException", "java/lang/RuntimeException", "java/lang/Exception"]
def zxBA : List Cond := [.declares (Bundle.initS "java/lang/IndexOutOfBoundsException"), .declares (Bundle.initS "java/lang/RuntimeException"), .declares (Bundle.initS "java/lang/Exception"), .declares (Bundle.initS "java/lang/Throwable"), .castable "java/lang/ArrayIndexOutOfBoundsException" "java/lang/ArrayIndexOutOfBoundsException"]
theorem zxfA : ∀ w ∈ (vx_atS RX7 159 "java/lang/ArrayIndexOutOfBoundsException" zxnA).filter (fun w => !goodWord w), w ∈ zxBA := by decide +kernel
theorem zxoA : ∀ w ∈ Cond.classLink RX7 155 "java/lang/ArrayIndexOutOfBoundsException" :: Cond.initialized "java/lang/ArrayIndexOutOfBoundsException" :: vx_atS RX7 159 "java/lang/ArrayIndexOutOfBoundsException" zxnA, vx_ot w = true := by decide +kernel
def zxnU : List String := ["java/lang/RuntimeException", "java/lang/Exception"]
def zxBU : List Cond := [.declares (Bundle.initS "java/lang/RuntimeException"), .declares (Bundle.initS "java/lang/Exception"), .declares (Bundle.initS "java/lang/Throwable"), .castable "java/lang/UnsupportedOperationException" "java/lang/UnsupportedOperationException"]
theorem zxfU : ∀ w ∈ (vx_atS RX7 167 "java/lang/UnsupportedOperationException" zxnU).filter (fun w => !goodWord w), w ∈ zxBU := by decide +kernel
theorem zxoU : ∀ w ∈ Cond.classLink RX7 163 "java/lang/UnsupportedOperationException" :: Cond.initialized "java/lang/UnsupportedOperationException" :: vx_atS RX7 167 "java/lang/UnsupportedOperationException" zxnU, vx_ot w = true := by decide +kernel
def zN (U : State) : Prop := ∀ w ∈ zxBI ++ (zxBA ++ zxBU), va_Nw w U
theorem zN_warm {s U : State} (hW : s.WarmedH U.vm) (h : zN s) : zN U := by
  have hd : ∀ w ∈ zxBI ++ (zxBA ++ zxBU), (∃ x, w = .declares x) ∨ ∃ a b, w = .castable a b := by
    intro w hw
    simp only [zxBI, zxBA, zxBU, List.cons_append, List.nil_append, List.mem_cons, List.not_mem_nil, or_false] at hw
    rcases hw with h | h | h | h | h | h | h | h | h | h | h | h | h <;> first | exact Or.inl ⟨_, h⟩ | exact Or.inr ⟨_, _, h⟩
  intro w hw
  rcases hd w hw with ⟨x, e⟩ | ⟨x, y, e⟩
  · rw [e]; exact va_Nw.warmD hW (by rw [← e]; exact h w hw)
  · rw [e]; exact va_Nw.warmC hW (by rw [← e]; exact h w hw)
theorem zN_same {s U : State} (hv : U.vm = s.vm) (h : zN s) : zN U := by
  intro w hw
  refine va_Nw.same ?_ hv.symm (h w hw)
  have : ∀ w ∈ zxBI ++ (zxBA ++ zxBU), w.onTables = true := by decide +kernel
  exact this w hw
def zStr (sr : Nat → Nat) (U : State) : Prop := ∀ q ∈ strL, vk_R RX7 q.1 q.2 (sr q.1) U
def zU (A : Nat → Prop) (U : State) : Prop := vx_Zq Bundle.tN "UNASSIGNED_STACK" Bundle.steD A U U.heap ∧ vx_Zq Bundle.tN "SUPPRESSED_SENTINEL" Bundle.listD A U U.heap
def zBX (D : va_G) (tys : List (ClassId × FieldType)) (tw sr : Nat → Nat) (W0 : va_W) (sz : Nat) (U : State) : Prop := zB D tys tw W0 sz U ∧ zU (va_A W0 sz) U ∧ zStr sr U ∧ zN U
theorem zU_move {A B : Nat → Prop} {s U : State} (hW : s.vm.Alike U.vm) (hq : ∀ q : Nat, q < s.heap.size → ¬ A q → U.heap[q]? = s.heap[q]?) (hB : ∀ q, B q → A q) (h : zU A s) : zU B U := ⟨((vx_Zq.moved hW h.1).kept hq).narrow hB, ((vx_Zq.moved hW h.2).kept hq).narrow hB⟩
theorem zStr_warm {sr : Nat → Nat} {s U : State} (hW : s.WarmedH U.vm) (h : zStr sr s) : zStr sr U := fun q hq => vk_R.warm hW (h q hq)
theorem zStr_same {sr : Nat → Nat} {s U : State} (hv : U.vm = s.vm) (h : zStr sr s) : zStr sr U := fun q hq => vk_R.same hv (h q hq)
theorem zBX_blind (D : va_G) (tys : List (ClassId × FieldType)) (tw sr : Nat → Nat) (W0 : va_W) (sz : Nat) (av : List Value) : FrameBlind (va_Pc av (zBX D tys tw sr W0 sz)) := fun a U g mk q => by
  obtain ⟨q0, ⟨q1, qP, qK, qD, qE⟩, qU, qS, qN⟩ := q
  exact ⟨q0, ⟨q1, qP, va_K.moved (u := U) (U := U.calling g mk a) (Vm.Alike.refl U.vm) qK, qD, zE_blind g mk a qE⟩, zU_move (s := U) (U := U.calling g mk a) (Vm.Alike.refl U.vm) (fun _ _ _ => rfl) (fun _ h => h) qU, zStr_same rfl qS, zN_same (s := U) rfl qN⟩
def zXB (D : va_G) (tys : List (ClassId × FieldType)) (W0 : va_W) (cls : String) (A : Nat → Prop) : String → State → State → Prop := vx_X (fun _ : Unit => True) (fun E _ t => E = cls ∧ va_P D vwCl W0 t.heap ∧ va_K D vwCl tys t ∧ va_D A W0) A
/-- a call that throws, always: the world stays -/
def zMetX (l : Launch) (y : MethodName) (wsY : List Cond) (rm : Room) (D : va_G) (tys : List (ClassId × FieldType)) (tw sr : Nat → Nat) (W0 : va_W) (av : List Value) (cls : String) : Prop :=
  ∀ sz : Nat, vx_Met l y wsY rm (va_Pc av (zBX D tys tw sr W0 sz)) (fun _ _ _ _ => False) (zXB D tys W0 cls (va_A W0 sz)) 1 6 (va_A W0 sz)
theorem zN_onT : ∀ w ∈ zxBI ++ (zxBA ++ zxBU), w.onTables = true := by decide +kernel
theorem zxsI : ∀ w ∈ zxBI, w ∈ zxBI ++ (zxBA ++ zxBU) := by decide +kernel
theorem zxsA : ∀ w ∈ zxBA, w ∈ zxBI ++ (zxBA ++ zxBU) := by decide +kernel
theorem zxsU : ∀ w ∈ zxBU, w ∈ zxBI ++ (zxBA ++ zxBU) := by decide +kernel
theorem zN_use {B : List Cond} {s : State} {args : Array Value} (hB : ∀ w ∈ B, w ∈ zxBI ++ (zxBA ++ zxBU)) (h : zN s) : ∀ w ∈ B, w.before args s = true := fun w hw => va_Nw.use (zN_onT w (hB w hw)) (h w (hB w hw))
def zXX (sr : Nat → Nat) (A : Nat → Prop) (s : State) (c : Code) : Prop := zU A s ∧ zStr sr s ∧ zN s ∧ ∀ x ∈ c.exceptionTable.toList, False
theorem z_metX {l : Launch} {y : MethodName} {wsY ws' : List Cond} {rm : Room} {D : va_G} {tys : List (ClassId × FieldType)} {tw sr : Nat → Nat} {W0 : va_W} {av : List Value} {cls : String} {cc : ByteArray} {nL : Nat} {ret : Option FieldType}
    (hy : plainName y.cls = true) (hw : wsY = Cond.code y cc nL ret :: ws') (hn : (lg_sl av).length ≤ nL) {lv : List (Nat × Value)} (hlv : lv_args 0 av = lv)
    (body : ∀ (V : zV) (p : Program) (e : Env) (s : State) (m : MethodId) (args : Array Value) (below : List Frame) (meth : Method) (c : Code) (A : Nat → Prop),
      zX V p l e rm s m args below meth c D tys tw A cc wsY y.cls nL ret (vx_MQ below (fun _ _ _ _ => False) (zXB D tys W0 cls A) args s 1 6 A) → zXX sr A s c → V 0 0 W0 lv [] 0) :
    zMetX l y wsY rm D tys tw sr W0 av cls := by
  intro sz
  refine vx_ofW (cc := cc) (maxL := nL) (ret := ret) hy hw ?_
  intro p e s m args below meth c s₁ B hml hex hv
  obtain ⟨rfl, ⟨hsz, hP, hK, hD0, hE⟩, hU, hSt, hNw⟩ := hv
  have hts := atoms_spec (ws := wsY) B.pre
  have hown : s.vm.findClass y.cls = some m.cls := findClass_of_methodNamed B.named
  subst hsz
  have hD := hD0.self (sz := s.heap.size)
  have hA : ∀ q : Nat, s.heap.size ≤ q → va_A W0 s.heap.size q := fun q h => Or.inr h
  have hl := lv_entry av (n := nL) hn
  rw [hlv] at hl
  rw [lg_entry_eq]
  exact body _ p e s m _ below meth c (va_A W0 s.heap.size) ⟨⟨B.exec, B.bytes, hml, hown, hts⟩, hK, hE, hA, B.returns, B.notSynchronized, rfl⟩ ⟨hU, hSt, hNw, hex⟩ s.heap [] _ hP hD va_S.rf hl
section ZX2
variable {V : zV} {p : Program} {l : Launch} {e : Env} {R : Room} {s : State} {m : MethodId} {args : Array Value} {below : List Frame} {meth : Method} {c : Code} {D : va_G} {tys : List (ClassId × FieldType)} {tw : Nat → Nat} {A : Nat → Prop} {cc : ByteArray} {Ts : List Cond} {own : String} {nL : Nat} {ret : Option FieldType} {Q : State → Prop} {k n : Nat} {ws : va_W} {lv : List (Nat × Value)} {st : List Value} {pc : Nat}
theorem z_tabIn (C : zX V p l e R s m args below meth c D tys tw A cc Ts own nL ret Q) {x : Int} (hx0 : -2147483648 ≤ x ∧ x < 2147483648) {dflt lo hi : Int} {offs : Array Int} {len : Nat} {off : Int} {tgt : Nat} (d : decode cc pc = .ok (.tableswitch dflt lo hi offs, len)) (h1 : ¬ x < lo) (h2 : ¬ hi < x) (ho : offs[(x - lo).toNat]? = some off) (ht : (pc : Int) + off = (tgt : Int)) (kk : V k n ws lv st tgt) : V k n ws lv (vI x :: st) pc := by
  obtain ⟨⟨hx, hb, hml, hown, hts⟩, hK, hE, hA, hr, hlk, rfl⟩ := C
  intro H locs ls hP hD hS hl
  exact lv_tableIn hx hb d (by rw [iI_toInt hx0]; exact h1) (by rw [iI_toInt hx0]; exact h2) (by rw [iI_toInt hx0]; exact ho) ht (kk H locs ls hP hD hS hl)
theorem z_tabOut (C : zX V p l e R s m args below meth c D tys tw A cc Ts own nL ret Q) {x : Int} (hx0 : -2147483648 ≤ x ∧ x < 2147483648) {dflt lo hi : Int} {offs : Array Int} {len : Nat} {tgt : Nat} (d : decode cc pc = .ok (.tableswitch dflt lo hi offs, len)) (h : x < lo ∨ hi < x) (ht : (pc : Int) + dflt = (tgt : Int)) (kk : V k n ws lv st tgt) : V k n ws lv (vI x :: st) pc := by
  obtain ⟨⟨hx, hb, hml, hown, hts⟩, hK, hE, hA, hr, hlk, rfl⟩ := C
  intro H locs ls hP hD hS hl
  exact lv_tableOut hx hb d (by rw [iI_toInt hx0]; exact h) ht (kk H locs ls hP hD hS hl)
end ZX2
section ZX3
variable {V : zV} {p : Program} {l : Launch} {e : Env} {R : Room} {s : State} {m : MethodId} {args : Array Value} {below : List Frame} {meth : Method} {c : Code} {D : va_G} {tys : List (ClassId × FieldType)} {tw sr : Nat → Nat} {A : Nat → Prop} {cc : ByteArray} {Ts : List Cond} {nL : Nat} {ret : Option FieldType} {ws : va_W} {lv : List (Nat × Value)} {pc : Nat}
theorem z_throwI (C : zX V p l e R s m args below meth c D tys tw A cc Ts RX7 nL ret (vx_MQ below (fun _ _ _ _ => False) (zXB D tys ws "java/lang/IllegalArgumentException" A) args s 1 6 A)) (hl : l.stackTraces = false) (X : zXX sr A s c) (is : Nat) (text : String) (hi : (is, text) ∈ strL) (hk : Cond.classLink RX7 107 "java/lang/IllegalArgumentException" ∈ Ts) (hini : Cond.initialized "java/lang/IllegalArgumentException" ∈ Ts) (hg : ∀ w ∈ (vx_atS RX7 111 "java/lang/IllegalArgumentException" zxnI).filter goodWord, w ∈ Ts) (d0 : decode cc pc = .ok (.new 107, 3)) (d3 : decode cc (pc + 3) = .ok (.dup, 1)) (d4 : decode cc (pc + 4) = .ok (.ldc is, 2)) (d6 : decode cc (pc + 6) = .ok (.invokespecial 111, 3)) (d9 : decode cc (pc + 9) = .ok (.athrow, 1)) (hR : 5 < R.frames ∧ 82 ≤ R.locals ∧ 1 ≤ R.cells ∧ 6 ≤ R.slots) : V 0 0 ws lv [] pc := by
  obtain ⟨⟨hx, hb, hml, hown, hts⟩, hK, hE, hA, hr, hlk, rfl⟩ := C
  obtain ⟨hU, hSt, hNw, hex⟩ := X
  intro H locs ls hP hD hS hl2
  refine vx_throwS hx hb hl hown (names := zxnI) (cls := "java/lang/IllegalArgumentException") (text := text) (ik := 107) (is := is) (ic := 111) (sa := sr is) (A := A) (by decide +kernel) (by decide +kernel) (hts _ hk) (hts _ hini) (hSt _ hi) ?_ zxoI hU.1 hU.2 hS (by rw [hl2.1]; exact hml.symm) d0 d3 d4 d6 d9 (fun x hx => absurd (hex x hx) id) hR.1 hR.2.1 hR.2.2.1 hR.2.2.2 hlk ?_ hS.2.2 (Nat.le_refl _) (Nat.le_refl _)
  · exact vx_hat (fun w hw => hts w (hg w hw)) zxfI (zN_use zxsI hNw)
  · intro t hvm hz hk9
    exact ⟨(), trivial, ⟨rfl, hP.kept (fun k q hq => hk9 q.1 (vx_lt hP hq)), va_K.moved hvm hK, hD⟩, Nat.le_trans hS.1 hz, fun q h1 h2 => by rw [hk9 q (Nat.lt_of_lt_of_le h1 hS.1)]; exact hS.2.1 q h1 h2⟩
theorem z_throwA (C : zX V p l e R s m args below meth c D tys tw A cc Ts RX7 nL ret (vx_MQ below (fun _ _ _ _ => False) (zXB D tys ws "java/lang/ArrayIndexOutOfBoundsException" A) args s 1 6 A)) (hl : l.stackTraces = false) (X : zXX sr A s c) (is : Nat) (text : String) (hi : (is, text) ∈ strL) (hk : Cond.classLink RX7 155 "java/lang/ArrayIndexOutOfBoundsException" ∈ Ts) (hini : Cond.initialized "java/lang/ArrayIndexOutOfBoundsException" ∈ Ts) (hg : ∀ w ∈ (vx_atS RX7 159 "java/lang/ArrayIndexOutOfBoundsException" zxnA).filter goodWord, w ∈ Ts) (d0 : decode cc pc = .ok (.new 155, 3)) (d3 : decode cc (pc + 3) = .ok (.dup, 1)) (d4 : decode cc (pc + 4) = .ok (.ldc is, 2)) (d6 : decode cc (pc + 6) = .ok (.invokespecial 159, 3)) (d9 : decode cc (pc + 9) = .ok (.athrow, 1)) (hR : 6 < R.frames ∧ 95 ≤ R.locals ∧ 1 ≤ R.cells ∧ 6 ≤ R.slots) : V 0 0 ws lv [] pc := by
  obtain ⟨⟨hx, hb, hml, hown, hts⟩, hK, hE, hA, hr, hlk, rfl⟩ := C
  obtain ⟨hU, hSt, hNw, hex⟩ := X
  intro H locs ls hP hD hS hl2
  refine vx_throwS hx hb hl hown (names := zxnA) (cls := "java/lang/ArrayIndexOutOfBoundsException") (text := text) (ik := 155) (is := is) (ic := 159) (sa := sr is) (A := A) (by decide +kernel) (by decide +kernel) (hts _ hk) (hts _ hini) (hSt _ hi) ?_ zxoA hU.1 hU.2 hS (by rw [hl2.1]; exact hml.symm) d0 d3 d4 d6 d9 (fun x hx => absurd (hex x hx) id) hR.1 hR.2.1 hR.2.2.1 hR.2.2.2 hlk ?_ hS.2.2 (Nat.le_refl _) (Nat.le_refl _)
  · exact vx_hat (fun w hw => hts w (hg w hw)) zxfA (zN_use zxsA hNw)
  · intro t hvm hz hk9
    exact ⟨(), trivial, ⟨rfl, hP.kept (fun k q hq => hk9 q.1 (vx_lt hP hq)), va_K.moved hvm hK, hD⟩, Nat.le_trans hS.1 hz, fun q h1 h2 => by rw [hk9 q (Nat.lt_of_lt_of_le h1 hS.1)]; exact hS.2.1 q h1 h2⟩
theorem z_throwU (C : zX V p l e R s m args below meth c D tys tw A cc Ts RX7 nL ret (vx_MQ below (fun _ _ _ _ => False) (zXB D tys ws "java/lang/UnsupportedOperationException" A) args s 1 6 A)) (hl : l.stackTraces = false) (X : zXX sr A s c) (is : Nat) (text : String) (hi : (is, text) ∈ strL) (hk : Cond.classLink RX7 163 "java/lang/UnsupportedOperationException" ∈ Ts) (hini : Cond.initialized "java/lang/UnsupportedOperationException" ∈ Ts) (hg : ∀ w ∈ (vx_atS RX7 167 "java/lang/UnsupportedOperationException" zxnU).filter goodWord, w ∈ Ts) (d0 : decode cc pc = .ok (.new 163, 3)) (d3 : decode cc (pc + 3) = .ok (.dup, 1)) (d4 : decode cc (pc + 4) = .ok (.ldc is, 2)) (d6 : decode cc (pc + 6) = .ok (.invokespecial 167, 3)) (d9 : decode cc (pc + 9) = .ok (.athrow, 1)) (hR : 5 < R.frames ∧ 82 ≤ R.locals ∧ 1 ≤ R.cells ∧ 6 ≤ R.slots) : V 0 0 ws lv [] pc := by
  obtain ⟨⟨hx, hb, hml, hown, hts⟩, hK, hE, hA, hr, hlk, rfl⟩ := C
  obtain ⟨hU, hSt, hNw, hex⟩ := X
  intro H locs ls hP hD hS hl2
  refine vx_throwS hx hb hl hown (names := zxnU) (cls := "java/lang/UnsupportedOperationException") (text := text) (ik := 163) (is := is) (ic := 167) (sa := sr is) (A := A) (by decide +kernel) (by decide +kernel) (hts _ hk) (hts _ hini) (hSt _ hi) ?_ zxoU hU.1 hU.2 hS (by rw [hl2.1]; exact hml.symm) d0 d3 d4 d6 d9 (fun x hx => absurd (hex x hx) id) hR.1 hR.2.1 hR.2.2.1 hR.2.2.2 hlk ?_ hS.2.2 (Nat.le_refl _) (Nat.le_refl _)
  · exact vx_hat (fun w hw => hts w (hg w hw)) zxfU (zN_use zxsU hNw)
  · intro t hvm hz hk9
    exact ⟨(), trivial, ⟨rfl, hP.kept (fun k q hq => hk9 q.1 (vx_lt hP hq)), va_K.moved hvm hK, hD⟩, Nat.le_trans hS.1 hz, fun q h1 h2 => by rw [hk9 q (Nat.lt_of_lt_of_le h1 hS.1)]; exact hS.2.1 q h1 h2⟩
end ZX3
theorem goodIn_mo {a b ws : List Cond} (hs : ∀ w ∈ a, w ∈ b) (h : GoodIn a ws) : GoodIn b ws := fun w hw => ⟨hs w (h w hw).1, (h w hw).2⟩
