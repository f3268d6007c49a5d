/-! the worlds: what the cells of the class and of the reference hold, by numbers -/
def tB (d : Bool) (i : Nat) : Int := if d then lenD i else lenW i
def tC (d : Bool) (i : Nat) : Int := if d then ([15, 3, 3, 2, 2, 3, 2, 3, 2, 7, 6, 5, 4, 14, 13, 12, 11, 10, 9, 8, 7, 55, 54, 53, 52, 51, 50, 49, 48, 47, 46, 45, 44, 43, 42, 41, 40, 39, 38, 37, 36, 35, 34, 33, 32, 31, 30, 29, 28, 27, 26, 25, 24, 23, 22, 21, 20, 19, 18, 17, 16, 15, 14, 13, 12, 11, 10, 9, 8, 7, 6, 5, 4, 3] : List Int).getD i 0 else ([63, 27, 15, 14, 13, 12, 11, 10, 19, 18, 17, 16, 26, 25, 24, 23, 22, 21, 41, 40, 39, 38, 37, 36, 35, 34, 33, 32, 62, 61, 60, 59, 58, 57, 56, 55, 54, 53, 52, 51, 50, 49, 48, 47, 46, 45, 44, 43, 42, 41, 40, 39, 38, 37, 36, 35, 34, 33, 32, 31, 30, 29, 28, 27, 15, 14, 26, 25, 24, 23, 22, 21, 20, 19] : List Int).getD i 0
def tO (d : Bool) (i : Nat) : Int := if d then ([2, 3, 1, 4, 5, 6, 7, 8, 9, 10, 11, 12, 0, 13, 14, 15, 16, 17, 18, 19, 20, 21, 22, 23, 24, 25, 26, 27, 28, 29, 30, 31, 32, 33, 34, 35, 36, 37, 38, 39, 40, 41, 42, 43, 44, 45, 46, 47, 48, 49, 50, 51, 52, 53, 54, 55, 56, 57, 58, 59, 60, 61, 62, 63, 64, 65, 66, 67, 68, 69, 70, 71, 72, 73] : List Int).getD i 0 else ([2, 3, 4, 5, 6, 7, 8, 9, 10, 11, 64, 65, 1, 12, 13, 14, 15, 16, 17, 18, 19, 20, 21, 22, 23, 24, 25, 26, 27, 0, 28, 29, 30, 31, 32, 33, 34, 35, 36, 37, 38, 39, 40, 41, 42, 43, 44, 45, 46, 47, 48, 49, 50, 51, 52, 53, 54, 55, 56, 57, 58, 59, 60, 61, 62, 63, 66, 67, 68, 69, 70, 71, 72, 73] : List Int).getD i 0
def tF (d : Bool) (i : Nat) : Int := if d then ([3072, 2048, 1536, 1024, 768, 512, 384, 256, 224, 192, 160, 128, 120, 112, 104, 96, 88, 80, 72, 64, 56, 55, 54, 53, 52, 51, 50, 49, 48, 47, 46, 45, 44, 43, 42, 41, 40, 39, 38, 37, 36, 35, 34, 33, 32, 31, 30, 29, 28, 27, 26, 25, 24, 23, 22, 21, 20, 19, 18, 17, 16, 15, 14, 13, 12, 11, 10, 9, 8, 7, 6, 5, 4, 3] : List Int).getD i 0 else ([3840, 3584, 3328, 3072, 2816, 2560, 2432, 2304, 2176, 2048, 1920, 1792, 1728, 1664, 1600, 1536, 1472, 1408, 1344, 1312, 1280, 1248, 1216, 1184, 1152, 1120, 1088, 1056, 1024, 1008, 992, 976, 960, 944, 928, 912, 896, 880, 864, 848, 832, 816, 800, 784, 768, 752, 736, 720, 704, 688, 672, 656, 640, 624, 608, 592, 576, 560, 544, 528, 512, 496, 480, 464, 448, 432, 416, 400, 384, 368, 352, 336, 320, 304] : List Int).getD i 0
def zT (cy : Nat → ClassId) : List (ClassId × FieldType) := [(cy 0, .byte), (cy 1, .int), (cy 2, .long), (cy 3, .boolean)]
def wn (co : Int) : Nat := (24 * ((co + 63) / 64)).toNat
def on (co : Int) : Nat := (3 * (7 * co + 60) + 16).toNat
def ow (co : Int) : Nat := (24 * (7 * co + 60) / 64 + 4).toNat
theorem ow_eq {co : Int} (h : 1 ≤ co) : (ow co : Int) = 24 * (7 * co + 60) / 64 + 4 := by unfold ow; omega
theorem wn_eq {co : Int} (h : 1 ≤ co) : (wn co : Int) = 24 * ((co + 63) / 64) := by unfold wn; omega
theorem on_eq {co : Int} (h : 1 ≤ co) : (on co : Int) = 3 * (7 * co + 60) + 16 := by unfold on; omega
def isRunN (n : Nat) : Bool := decide (n < 64) || (decide (n ≤ 640) && n % 64 == 0)
def slotN (n : Nat) : Nat := if n < 64 then n else 63 + n / 64
def mB (k : Nat) : Int := if isRunN (k % 704) then tB (k / 704 == 1) (slotN (k % 704)) else 0
def mC (k : Nat) : Int := if isRunN (k % 704) then tC (k / 704 == 1) (slotN (k % 704)) else 0
def CW (cy : Nat → ClassId) (a : Nat → Nat) (kd : Int) (co : Int) (mk : Bool) (al : Bool) (dz : Bool) (rd : Bool) (rw : Int) (wo : Nat → BitVec 64) (sa : Nat → Int) (sz : Int) (ps : Int) (bt : Nat → Int) (ou : Nat → BitVec 64) (bi : Int) (dm : Int) (pl : Bool) (re : Int) (cu : Bool) : va_W := [(a 0, .inr (9, [.ref (a 1), .ref (a 2), .ref (a 3), .ref (a 4), .ref (a 5), .ref (a 6), .ref (a 7), .ref (a 8)])),
  (a 1, .inr (7, [vI kd, vI (b2i mk), vI (b2i al), vI (b2i dz), vI (b2i rd)])),
  (a 2, .inr (4, [vI co, vI rw, vI ((co + 63) / 64), .ref (a 9), .ref (a 10)])),
  (a 3, .inr (8, [.ref (a 11), .ref (a 12), .ref (a 13), .ref (a 14)])),
  (a 4, .inr (8, [.ref (a 15), .ref (a 16), .ref (a 17), .ref (a 18)])),
  (a 5, .inr (2, [vI sz, vI ps, .ref (a 19)])),
  (a 6, .inr (3, [.ref (a 20), vI bi])),
  (a 7, .inr (6, [.ref (a 1), .ref (a 2), .ref (a 3), .ref (a 4), .ref (a 6)])),
  (a 8, .inr (5, [vI dm, .ref (a 1), .ref (a 2), .ref (a 3), .ref (a 4), .ref (a 5), vI (b2i pl), vI re, vI (b2i cu)])),
  (a 9, aJ (cy 2) (wn co) wo),
  (a 10, aI (cy 1) 24 sa),
  (a 11, aI (cy 1) 74 (tB false)),
  (a 12, aI (cy 1) 74 (tC false)),
  (a 13, aI (cy 1) 74 (tO false)),
  (a 14, aI (cy 1) 74 (tF false)),
  (a 15, aI (cy 1) 74 (tB true)),
  (a 16, aI (cy 1) 74 (tC true)),
  (a 17, aI (cy 1) 74 (tO true)),
  (a 18, aI (cy 1) 74 (tF true)),
  (a 19, aB (cy 0) 400 bt),
  (a 20, aJ (cy 2) (ow co) ou)]
def MW (cy : Nat → ClassId) (b : Nat → Nat) (kd : Int) (co : Int) (th : Int) (rw : Int) (cl : Int) (wr : Int) (po : Int) (dm : Int) (sx : Int) (aa : Int) (dk : Bool) (fi : Bool) (bb : Int) (cz : Int) (hm : Bool) (se : Nat → Bool) (da : Nat → Bool) (sa : Nat → Int) (bt : Nat → Int) (oz : Nat → Bool) : va_W := [(b 0, .inr (10, [vI th, vI kd, vI co, .ref (b 1), .ref (b 2), .ref (b 3), vI rw, .ref (b 4), .ref (b 5), vI cl, .ref (b 6), vI wr, .ref (b 7), vI po, vI dm, vI sx, vI aa, vI (b2i dk), vI (b2i fi), vI bb, vI cz, vI (b2i hm)])),
  (b 1, aI (cy 1) 1408 (mC)),
  (b 2, aI (cy 1) 1408 (mB)),
  (b 3, aZ (cy 3) 4 se),
  (b 4, aZ (cy 3) 16800 da),
  (b 5, aI (cy 1) 24 sa),
  (b 6, aI (cy 1) 400 bt),
  (b 7, aZ (cy 3) 140000 oz)]
section ZSTAT
variable {V : zV} {p : Program} {l : Launch} {e : Env} {R : Room} {s : State} {m : MethodId} {args : Array Value} {below : List Frame} {meth : Method} {c : Code} {D : va_G} {tys : List (ClassId × FieldType)} {tw : Nat → Nat} {A : Nat → Prop} {cc : ByteArray} {Ts : List Cond} {own : String} {nL : Nat} {ret : Option FieldType} {Q : State → Prop} {k n : Nat} {ws : va_W} {lv : List (Nat × Value)} {st : List Value} {pc : Nat}
theorem z_stat0X4 (C : zX V p l e R s m args below meth c D tys tw A cc Ts RX4 nL ret Q) (d : decode cc pc = .ok (.getstatic 95, 3)) (kk : V k n ws lv (.ref (tw 0) :: st) (pc + 3)) : V k n ws lv st pc := by
  obtain ⟨⟨hx, hb, hml, hown, hts⟩, hK, hE, hA, hr, hlk, rfl⟩ := C
  intro H locs ls hP hD hS hl
  obtain ⟨e1, e2, e3, e4, e5, e6, e7, e8, e9⟩ := hE
  exact va_getsN hx hb e6.1 hS hown (va_Nw.use rfl e2) (fun _ h => h) d (kk H locs ls hP hD hS hl)
theorem z_stat1X4 (C : zX V p l e R s m args below meth c D tys tw A cc Ts RX4 nL ret Q) (d : decode cc pc = .ok (.getstatic 99, 3)) (kk : V k n ws lv (.ref (tw 1) :: st) (pc + 3)) : V k n ws lv st pc := by
  obtain ⟨⟨hx, hb, hml, hown, hts⟩, hK, hE, hA, hr, hlk, rfl⟩ := C
  intro H locs ls hP hD hS hl
  obtain ⟨e1, e2, e3, e4, e5, e6, e7, e8, e9⟩ := hE
  exact va_getsN hx hb e7.1 hS hown (va_Nw.use rfl e3) (fun _ h => h) d (kk H locs ls hP hD hS hl)
theorem z_stat0X3 (C : zX V p l e R s m args below meth c D tys tw A cc Ts RX3 nL ret Q) (d : decode cc pc = .ok (.getstatic 146, 3)) (kk : V k n ws lv (.ref (tw 0) :: st) (pc + 3)) : V k n ws lv st pc := by
  obtain ⟨⟨hx, hb, hml, hown, hts⟩, hK, hE, hA, hr, hlk, rfl⟩ := C
  intro H locs ls hP hD hS hl
  obtain ⟨e1, e2, e3, e4, e5, e6, e7, e8, e9⟩ := hE
  exact va_getsN hx hb e6.1 hS hown (va_Nw.use rfl e4) (fun _ h => h) d (kk H locs ls hP hD hS hl)
theorem z_stat1X3 (C : zX V p l e R s m args below meth c D tys tw A cc Ts RX3 nL ret Q) (d : decode cc pc = .ok (.getstatic 150, 3)) (kk : V k n ws lv (.ref (tw 1) :: st) (pc + 3)) : V k n ws lv st pc := by
  obtain ⟨⟨hx, hb, hml, hown, hts⟩, hK, hE, hA, hr, hlk, rfl⟩ := C
  intro H locs ls hP hD hS hl
  obtain ⟨e1, e2, e3, e4, e5, e6, e7, e8, e9⟩ := hE
  exact va_getsN hx hb e7.1 hS hown (va_Nw.use rfl e5) (fun _ h => h) d (kk H locs ls hP hD hS hl)
end ZSTAT
