/-! pure: what the answers are, by numbers and rows of colours -/
def zer (I : Int → Bool) (T p : Int) : Int := if p < T then (if I p then 0 else 1 + zer I T (p + 1)) else 0
termination_by (T - p).toNat
decreasing_by omega
theorem zer_lt {I : Int → Bool} {T p : Int} (h : p < T) (hI : I p = true) : zer I T p = 0 := by rw [zer, if_pos h, if_pos hI]
theorem zer_st {I : Int → Bool} {T p : Int} (h : p < T) (hI : I p = false) : zer I T p = 1 + zer I T (p + 1) := by rw [zer, if_pos h, hI]; rfl
theorem zer_ge {I : Int → Bool} {T p : Int} (h : T ≤ p) : zer I T p = 0 := by rw [zer, if_neg (by omega)]
theorem zer_rg (I : Int → Bool) (T p : Int) (h : p ≤ T) : 0 ≤ zer I T p ∧ zer I T p ≤ T - p := by
  rcases Int.lt_or_le p T with h1 | h1
  · cases hI : I p with
    | true => rw [zer_lt h1 hI]; omega
    | false => rw [zer_st h1 hI]; have := zer_rg I T (p + 1) (by omega); omega
  · rw [zer_ge h1]; omega
termination_by (T - p).toNat
decreasing_by omega
def isMk (I : Int → Bool) (T p : Int) : Bool := decide (11 ≤ zer I T p ∧ zer I T p < T - p)
def fmk (I : Int → Bool) (T i z : Int) : Int := if i < T then (if I i then (if 11 ≤ z then i + 1 else fmk I T (i + 1) 0) else fmk I T (i + 1) (z + 1)) else -1
termination_by (T - i).toNat
decreasing_by all_goals omega
theorem fmk_hit {I : Int → Bool} {T i z : Int} (h : i < T) (hI : I i = true) (hz : 11 ≤ z) : fmk I T i z = i + 1 := by rw [fmk, if_pos h, if_pos hI, if_pos hz]
theorem fmk_one {I : Int → Bool} {T i z : Int} (h : i < T) (hI : I i = true) (hz : ¬ 11 ≤ z) : fmk I T i z = fmk I T (i + 1) 0 := by rw [fmk, if_pos h, if_pos hI, if_neg hz]
theorem fmk_zero {I : Int → Bool} {T i z : Int} (h : i < T) (hI : I i = false) : fmk I T i z = fmk I T (i + 1) (z + 1) := by rw [fmk, if_pos h, hI]; rfl
theorem fmk_end {I : Int → Bool} {T i z : Int} (h : T ≤ i) : fmk I T i z = -1 := by rw [fmk, if_neg (by omega)]
def nxt (f : Int → Bool) (N x : Int) (d : Bool) : Int := if x < N then (if f x = d then x else nxt f N (x + 1) d) else N
termination_by (N - x).toNat
decreasing_by omega
theorem nxt_at {f : Int → Bool} {N x : Int} {d : Bool} (h : x < N) (hf : f x = d) : nxt f N x d = x := by rw [nxt, if_pos h, if_pos hf]
theorem nxt_ne {f : Int → Bool} {N x : Int} {d : Bool} (h : x < N) (hf : ¬ f x = d) : nxt f N x d = nxt f N (x + 1) d := by rw [nxt, if_pos h, if_neg hf]
theorem nxt_ge {f : Int → Bool} {N x : Int} {d : Bool} (h : N ≤ x) : nxt f N x d = N := by rw [nxt, if_neg (by omega)]
theorem nxt_rg (f : Int → Bool) (N x : Int) (d : Bool) : nxt f N x d ≤ N ∧ (x ≤ N → x ≤ nxt f N x d) := by
  rcases Int.lt_or_le x N with h | h
  · by_cases hf : f x = d
    · rw [nxt_at h hf]; omega
    · rw [nxt_ne h hf]
      have := nxt_rg f N (x + 1) d
      omega
  · rw [nxt_ge h]; omega
termination_by (N - x).toNat
decreasing_by omega
theorem nxt_skip {f : Int → Bool} {N x : Int} {d : Bool} (n : Nat) (h : ∀ j, x ≤ j → j < x + (n : Int) → j < N → ¬ f j = d) : nxt f N x d = nxt f N (x + (n : Int)) d := by
  induction n with
  | zero => simp
  | succ n ih =>
    rw [ih (fun j h1 h2 h3 => h j h1 (by omega) h3)]
    rcases Int.lt_or_le (x + (n : Int)) N with h4 | h4
    · rw [nxt_ne h4 (h _ (by omega) (by omega) h4), show x + (n : Int) + 1 = x + ((n + 1 : Nat) : Int) by omega]
    · rw [nxt_ge h4, nxt_ge (by omega)]
