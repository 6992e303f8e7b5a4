theorem lZ_tdiv {x y : Int} (hx : R64 x) (hy : R64 y) (hm : x ≠ -9223372036854775808) : lZ x / lZ y = lZ (x.tdiv y) := by
  have e : (lZ x / lZ y).toInt = x.tdiv y := by
    rw [Int64.toInt_div_of_ne_left _ _ (by intro h; have := congrArg Int64.toInt h; rw [lZ_toInt hx] at this; have hq : Int64.minValue.toInt = -9223372036854775808 := by decide
                                           omega), lZ_toInt hx, lZ_toInt hy]
  rw [← e, lZ_of]
theorem lZ_div {x y : Int} (h0 : 0 ≤ x) (h1 : x ≤ 9223372036854775807) (h2 : 0 < y) (h3 : y ≤ 9223372036854775807) : lZ x / lZ y = lZ (x / y) := by
  rw [lZ_tdiv ⟨by omega, h1⟩ ⟨by omega, h3⟩ (by omega), Int.tdiv_eq_ediv_of_nonneg h0]
theorem lZ_rem {x y : Int} (h0 : 0 ≤ x) (h1 : x ≤ 9223372036854775807) (h2 : 0 < y) (h3 : y ≤ 9223372036854775807) : lZ x - lZ x / lZ y * lZ y = lZ (x % y) := by
  rw [lZ_div h0 h1 h2 h3, lZ_mul, lZ_sub]
  congr 1
  have := Int.emod_add_mul_ediv x y
  have e : x / y * y = y * (x / y) := Int.mul_comm _ _
  omega
theorem lZ_ne0 {y : Int} (hy : R64 y) (h : y ≠ 0) : ¬ lZ y = 0 := fun q => h ((lZ_eq hy ⟨by decide, by decide⟩).mp q)
theorem iZ_ne0 {y : Int} (hy : R32 y) (h : y ≠ 0) : ¬ iZ y = 0 := fun q => h ((iZ_eq hy R32_0).mp q)
/-! ===== the laws' knots: a number as it is, else a token below 0 (11 or, 12 and, 13 not, 14 .. 20 names, 26 + 27 - 28 * 29 / 30 < 31 <= 32 = 33 <> 34 >= 35 >) ===== -/
def jn (t a b : Int) : Int :=
  if t = 11 then (if a ≠ 0 ∨ b ≠ 0 then 1 else 0) else if t = 12 then (if a ≠ 0 ∧ b ≠ 0 then 1 else 0)
  else if t = 30 then (if a < b then 1 else 0) else if t = 31 then (if a ≤ b then 1 else 0) else if t = 32 then (if a = b then 1 else 0) else if t = 33 then (if a ≠ b then 1 else 0) else if t = 34 then (if b ≤ a then 1 else 0) else if t = 35 then (if b < a then 1 else 0)
  else if t = 26 then a + b else if t = 27 then a - b
  else if t = 28 then (if a ≠ 0 ∧ 1000000000000 / max a (-a) < max b (-b) then (-9223372036854775808) else a * b)
  else (if b = 0 then (-9223372036854775808) else a.tdiv b)
def isOp (t : Int) : Prop := t = 11 ∨ t = 12 ∨ (26 ≤ t ∧ t ≤ 35)
def isKnot (k : Int) : Prop := (0 ≤ k ∧ k ≤ 9999) ∨ (13 ≤ -k ∧ -k ≤ 20) ∨ isOp (-k)
def evStep (nm : Int → Int) (l : List Int) (kn : Int) : Option (List Int) :=
  if 0 ≤ kn then some (kn :: l) else if 14 ≤ -kn ∧ -kn ≤ 20 then some (nm (-kn - 14) :: l)
  else if -kn = 13 then (match l with
    | x :: r => some ((if x = 0 then 1 else 0) :: r)
    | [] => none)
  else (match l with
    | y :: x :: r => if 1000000000000 < jn (-kn) x y ∨ jn (-kn) x y < -1000000000000 then none else some (jn (-kn) x y :: r)
    | _ => none)
def evRun (nm code : Int → Int) : Nat → Int → List Int → Option (List Int)
  | 0, _, l => some l
  | n + 1, k, l => match evStep nm l (code k) with
    | none => none
    | some l' => evRun nm code n (k + 1) l'
def evEnd (r : Option (List Int)) : Int := match r with
  | some [v] => v
  | _ => (-9223372036854775808)
def evLaw (nm code : Int → Int) (s e : Int) : Int := evEnd (evRun nm code (e - s).toNat s [])
/-- a row's first places are a list, its last one first -/
def StkIs (f : Int → Int) : List Int → Prop
  | [] => True
  | x :: r => f r.length = x ∧ StkIs f r
theorem StkIs.upd {f g : Int → Int} : ∀ {l : List Int} , StkIs f l → (∀ i, 0 ≤ i → i < l.length → g i = f i) → StkIs g l
  | [], _, _ => trivial
  | x :: r, h, hg => ⟨by rw [hg r.length (by omega) (by simp only [List.length_cons]; omega)]; exact h.1, StkIs.upd h.2 (fun i h0 h1 => hg i h0 (by simp only [List.length_cons]; omega))⟩
def allLim (l : List Int) : Prop := ∀ v ∈ l, -1000000000000 ≤ v ∧ v ≤ 1000000000000
theorem mul_lim {a b : Int} (ha : 0 < a) (hb : 0 ≤ b) (h : b ≤ 1000000000000 / a) : a * b ≤ 1000000000000 := by
  have h1 : a * b ≤ a * (1000000000000 / a) := Int.mul_le_mul_of_nonneg_left h (by omega)
  have h2 := Int.mul_ediv_self_le (x := 1000000000000) (k := a) (by omega)
  omega
