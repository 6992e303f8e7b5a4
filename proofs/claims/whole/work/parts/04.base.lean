/-! ===== numbers: ints and longs as whole numbers ===== -/
def iZ (z : Int) : Int32 := Int32.ofInt z
def lZ (z : Int) : Int64 := Int64.ofInt z
abbrev R32 (z : Int) : Prop := -2147483648 ≤ z ∧ z ≤ 2147483647
abbrev R64 (z : Int) : Prop := -9223372036854775808 ≤ z ∧ z ≤ 9223372036854775807
theorem iZ_toInt {z : Int} (h : R32 z) : (iZ z).toInt = z := Int32.toInt_ofInt_of_le (by have := h.1; simpa using this) (by have := h.2; omega)
theorem lZ_toInt {z : Int} (h : R64 z) : (lZ z).toInt = z := Int64.toInt_ofInt_of_le (by have := h.1; simpa using this) (by have := h.2; omega)
theorem iZ_of (x : Int32) : iZ x.toInt = x := Int32.ofInt_toInt x
theorem lZ_of (x : Int64) : lZ x.toInt = x := Int64.ofInt_toInt x
theorem R32_of (x : Int32) : R32 x.toInt := ⟨by have := Int32.le_toInt x; simpa using this, by have := Int32.toInt_lt x; omega⟩
theorem R64_of (x : Int64) : R64 x.toInt := ⟨by have := Int64.le_toInt x; simpa using this, by have := Int64.toInt_lt x; omega⟩
theorem iZ_add (a b : Int) : iZ a + iZ b = iZ (a + b) := (Int32.ofInt_add a b).symm
theorem iZ_sub (a b : Int) : iZ a - iZ b = iZ (a - b) := (Int32.ofInt_sub a b).symm
theorem iZ_mul (a b : Int) : iZ a * iZ b = iZ (a * b) := (Int32.ofInt_mul a b).symm
theorem iZ_neg (a : Int) : - iZ a = iZ (-a) := (Int32.ofInt_neg a).symm
theorem lZ_add (a b : Int) : lZ a + lZ b = lZ (a + b) := (Int64.ofInt_add a b).symm
theorem lZ_sub (a b : Int) : lZ a - lZ b = lZ (a - b) := (Int64.ofInt_sub a b).symm
theorem lZ_mul (a b : Int) : lZ a * lZ b = lZ (a * b) := (Int64.ofInt_mul a b).symm
theorem lZ_neg (a : Int) : - lZ a = lZ (-a) := (Int64.ofInt_neg a).symm
theorem iZ_lt {a b : Int} (ha : R32 a) (hb : R32 b) : iZ a < iZ b ↔ a < b := by rw [Int32.lt_iff_toInt_lt, iZ_toInt ha, iZ_toInt hb]
theorem iZ_le {a b : Int} (ha : R32 a) (hb : R32 b) : iZ a ≤ iZ b ↔ a ≤ b := by rw [Int32.le_iff_toInt_le, iZ_toInt ha, iZ_toInt hb]
theorem iZ_eq {a b : Int} (ha : R32 a) (hb : R32 b) : iZ a = iZ b ↔ a = b := ⟨fun h => by rw [← iZ_toInt ha, ← iZ_toInt hb, h], fun h => by rw [h]⟩
theorem lZ_lt {a b : Int} (ha : R64 a) (hb : R64 b) : lZ a < lZ b ↔ a < b := by rw [Int64.lt_iff_toInt_lt, lZ_toInt ha, lZ_toInt hb]
theorem lZ_le {a b : Int} (ha : R64 a) (hb : R64 b) : lZ a ≤ lZ b ↔ a ≤ b := by rw [Int64.le_iff_toInt_le, lZ_toInt ha, lZ_toInt hb]
theorem lZ_eq {a b : Int} (ha : R64 a) (hb : R64 b) : lZ a = lZ b ↔ a = b := ⟨fun h => by rw [← lZ_toInt ha, ← lZ_toInt hb, h], fun h => by rw [h]⟩
theorem iZ_0 : iZ 0 = 0 := rfl
theorem iZ_i2l {a : Int} (ha : R32 a) : (iZ a).toInt64 = lZ a := by
  rw [← lZ_of (iZ a).toInt64, Int32.toInt_toInt64, iZ_toInt ha]
theorem iZ_ix {z : Int} (h0 : 0 ≤ z) (h1 : z ≤ 2147483647) : (iZ z).toNatClampNeg = z.toNat := by
  show (iZ z).toInt.toNat = _
  rw [iZ_toInt ⟨by omega, h1⟩]
theorem iZ_in {z : Int} {n : Nat} (h0 : 0 ≤ z) (h1 : z < n) (hn : n < 2147483648) : vp_in (iZ z) n := by
  rw [vp_in_iff, iZ_toInt ⟨by omega, by omega⟩]
  exact ⟨h0, h1⟩
/-! ===== one memory: cell, place -> number ===== -/
abbrev Sg : Type := (Nat → Int → Int) × (Nat → Int → Int)
def sI (σ : Sg) (k : Nat) (j v : Int) : Sg := (fun a i => if a = k ∧ i = j then v else σ.1 a i, σ.2)
def sJ (σ : Sg) (k : Nat) (j v : Int) : Sg := (σ.1, fun a i => if a = k ∧ i = j then v else σ.2 a i)
theorem sI_1 (σ : Sg) (k : Nat) (j v : Int) (a : Nat) (i : Int) : (sI σ k j v).1 a i = if a = k ∧ i = j then v else σ.1 a i := rfl
theorem sI_2 (σ : Sg) (k : Nat) (j v : Int) : (sI σ k j v).2 = σ.2 := rfl
theorem sJ_1 (σ : Sg) (k : Nat) (j v : Int) : (sJ σ k j v).1 = σ.1 := rfl
theorem sJ_2 (σ : Sg) (k : Nat) (j v : Int) (a : Nat) (i : Int) : (sJ σ k j v).2 a i = if a = k ∧ i = j then v else σ.2 a i := rfl
/-- a cell: an array (0 int, 1 long, 2 byte, 3 boolean; its length), or an object (its class; of each field 0 an int, 1 a long, k + 2 the cell k) -/
abbrev Cl : Type := (Nat × Nat) ⊕ (Nat × List Nat)
def lay : List Cl := [
  .inr (11, [3, 0, 4, 20, 41, 46, 51, 0, 56, 58, 64, 72, 80]),
  .inl (2, 700),
  .inr (9, [0, 0, 0, 0, 0, 0, 0, 0, 5, 6, 7, 8, 9, 10, 11, 12, 13, 14, 15]),
  .inl (0, 4),
  .inl (0, 4),
  .inl (0, 4),
  .inl (0, 6),
  .inl (0, 6),
  .inl (0, 6),
  .inl (0, 12),
  .inl (0, 12),
  .inl (0, 12),
  .inl (0, 16),
  .inr (3, [16, 17, 18, 19, 0]),
  .inl (0, 64),
  .inl (0, 3),
  .inl (0, 3),
  .inl (1, 64),
  .inr (5, [21, 23, 25, 0, 0]),
  .inr (8, [3, 22, 0, 0, 0, 0, 0, 0, 0]),
  .inl (0, 21),
  .inr (7, [21, 24, 0, 0, 0]),
  .inl (0, 72),
  .inr (9, [0, 0, 0, 0, 0, 0, 0, 0, 26, 27, 28, 29, 30, 31, 32, 33, 34, 35, 36]),
  .inl (0, 4),
  .inl (0, 4),
  .inl (0, 4),
  .inl (0, 6),
  .inl (0, 6),
  .inl (0, 6),
  .inl (0, 12),
  .inl (0, 12),
  .inl (0, 12),
  .inl (0, 16),
  .inr (3, [37, 38, 39, 40, 0]),
  .inl (0, 64),
  .inl (0, 3),
  .inl (0, 3),
  .inl (1, 64),
  .inr (2, [4, 42, 43, 44, 45, 0, 0, 1, 0, 0, 0]),
  .inl (0, 16),
  .inl (0, 16),
  .inl (0, 6),
  .inl (0, 6),
  .inr (2, [4, 47, 48, 49, 50, 0, 0, 1, 0, 0, 0]),
  .inl (0, 16),
  .inl (0, 16),
  .inl (0, 6),
  .inl (0, 6),
  .inr (2, [4, 52, 53, 54, 55, 0, 0, 1, 0, 0, 0]),
  .inl (0, 16),
  .inl (0, 16),
  .inl (0, 6),
  .inl (0, 6),
  .inr (10, [4, 57]),
  .inl (1, 7),
  .inr (0, [59, 60, 61, 62, 63, 0, 0]),
  .inl (0, 20),
  .inl (0, 20),
  .inl (0, 20),
  .inl (0, 20),
  .inl (0, 20),
  .inr (6, [65, 66, 67, 68, 69, 70, 71, 0, 0]),
  .inl (0, 24),
  .inl (0, 24),
  .inl (0, 24),
  .inl (0, 24),
  .inl (0, 24),
  .inl (3, 24),
  .inl (3, 24),
  .inr (1, [56, 64, 4, 73, 78, 79, 0, 0]),
  .inr (2, [4, 74, 75, 76, 77, 0, 0, 1, 0, 0, 0]),
  .inl (0, 16),
  .inl (0, 16),
  .inl (0, 6),
  .inl (0, 6),
  .inl (0, 40),
  .inl (0, 40),
  .inr (4, [4, 56, 81, 82, 83, 0]),
  .inl (0, 28),
  .inl (0, 4),
  .inl (0, 4),
  .inr (12, [0, 85, 0, 86, 87, 88, 89, 90, 91, 92, 93, 94, 95, 96, 97, 98, 99, 100, 101, 0, 0, 0, 0, 0, 0, 0, 0, 0, 0, 0, 0, 0, 102, 103, 0, 104, 105, 106, 107, 108, 109, 110, 0, 0, 0, 0, 111, 112, 0, 0, 0, 0, 113, 0, 0, 114, 115, 116, 117, 118, 119, 120, 121]),
  .inl (0, 700),
  .inl (0, 14),
  .inl (0, 8),
  .inl (0, 8),
  .inl (0, 8),
  .inl (0, 32),
  .inl (0, 12),
  .inl (0, 12),
  .inl (0, 12),
  .inl (0, 24),
  .inl (0, 24),
  .inl (0, 24),
  .inl (0, 24),
  .inl (0, 6),
  .inl (0, 6),
  .inl (0, 128),
  .inl (0, 128),
  .inl (1, 7),
  .inl (1, 64),
  .inl (0, 23),
  .inl (0, 23),
  .inl (0, 23),
  .inl (0, 368),
  .inl (0, 368),
  .inl (0, 138),
  .inl (0, 138),
  .inl (0, 4),
  .inl (0, 4),
  .inl (0, 4),
  .inl (0, 24),
  .inl (0, 24),
  .inl (0, 24),
  .inl (0, 24),
  .inl (3, 24),
  .inl (0, 24),
  .inl (3, 24),
  .inl (0, 120)]
def tyC (t : Nat) : FieldType := match t with
  | 0 => .int
  | 1 => .long
  | 2 => .byte
  | _ => .boolean
def fvl (B : Nat) (σ : Sg) (k j f : Nat) : Value := match f with
  | 0 => .int (iZ (σ.1 k j))
  | 1 => .long (lZ (σ.2 k j))
  | t + 2 => .ref (B + t)
def avl (σ : Sg) (k t : Nat) : (Nat → Int32) ⊕ (Nat → Int64) ⊕ (Nat → UInt32) ⊕ (Nat → UInt64) ⊕ (Nat → Option Nat) := match t with
  | 1 => .inr (.inl (fun i => lZ (σ.2 k i)))
  | _ => .inl (fun i => iZ (σ.1 k i))
def ent (cA : Nat → ClassId) (B : Nat) (σ : Sg) (k : Nat) (c : Cl) : va_E := match c with
  | .inl (t, n) => .inl (cA t, n, avl σ k t)
  | .inr (ci, fl) => .inr (ci, fl.mapIdx (fun j f => fvl B σ k j f))
def wsOf (cA : Nat → ClassId) (B : Nat) (σ : Sg) : va_W := lay.mapIdx (fun k c => (B + k, ent cA B σ k c))
def tysOf (cA : Nat → ClassId) : List (ClassId × FieldType) := [(cA 0, .int), (cA 1, .long), (cA 2, .byte), (cA 3, .boolean)]
theorem ws_get {cA : Nat → ClassId} {B : Nat} {σ : Sg} {k : Nat} {c : Cl} (h : lay[k]? = some c) : (wsOf cA B σ)[k]? = some (B + k, ent cA B σ k c) := by
  simp [wsOf, List.getElem?_mapIdx, h]
theorem ws_set {cA : Nat → ClassId} {B : Nat} {σ σ' : Sg} {k : Nat} {c : Cl} (h : lay[k]? = some c) (hs : ∀ a c', a ≠ k → ent cA B σ' a c' = ent cA B σ a c') {e : va_E} (he : e = ent cA B σ' k c) : (wsOf cA B σ).set k (B + k, e) = wsOf cA B σ' := by
  apply List.ext_getElem?
  intro i
  rw [List.getElem?_set]
  by_cases hi : k = i
  · subst hi
    have hl : k < (wsOf cA B σ).length := (List.getElem?_eq_some_iff.mp (ws_get (cA := cA) (B := B) (σ := σ) h)).1
    rw [if_pos rfl, if_pos hl, ws_get h, he]
  · rw [if_neg hi]
    simp only [wsOf, List.getElem?_mapIdx]
    cases hq : lay[i]? with
    | none => rfl
    | some c' => simp only [Option.map_some]; rw [hs i c' (fun q => hi q.symm)]
theorem ent_I {cA : Nat → ClassId} {B : Nat} {σ : Sg} {k : Nat} {j v : Int} (a : Nat) (c : Cl) (h : a ≠ k) : ent cA B (sI σ k j v) a c = ent cA B σ a c := by
  have h1 : ∀ i, (sI σ k j v).1 a i = σ.1 a i := fun i => by rw [sI_1, if_neg (fun q => h q.1)]
  cases c with
  | inl q =>
    obtain ⟨t, n⟩ := q
    simp only [ent]
    congr 3
    unfold avl
    split <;> simp only [sI_2, h1]
  | inr q =>
    obtain ⟨ci, fl⟩ := q
    simp only [ent]
    congr 2
    apply congrArg (fun f => List.mapIdx f fl)
    funext i f
    unfold fvl
    split <;> simp only [sI_2, h1]
theorem ent_J {cA : Nat → ClassId} {B : Nat} {σ : Sg} {k : Nat} {j v : Int} (a : Nat) (c : Cl) (h : a ≠ k) : ent cA B (sJ σ k j v) a c = ent cA B σ a c := by
  have h1 : ∀ i, (sJ σ k j v).2 a i = σ.2 a i := fun i => by rw [sJ_2, if_neg (fun q => h q.1)]
  cases c with
  | inl q =>
    obtain ⟨t, n⟩ := q
    simp only [ent]
    congr 3
    unfold avl
    split <;> simp only [sJ_1, h1]
  | inr q =>
    obtain ⟨ci, fl⟩ := q
    simp only [ent]
    congr 2
    apply congrArg (fun f => List.mapIdx f fl)
    funext i f
    unfold fvl
    split <;> simp only [sJ_1, h1]
/-! ===== the judgement ===== -/
abbrev Gx : Type := Launch × va_G × (Nat → ClassId) × Nat
def gA (G : Gx) : Nat → Prop := fun q => G.2.2.2 ≤ q ∧ q < G.2.2.2 + lay.length
def gW (G : Gx) (σ : Sg) : va_W := wsOf G.2.2.1 G.2.2.2 σ
def gP (G : Gx) (σ : Sg) (H : Heap) : Prop := va_P G.2.1 vwCl (gW G σ) H
/-- the texts that are constants: where they lie (by the fourth and later places of the array classes' row), how long, their bytes -/
def gSA (G : Gx) (i : Nat) : Nat := G.2.2.1 (4 + 2 * i)
def gSV (G : Gx) (i : Nat) : Nat := G.2.2.1 (5 + 2 * i)
def strT : List (String × Nat × String) := [("BeatenBoundsModel", 179, "land parish child beat cake rain seed law walk quarl grow or and not legs mood tired sweet wet far year "), ("BeatenBounds$Tokens", 21, "land  parishchild beat  cake  rain  seed  law   walk  quarl grow  "), ("BeatenBounds$Tokens", 19, "or    and   not   legs  mood  tired sweet wet   far   year  "), ("BeatenBounds", 141, "no such parish"), ("BeatenBounds", 148, "no such what")]
def strL : List Nat := [104, 66, 60, 14, 12]
def strB : List (List Int32) := [[108, 97, 110, 100, 32, 112, 97, 114, 105, 115, 104, 32, 99, 104, 105, 108, 100, 32, 98, 101, 97, 116, 32, 99, 97, 107, 101, 32, 114, 97, 105, 110, 32, 115, 101, 101, 100, 32, 108, 97, 119, 32, 119, 97, 108, 107, 32, 113, 117, 97, 114, 108, 32, 103, 114, 111, 119, 32, 111, 114, 32, 97, 110, 100, 32, 110, 111, 116, 32, 108, 101, 103, 115, 32, 109, 111, 111, 100, 32, 116, 105, 114, 101, 100, 32, 115, 119, 101, 101, 116, 32, 119, 101, 116, 32, 102, 97, 114, 32, 121, 101, 97, 114, 32], [108, 97, 110, 100, 32, 32, 112, 97, 114, 105, 115, 104, 99, 104, 105, 108, 100, 32, 98, 101, 97, 116, 32, 32, 99, 97, 107, 101, 32, 32, 114, 97, 105, 110, 32, 32, 115, 101, 101, 100, 32, 32, 108, 97, 119, 32, 32, 32, 119, 97, 108, 107, 32, 32, 113, 117, 97, 114, 108, 32, 103, 114, 111, 119, 32, 32], [111, 114, 32, 32, 32, 32, 97, 110, 100, 32, 32, 32, 110, 111, 116, 32, 32, 32, 108, 101, 103, 115, 32, 32, 109, 111, 111, 100, 32, 32, 116, 105, 114, 101, 100, 32, 115, 119, 101, 101, 116, 32, 119, 101, 116, 32, 32, 32, 102, 97, 114, 32, 32, 32, 121, 101, 97, 114, 32, 32], [110, 111, 32, 115, 117, 99, 104, 32, 112, 97, 114, 105, 115, 104], [110, 111, 32, 115, 117, 99, 104, 32, 119, 104, 97, 116]]
def gS (G : Gx) (U : State) : Prop := vk_S 5 strL strB (gSA G) (gSV G) (gA G) U U.heap ∧ (∀ (i : Nat) (q : String × Nat × String), strT[i]? = some q → vk_R q.1 q.2.1 q.2.2 (gSA G i) U) ∧ va_Z "java/lang/String" "COMPACT_STRINGS" "Z" (.int 1) (gA G) U U.heap ∧ va_Zq "jdk/internal/util/Preconditions" "SIOOBE_FORMATTER" "Ljava/util/function/BiFunction;" (gA G) U U.heap
def gK (G : Gx) (U : State) : Prop := va_K G.2.1 vwCl (tysOf G.2.2.1) U ∧ gS G U
theorem gK.call {G : Gx} {s U : State} {H : Heap} {locs : List Loc} (h : gK G s) (hS : va_S (gA G) s.heap H locs) (hU : U.heap = H) (hW : s.WarmedH U.vm) : gK G U := by
  subst hU
  exact ⟨va_K.moved hW.alike h.1, vk_S.moved hW.alike (h.2.1.kept hS.2.1), fun i q e => vk_R.warm hW (h.2.2.1 i q e), va_Z.moved hW.alike (h.2.2.2.1.kept hS.2.1), va_Zq.moved hW.alike (h.2.2.2.2.kept hS.2.1)⟩
theorem gK.same {G : Gx} {u U : State} (hv : U.vm = u.vm) (hh : U.heap = u.heap) (h : gK G u) : gK G U := by
  have ha : u.vm.Alike U.vm := by rw [hv]; exact Vm.Alike.refl _
  refine ⟨va_K.moved ha h.1, ?_, fun i q e => vk_R.same hv (h.2.2.1 i q e), ?_, ?_⟩
  · rw [hh]; exact vk_S.moved ha h.2.1
  · rw [hh]; exact va_Z.moved ha h.2.2.2.1
  · rw [hh]; exact va_Zq.moved ha h.2.2.2.2
def gR (d : Nat) : Room := { frames := d, cells := 0, slots := 0, locals := 64 * d }
def gQ (G : Gx) (Post : Option Value → Sg → Prop) : Array Value → State → Outcome → State → Prop := fun _ st oc t => (∃ (r : Option Value) (σ' : Sg), oc = .returned r ∧ Post r σ' ∧ gP G σ' t.heap) ∧ va_F (gA G) st t
def Con (G : Gx) (d : Nat) (M : Mt) (vs : List Value) (σ : Sg) (Post : Option Value → Sg → Prop) : Prop :=
  Met G.1 M.1 (.code M.1 M.2.1 M.2.2.1 M.2.2.2 :: lw_good) (gR d) (va_Pc vs (fun U => gP G σ U.heap ∧ gK G U)) (gQ G Post) 0 0 (gA G)
theorem gD (G : Gx) (σ : Sg) : va_D (gA G) (gW G σ) := by
  have key : ∀ (i : Nat) (q : Nat × va_E), (gW G σ)[i]? = some q → q.1 = G.2.2.2 + i ∧ i < lay.length := by
    intro i q h
    simp only [gW, wsOf, List.getElem?_mapIdx, Option.map_eq_some_iff] at h
    obtain ⟨c, hc, rfl⟩ := h
    exact ⟨rfl, (List.getElem?_eq_some_iff.mp hc).1⟩
  refine ⟨fun i j p q hp hq e => ?_, fun k q hq => ?_⟩
  · have h1 := (key i p hp).1
    have h2 := (key j q hq).1
    omega
  · obtain ⟨h1, h2⟩ := key k q hq
    exact ⟨by omega, by omega⟩
theorem g_get {G : Gx} {σ : Sg} {k : Nat} {c : Cl} (h : lay[k]? = some c) : (gW G σ)[k]? = some (G.2.2.2 + k, ent G.2.2.1 G.2.2.2 σ k c) := ws_get h
def hasL (ls : Array Slot) (n : Nat) (L : List (Option Value)) : Prop := ls.size = n ∧ lv_wf ls ∧ ∀ (i : Nat) (v : Value), L[i]? = some (some v) → ls[i]? = some (.val v)
def asc (L : List (Option Value)) : List (Nat × Value) := (List.range L.length).filterMap (fun i => match L[i]? with | some (some v) => some (i, v) | _ => none)
theorem asc_mem {L : List (Option Value)} {i : Nat} {v : Value} : (i, v) ∈ asc L ↔ L[i]? = some (some v) := by
  unfold asc
  rw [List.mem_filterMap]
  constructor
  · rintro ⟨a, -, h⟩
    split at h
    · rename_i w hw
      cases h
      exact hw
    · cases h
  · intro h
    refine ⟨i, List.mem_range.mpr (List.getElem?_eq_some_iff.mp h).1, ?_⟩
    rw [h]
theorem hasL_has {ls : Array Slot} {n : Nat} {L : List (Option Value)} (h : hasL ls n L) : lv_has ls n (asc L) := ⟨h.1, h.2.1, fun q hq => h.2.2 q.1 q.2 (asc_mem.mp hq)⟩
def okS (L : List (Option Value)) (i : Nat) : Bool := match i with
  | 0 => true
  | k + 1 => match L[k]? with
    | some (some v) => v.category == 1
    | _ => true
theorem hasL_set1 {ls : Array Slot} {n i : Nat} {v : Value} {L : List (Option Value)} (hok : okS L i = true) (h : lv_has ls n ((i, v) :: (asc L).filter (fun q => !(q.1 == i) && !(q.1 + 1 == i && q.2.category == 2)))) : hasL ls n (L.set i (some v)) := by
  refine ⟨h.1, h.2.1, fun j w hj => ?_⟩
  rw [List.getElem?_set] at hj
  by_cases e : i = j
  · subst e
    rw [if_pos rfl] at hj
    split at hj
    · cases hj
      exact h.2.2 (i, v) List.mem_cons_self
    · cases hj
  · rw [if_neg e] at hj
    refine h.2.2 (j, w) (List.mem_cons_of_mem _ (List.mem_filter.mpr ⟨asc_mem.mpr hj, ?_⟩))
    have e' : ¬ j = i := fun q => e q.symm
    by_cases e2 : j + 1 = i
    · subst e2
      simp only [okS, hj] at hok
      have hc : w.category = 1 := by simpa using hok
      simp [hc]
    · simp [e', e2]
theorem hasL_set2 {ls : Array Slot} {n i : Nat} {v : Value} {L : List (Option Value)} (hok : okS L i = true) (h : lv_has ls n ((i, v) :: (asc L).filter (fun q => !(q.1 == i) && (!(q.1 == i + 1) && !(q.1 + 1 == i && q.2.category == 2))))) : hasL ls n ((L.set i (some v)).set (i + 1) none) := by
  refine ⟨h.1, h.2.1, fun j w hj => ?_⟩
  rw [List.getElem?_set] at hj
  by_cases e1 : i + 1 = j
  · rw [if_pos e1] at hj
    split at hj <;> cases hj
  rw [if_neg e1, List.getElem?_set] at hj
  by_cases e : i = j
  · subst e
    rw [if_pos rfl] at hj
    split at hj
    · cases hj
      exact h.2.2 (i, v) List.mem_cons_self
    · cases hj
  · rw [if_neg e] at hj
    refine h.2.2 (j, w) (List.mem_cons_of_mem _ (List.mem_filter.mpr ⟨asc_mem.mpr hj, ?_⟩))
    have e' : ¬ j = i := fun q => e q.symm
    have e1' : ¬ j = i + 1 := fun q => e1 q.symm
    by_cases e2 : j + 1 = i
    · subst e2
      simp only [okS, hj] at hok
      have hc : w.category = 1 := by simpa using hok
      simp [hc]
      omega
    · simp [e', e1', e2]
def sv (s : Slot) : Option Value := match s with
  | .val v => some v
  | _ => none
theorem hasL_entry (vs : List Value) {n : Nat} {L : List (Option Value)} (h : (lg_sl vs).length ≤ n) (hL : (lg_sl vs ++ List.replicate (n - (lg_sl vs).length) Slot.unset).map sv = L) : hasL ((lg_sl vs ++ List.replicate (n - (lg_sl vs).length) Slot.unset).toArray) n L := by
  have h0 := lv_entry vs h
  refine ⟨h0.1, h0.2.1, fun i v hi => ?_⟩
  rw [← hL, List.getElem?_map, Option.map_eq_some_iff] at hi
  obtain ⟨s, hs, hv⟩ := hi
  rw [List.getElem?_toArray, hs]
  cases s with
  | val w => cases hv; rfl
  | _ => cases hv
theorem hasL_sub {ls : Array Slot} {n : Nat} {L L' : List (Option Value)} (h : hasL ls n L) (hs : ∀ (i : Nat) (v : Value), L'[i]? = some (some v) → L[i]? = some (some v)) : hasL ls n L' := ⟨h.1, h.2.1, fun i v hi => h.2.2 i v (hs i v hi)⟩
def J (G : Gx) (d : Nat) (M : Mt) (Post : Option Value → Sg → Prop) (σ : Sg) (pc : Nat) (L : List (Option Value)) (st : List Value) : Prop :=
  ∀ (p : Program) (e : Env) (s : State) (m : MethodId) (args : Array Value) (below : List Frame) (meth : Method) (c : Code) (H : Heap) (locs : List Loc) (ls : Array Slot),
    p.tables.exec = Jvm.exec → c.code = M.2.1 → c.maxLocals = M.2.2.1 → meth.sig.returnType = M.2.2.2 → meth.locks = false → s.vm.findClass M.1.cls = some m.cls → (∀ w ∈ Cond.code M.1 M.2.1 M.2.2.1 M.2.2.2 :: lw_good, w.before args s = true) → gK G s → gP G σ H → va_S (gA G) s.heap H locs → hasL ls M.2.2.1 L →
    W p G.1 e (gR d) s m args below meth c H locs 0 0 (MQ below (gQ G Post) args s 0 0 (gA G)) (F0 m pc ls st)
theorem st_fI {cA : Nat → ClassId} {B : Nat} {σ : Sg} {k0 ci j : Nat} {fl : List Nat} {x : Int} (hk : lay[k0]? = some (.inr (ci, fl))) (hj : fl[j]? = some 0) : (wsOf cA B σ).set k0 (B + k0, .inr (ci, (fl.mapIdx (fun j f => fvl B σ k0 j f)).set j (.int (iZ x)))) = wsOf cA B (sI σ k0 j x) := by
  refine ws_set hk (fun a c' h => ent_I a c' h) ?_
  simp only [ent]
  congr 2
  apply List.ext_getElem?
  intro i
  rw [List.getElem?_set, List.getElem?_mapIdx, List.getElem?_mapIdx, List.length_mapIdx]
  by_cases e : j = i
  · subst e
    have hl : j < fl.length := (List.getElem?_eq_some_iff.mp hj).1
    rw [if_pos rfl, if_pos hl, hj]
    simp [fvl, sI_1]
  · rw [if_neg e]
    cases hi : fl[i]? with
    | none => rfl
    | some f =>
      simp only [Option.map_some]
      congr 1
      unfold fvl
      split
      · rw [sI_1, if_neg (fun h => e (by have := h.2; omega))]
      · rw [sI_2]
      · rfl
theorem st_fJ {cA : Nat → ClassId} {B : Nat} {σ : Sg} {k0 ci j : Nat} {fl : List Nat} {x : Int} (hk : lay[k0]? = some (.inr (ci, fl))) (hj : fl[j]? = some 1) : (wsOf cA B σ).set k0 (B + k0, .inr (ci, (fl.mapIdx (fun j f => fvl B σ k0 j f)).set j (.long (lZ x)))) = wsOf cA B (sJ σ k0 j x) := by
  refine ws_set hk (fun a c' h => ent_J a c' h) ?_
  simp only [ent]
  congr 2
  apply List.ext_getElem?
  intro i
  rw [List.getElem?_set, List.getElem?_mapIdx, List.getElem?_mapIdx, List.length_mapIdx]
  by_cases e : j = i
  · subst e
    have hl : j < fl.length := (List.getElem?_eq_some_iff.mp hj).1
    rw [if_pos rfl, if_pos hl, hj]
    simp [fvl, sJ_2]
  · rw [if_neg e]
    cases hi : fl[i]? with
    | none => rfl
    | some f =>
      simp only [Option.map_some]
      congr 1
      unfold fvl
      split
      · rw [sJ_1]
      · rw [sJ_2, if_neg (fun h => e (by have := h.2; omega))]
      · rfl
theorem st_aI {cA : Nat → ClassId} {B : Nat} {σ : Sg} {k0 t n : Nat} {z x : Int} (hk : lay[k0]? = some (.inl (t, n))) (ht : t ≠ 1) (h0 : 0 ≤ z) : (wsOf cA B σ).set k0 (B + k0, .inl (cA t, n, .inl (upd (fun i => iZ (σ.1 k0 i)) z.toNat (iZ x)))) = wsOf cA B (sI σ k0 z x) := by
  refine ws_set hk (fun a c' h => ent_I a c' h) ?_
  simp only [ent]
  congr 3
  have e : avl (sI σ k0 z x) k0 t = .inl (fun i => iZ ((sI σ k0 z x).1 k0 i)) := by
    unfold avl
    split
    · exact absurd rfl ht
    · rfl
  rw [e]
  congr 1
  funext i
  rw [sI_1]
  unfold upd
  by_cases q : i = z.toNat
  · rw [if_pos q, if_pos ⟨rfl, by omega⟩]
  · rw [if_neg q, if_neg (fun h => q (by have := h.2; omega))]
theorem st_aJ {cA : Nat → ClassId} {B : Nat} {σ : Sg} {k0 n : Nat} {z x : Int} (hk : lay[k0]? = some (.inl (1, n))) (h0 : 0 ≤ z) : (wsOf cA B σ).set k0 (B + k0, .inl (cA 1, n, .inr (.inl (vp_updL (fun i => lZ (σ.2 k0 i)) z.toNat (lZ x))))) = wsOf cA B (sJ σ k0 z x) := by
  refine ws_set hk (fun a c' h => ent_J a c' h) ?_
  simp only [ent]
  congr 3
  show _ = Sum.inr (Sum.inl (fun i : Nat => lZ ((sJ σ k0 z x).2 k0 (i : Int))))
  congr 2
  funext i
  rw [sJ_2]
  unfold vp_updL
  by_cases q : i = z.toNat
  · rw [if_pos q, if_pos ⟨rfl, by omega⟩]
  · rw [if_neg q, if_neg (fun h => q (by have := h.2; omega))]
def cpI (σ : Sg) (k0 k1 : Nat) (n : Int) : Sg := (fun a i => if a = k1 ∧ 0 ≤ i ∧ i < n then σ.1 k0 i else σ.1 a i, σ.2)
theorem st_cp {cA : Nat → ClassId} {B : Nat} {σ : Sg} {k0 k1 n1 : Nat} {n : Int} (hk : lay[k1]? = some (.inl (0, n1))) (hn : 0 ≤ n) : (wsOf cA B σ).set k1 (B + k1, .inl (cA 0, n1, .inl (va_cpy (fun i : Nat => iZ (σ.1 k0 (i : Int))) (fun i : Nat => iZ (σ.1 k1 (i : Int))) 0 0 n.toNat))) = wsOf cA B (cpI σ k0 k1 n) := by
  refine ws_set hk (fun a c' h => ?_) ?_
  · have h1 : ∀ i, (cpI σ k0 k1 n).1 a i = σ.1 a i := fun i => if_neg (fun q => h q.1)
    cases c' with
    | inl q =>
      obtain ⟨t, m⟩ := q
      simp only [ent]
      congr 3
      unfold avl
      split
      · rfl
      · simp only [h1]
    | inr q =>
      obtain ⟨ci, fl⟩ := q
      simp only [ent]
      congr 2
      apply congrArg (fun f => List.mapIdx f fl)
      funext i f
      unfold fvl
      split
      · simp only [h1]
      · rfl
      · rfl
  · simp only [ent]
    congr 3
    show _ = Sum.inl (fun i : Nat => iZ ((cpI σ k0 k1 n).1 k1 (i : Int)))
    congr 1
    funext i
    unfold va_cpy cpI
    by_cases q : i < n.toNat
    · rw [if_pos ⟨Nat.zero_le _, by omega⟩]
      simp only [true_and]
      rw [if_pos ⟨by omega, by omega⟩]
      simp
    · rw [if_neg (by omega)]
      simp only [true_and]
      rw [if_neg (by omega)]
theorem R32_0 : R32 0 := ⟨by decide, by decide⟩
section JR
variable {G : Gx} {d : Nat} {M : Mt} {Post : Option Value → Sg → Prop} {σ : Sg} {pc q : Nat} {L : List (Option Value)} {st : List Value}
theorem e_iconst {n : Int} (hd : decode M.2.1 pc = .ok (.iconst n, 1)) (hq : pc + 1 = q) (k : J G d M Post σ q L (.int (iZ n) :: st)) : J G d M Post σ pc L (st) := by
  intro p e s m args below meth c H locs ls h1 h2 h3 h4 h5 h6 h7 h8 h9 h10 h11
  subst hq
  exact lv_iconst h1 h2 hd rfl (k p e s m args below meth c H locs ls h1 h2 h3 h4 h5 h6 h7 h8 h9 h10 h11)
theorem e_bipush {n : Int} (hd : decode M.2.1 pc = .ok (.bipush n, 2)) (hq : pc + 2 = q) (hv : (Int8.ofInt n).toInt32 = iZ n) (k : J G d M Post σ q L (.int (iZ n) :: st)) : J G d M Post σ pc L (st) := by
  intro p e s m args below meth c H locs ls h1 h2 h3 h4 h5 h6 h7 h8 h9 h10 h11
  subst hq
  exact lv_bipush h1 h2 hd hv (k p e s m args below meth c H locs ls h1 h2 h3 h4 h5 h6 h7 h8 h9 h10 h11)
theorem e_sipush {n : Int} (hd : decode M.2.1 pc = .ok (.sipush n, 3)) (hq : pc + 3 = q) (hv : (Int16.ofInt n).toInt32 = iZ n) (k : J G d M Post σ q L (.int (iZ n) :: st)) : J G d M Post σ pc L (st) := by
  intro p e s m args below meth c H locs ls h1 h2 h3 h4 h5 h6 h7 h8 h9 h10 h11
  subst hq
  exact lv_sipush h1 h2 hd hv (k p e s m args below meth c H locs ls h1 h2 h3 h4 h5 h6 h7 h8 h9 h10 h11)
theorem e_lconst {n : Fin 2} {z : Int} (hd : decode M.2.1 pc = .ok (.lconst n, 1)) (hq : pc + 1 = q) (hv : Int64.ofNat (n : Nat) = lZ z) (k : J G d M Post σ q L (.long (lZ z) :: st)) : J G d M Post σ pc L (st) := by
  intro p e s m args below meth c H locs ls h1 h2 h3 h4 h5 h6 h7 h8 h9 h10 h11
  subst hq
  exact lv_lconst h1 h2 hd hv (k p e s m args below meth c H locs ls h1 h2 h3 h4 h5 h6 h7 h8 h9 h10 h11)
theorem e_ldc {i : Nat} {v : Int32} {z : Int} (hd : decode M.2.1 pc = .ok (.ldc i, 2)) (hq : pc + 2 = q) (hw : Cond.constant M.1.cls i v ∈ lw_good) (hv : v = iZ z) (k : J G d M Post σ q L (.int (iZ z) :: st)) : J G d M Post σ pc L (st) := by
  intro p e s m args below meth c H locs ls h1 h2 h3 h4 h5 h6 h7 h8 h9 h10 h11
  subst hq
  subst hv
  exact lv_ldc h1 h2 h6 (h7 _ (List.mem_cons_of_mem _ hw)) hd (k p e s m args below meth c H locs ls h1 h2 h3 h4 h5 h6 h7 h8 h9 h10 h11)
theorem e_ldcw {i : Nat} {v : Int32} {z : Int} (hd : decode M.2.1 pc = .ok (.ldc_w i, 3)) (hq : pc + 3 = q) (hw : Cond.constant M.1.cls i v ∈ lw_good) (hv : v = iZ z) (k : J G d M Post σ q L (.int (iZ z) :: st)) : J G d M Post σ pc L (st) := by
  intro p e s m args below meth c H locs ls h1 h2 h3 h4 h5 h6 h7 h8 h9 h10 h11
  subst hq
  subst hv
  exact lv_ldcw h1 h2 h6 (h7 _ (List.mem_cons_of_mem _ hw)) hd (k p e s m args below meth c H locs ls h1 h2 h3 h4 h5 h6 h7 h8 h9 h10 h11)
theorem e_ldc2 {i : Nat} {v : Int64} {z : Int} (hd : decode M.2.1 pc = .ok (.ldc2_w i, 3)) (hq : pc + 3 = q) (hw : Cond.constantLong M.1.cls i v ∈ lw_good) (hv : v = lZ z) (k : J G d M Post σ q L (.long (lZ z) :: st)) : J G d M Post σ pc L (st) := by
  intro p e s m args below meth c H locs ls h1 h2 h3 h4 h5 h6 h7 h8 h9 h10 h11
  subst hq
  subst hv
  exact lv_ldc2 h1 h2 h6 (h7 _ (List.mem_cons_of_mem _ hw)) hd (k p e s m args below meth c H locs ls h1 h2 h3 h4 h5 h6 h7 h8 h9 h10 h11)
theorem e_iload_n {f : Fin 4} {i : Nat} {x : Int32} (hd : decode M.2.1 pc = .ok (.iload_n f, 1)) (hq : pc + 1 = q) (hi : (f : Nat) = i) (hl : L[i]? = some (some (.int x))) (k : J G d M Post σ q L (.int x :: st)) : J G d M Post σ pc L (st) := by
  intro p e s m args below meth c H locs ls h1 h2 h3 h4 h5 h6 h7 h8 h9 h10 h11
  subst hq
  exact lv_iload_n h1 h2 hd hi (h11.2.2 i _ hl) (k p e s m args below meth c H locs ls h1 h2 h3 h4 h5 h6 h7 h8 h9 h10 h11)
theorem e_iload {i : Nat} {x : Int32} (hd : decode M.2.1 pc = .ok (.iload i, 2)) (hq : pc + 2 = q) (hl : L[i]? = some (some (.int x))) (k : J G d M Post σ q L (.int x :: st)) : J G d M Post σ pc L (st) := by
  intro p e s m args below meth c H locs ls h1 h2 h3 h4 h5 h6 h7 h8 h9 h10 h11
  subst hq
  exact lv_iload h1 h2 hd (h11.2.2 i _ hl) (k p e s m args below meth c H locs ls h1 h2 h3 h4 h5 h6 h7 h8 h9 h10 h11)
theorem e_lload_n {f : Fin 4} {i : Nat} {x : Int64} (hd : decode M.2.1 pc = .ok (.lload_n f, 1)) (hq : pc + 1 = q) (hi : (f : Nat) = i) (hl : L[i]? = some (some (.long x))) (k : J G d M Post σ q L (.long x :: st)) : J G d M Post σ pc L (st) := by
  intro p e s m args below meth c H locs ls h1 h2 h3 h4 h5 h6 h7 h8 h9 h10 h11
  subst hq
  exact lv_lload_n h1 h2 hd hi (h11.2.2 i _ hl) (k p e s m args below meth c H locs ls h1 h2 h3 h4 h5 h6 h7 h8 h9 h10 h11)
theorem e_lload {i : Nat} {x : Int64} (hd : decode M.2.1 pc = .ok (.lload i, 2)) (hq : pc + 2 = q) (hl : L[i]? = some (some (.long x))) (k : J G d M Post σ q L (.long x :: st)) : J G d M Post σ pc L (st) := by
  intro p e s m args below meth c H locs ls h1 h2 h3 h4 h5 h6 h7 h8 h9 h10 h11
  subst hq
  exact lv_lload h1 h2 hd (h11.2.2 i _ hl) (k p e s m args below meth c H locs ls h1 h2 h3 h4 h5 h6 h7 h8 h9 h10 h11)
theorem e_aload_n {f : Fin 4} {i : Nat} {x : Nat} (hd : decode M.2.1 pc = .ok (.aload_n f, 1)) (hq : pc + 1 = q) (hi : (f : Nat) = i) (hl : L[i]? = some (some (.ref x))) (k : J G d M Post σ q L (.ref x :: st)) : J G d M Post σ pc L (st) := by
  intro p e s m args below meth c H locs ls h1 h2 h3 h4 h5 h6 h7 h8 h9 h10 h11
  subst hq
  exact lv_aload_n h1 h2 hd hi (h11.2.2 i _ hl) (k p e s m args below meth c H locs ls h1 h2 h3 h4 h5 h6 h7 h8 h9 h10 h11)
theorem e_aload {i : Nat} {x : Nat} (hd : decode M.2.1 pc = .ok (.aload i, 2)) (hq : pc + 2 = q) (hl : L[i]? = some (some (.ref x))) (k : J G d M Post σ q L (.ref x :: st)) : J G d M Post σ pc L (st) := by
  intro p e s m args below meth c H locs ls h1 h2 h3 h4 h5 h6 h7 h8 h9 h10 h11
  subst hq
  exact lv_aload h1 h2 hd (h11.2.2 i _ hl) (k p e s m args below meth c H locs ls h1 h2 h3 h4 h5 h6 h7 h8 h9 h10 h11)
theorem e_istore_n {f : Fin 4} {i : Nat} {x : Int32} (hd : decode M.2.1 pc = .ok (.istore_n f, 1)) (hq : pc + 1 = q) (hi : (f : Nat) = i) (hn : i < M.2.2.1) (hok : okS L i = true) {L' : List (Option Value)} (hL : (L.set i (some (.int x))) = L') (k : J G d M Post σ q L' st) : J G d M Post σ pc L (.int x :: st) := by
  intro p e s m args below meth c H locs ls h1 h2 h3 h4 h5 h6 h7 h8 h9 h10 h11
  subst hq hL
  exact lv_istore_n h1 h2 hd hi (hasL_has h11) hn rfl (fun ls' h' => k p e s m args below meth c H locs ls' h1 h2 h3 h4 h5 h6 h7 h8 h9 h10 (hasL_set1 hok h'))
theorem e_istore {i : Nat} {x : Int32} (hd : decode M.2.1 pc = .ok (.istore i, 2)) (hq : pc + 2 = q) (hn : i < M.2.2.1) (hok : okS L i = true) {L' : List (Option Value)} (hL : (L.set i (some (.int x))) = L') (k : J G d M Post σ q L' st) : J G d M Post σ pc L (.int x :: st) := by
  intro p e s m args below meth c H locs ls h1 h2 h3 h4 h5 h6 h7 h8 h9 h10 h11
  subst hq hL
  exact lv_istore h1 h2 hd (hasL_has h11) hn rfl (fun ls' h' => k p e s m args below meth c H locs ls' h1 h2 h3 h4 h5 h6 h7 h8 h9 h10 (hasL_set1 hok h'))
theorem e_lstore_n {f : Fin 4} {i : Nat} {x : Int64} (hd : decode M.2.1 pc = .ok (.lstore_n f, 1)) (hq : pc + 1 = q) (hi : (f : Nat) = i) (hn : i + 1 < M.2.2.1) (hok : okS L i = true) {L' : List (Option Value)} (hL : ((L.set i (some (.long x))).set (i + 1) none) = L') (k : J G d M Post σ q L' st) : J G d M Post σ pc L (.long x :: st) := by
  intro p e s m args below meth c H locs ls h1 h2 h3 h4 h5 h6 h7 h8 h9 h10 h11
  subst hq hL
  exact lv_lstore_n h1 h2 hd hi (hasL_has h11) hn rfl (fun ls' h' => k p e s m args below meth c H locs ls' h1 h2 h3 h4 h5 h6 h7 h8 h9 h10 (hasL_set2 hok h'))
theorem e_lstore {i : Nat} {x : Int64} (hd : decode M.2.1 pc = .ok (.lstore i, 2)) (hq : pc + 2 = q) (hn : i + 1 < M.2.2.1) (hok : okS L i = true) {L' : List (Option Value)} (hL : ((L.set i (some (.long x))).set (i + 1) none) = L') (k : J G d M Post σ q L' st) : J G d M Post σ pc L (.long x :: st) := by
  intro p e s m args below meth c H locs ls h1 h2 h3 h4 h5 h6 h7 h8 h9 h10 h11
  subst hq hL
  exact lv_lstore h1 h2 hd (hasL_has h11) hn rfl (fun ls' h' => k p e s m args below meth c H locs ls' h1 h2 h3 h4 h5 h6 h7 h8 h9 h10 (hasL_set2 hok h'))
theorem e_astore_n {f : Fin 4} {i : Nat} {x : Nat} (hd : decode M.2.1 pc = .ok (.astore_n f, 1)) (hq : pc + 1 = q) (hi : (f : Nat) = i) (hn : i < M.2.2.1) (hok : okS L i = true) {L' : List (Option Value)} (hL : (L.set i (some (.ref x))) = L') (k : J G d M Post σ q L' st) : J G d M Post σ pc L (.ref x :: st) := by
  intro p e s m args below meth c H locs ls h1 h2 h3 h4 h5 h6 h7 h8 h9 h10 h11
  subst hq hL
  exact lv_astore_n h1 h2 hd hi (hasL_has h11) hn rfl (fun ls' h' => k p e s m args below meth c H locs ls' h1 h2 h3 h4 h5 h6 h7 h8 h9 h10 (hasL_set1 hok h'))
theorem e_astore {i : Nat} {x : Nat} (hd : decode M.2.1 pc = .ok (.astore i, 2)) (hq : pc + 2 = q) (hn : i < M.2.2.1) (hok : okS L i = true) {L' : List (Option Value)} (hL : (L.set i (some (.ref x))) = L') (k : J G d M Post σ q L' st) : J G d M Post σ pc L (.ref x :: st) := by
  intro p e s m args below meth c H locs ls h1 h2 h3 h4 h5 h6 h7 h8 h9 h10 h11
  subst hq hL
  exact lv_astore h1 h2 hd (hasL_has h11) hn rfl (fun ls' h' => k p e s m args below meth c H locs ls' h1 h2 h3 h4 h5 h6 h7 h8 h9 h10 (hasL_set1 hok h'))
theorem e_iinc {i : Nat} {n z : Int} (hd : decode M.2.1 pc = .ok (.iinc i n, 3)) (hq : pc + 3 = q) (hl : L[i]? = some (some (.int (iZ z)))) (hn : i < M.2.2.1) (hok : okS L i = true) {L' : List (Option Value)} (hL : L.set i (some (.int (iZ (z + n)))) = L') (k : J G d M Post σ q L' st) : J G d M Post σ pc L st := by
  intro p e s m args below meth c H locs ls h1 h2 h3 h4 h5 h6 h7 h8 h9 h10 h11
  subst hq hL
  obtain ⟨a, ha⟩ := List.getElem?_of_mem (asc_mem.mpr hl)
  exact lv_iinc (v := iZ (z + n)) h1 h2 hd (hasL_has h11) ha (iZ_add z n) hn rfl (fun ls' h' => k p e s m args below meth c H locs ls' h1 h2 h3 h4 h5 h6 h7 h8 h9 h10 (hasL_set1 hok h'))
theorem e_sub (L' : List (Option Value)) (hs : ∀ (i : Nat) (v : Value), L'[i]? = some (some v) → L[i]? = some (some v)) (k : J G d M Post σ pc L' st) : J G d M Post σ pc L st := by
  intro p e s m args below meth c H locs ls h1 h2 h3 h4 h5 h6 h7 h8 h9 h10 h11
  exact k p e s m args below meth c H locs ls h1 h2 h3 h4 h5 h6 h7 h8 h9 h10 (hasL_sub h11 hs)
theorem e_iadd {x y : Int} (hd : decode M.2.1 pc = .ok (.iadd, 1)) (hq : pc + 1 = q) (k : J G d M Post σ q L (.int (iZ (x + y)) :: st)) : J G d M Post σ pc L (.int (iZ y) :: .int (iZ x) :: st) := by
  intro p e s m args below meth c H locs ls h1 h2 h3 h4 h5 h6 h7 h8 h9 h10 h11
  subst hq
  refine lv_iadd h1 h2 hd ?_
  rw [iZ_add]
  exact k p e s m args below meth c H locs ls h1 h2 h3 h4 h5 h6 h7 h8 h9 h10 h11
theorem e_isub {x y : Int} (hd : decode M.2.1 pc = .ok (.isub, 1)) (hq : pc + 1 = q) (k : J G d M Post σ q L (.int (iZ (x - y)) :: st)) : J G d M Post σ pc L (.int (iZ y) :: .int (iZ x) :: st) := by
  intro p e s m args below meth c H locs ls h1 h2 h3 h4 h5 h6 h7 h8 h9 h10 h11
  subst hq
  refine lv_isub h1 h2 hd ?_
  rw [iZ_sub]
  exact k p e s m args below meth c H locs ls h1 h2 h3 h4 h5 h6 h7 h8 h9 h10 h11
theorem e_imul {x y : Int} (hd : decode M.2.1 pc = .ok (.imul, 1)) (hq : pc + 1 = q) (k : J G d M Post σ q L (.int (iZ (x * y)) :: st)) : J G d M Post σ pc L (.int (iZ y) :: .int (iZ x) :: st) := by
  intro p e s m args below meth c H locs ls h1 h2 h3 h4 h5 h6 h7 h8 h9 h10 h11
  subst hq
  refine lv_imul h1 h2 hd ?_
  rw [iZ_mul]
  exact k p e s m args below meth c H locs ls h1 h2 h3 h4 h5 h6 h7 h8 h9 h10 h11
theorem e_ladd {x y : Int} (hd : decode M.2.1 pc = .ok (.ladd, 1)) (hq : pc + 1 = q) (k : J G d M Post σ q L (.long (lZ (x + y)) :: st)) : J G d M Post σ pc L (.long (lZ y) :: .long (lZ x) :: st) := by
  intro p e s m args below meth c H locs ls h1 h2 h3 h4 h5 h6 h7 h8 h9 h10 h11
  subst hq
  refine lv_ladd h1 h2 hd ?_
  rw [lZ_add]
  exact k p e s m args below meth c H locs ls h1 h2 h3 h4 h5 h6 h7 h8 h9 h10 h11
theorem e_lsub {x y : Int} (hd : decode M.2.1 pc = .ok (.lsub, 1)) (hq : pc + 1 = q) (k : J G d M Post σ q L (.long (lZ (x - y)) :: st)) : J G d M Post σ pc L (.long (lZ y) :: .long (lZ x) :: st) := by
  intro p e s m args below meth c H locs ls h1 h2 h3 h4 h5 h6 h7 h8 h9 h10 h11
  subst hq
  refine lv_lsub h1 h2 hd ?_
  rw [lZ_sub]
  exact k p e s m args below meth c H locs ls h1 h2 h3 h4 h5 h6 h7 h8 h9 h10 h11
theorem e_lmul {x y : Int} (hd : decode M.2.1 pc = .ok (.lmul, 1)) (hq : pc + 1 = q) (k : J G d M Post σ q L (.long (lZ (x * y)) :: st)) : J G d M Post σ pc L (.long (lZ y) :: .long (lZ x) :: st) := by
  intro p e s m args below meth c H locs ls h1 h2 h3 h4 h5 h6 h7 h8 h9 h10 h11
  subst hq
  refine lv_lmul h1 h2 hd ?_
  rw [lZ_mul]
  exact k p e s m args below meth c H locs ls h1 h2 h3 h4 h5 h6 h7 h8 h9 h10 h11
theorem e_ineg {x : Int} (hd : decode M.2.1 pc = .ok (.ineg, 1)) (hq : pc + 1 = q) (k : J G d M Post σ q L (.int (iZ (-x)) :: st)) : J G d M Post σ pc L (.int (iZ x) :: st) := by
  intro p e s m args below meth c H locs ls h1 h2 h3 h4 h5 h6 h7 h8 h9 h10 h11
  subst hq
  refine lv_ineg h1 h2 hd ?_
  rw [iZ_neg]
  exact k p e s m args below meth c H locs ls h1 h2 h3 h4 h5 h6 h7 h8 h9 h10 h11
theorem e_lneg {x : Int} (hd : decode M.2.1 pc = .ok (.lneg, 1)) (hq : pc + 1 = q) (k : J G d M Post σ q L (.long (lZ (-x)) :: st)) : J G d M Post σ pc L (.long (lZ x) :: st) := by
  intro p e s m args below meth c H locs ls h1 h2 h3 h4 h5 h6 h7 h8 h9 h10 h11
  subst hq
  refine lv_lneg h1 h2 hd ?_
  rw [lZ_neg]
  exact k p e s m args below meth c H locs ls h1 h2 h3 h4 h5 h6 h7 h8 h9 h10 h11
theorem e_iand {x y z : Int} (hd : decode M.2.1 pc = .ok (.iand, 1)) (hq : pc + 1 = q) (hz : iZ x &&& iZ y = iZ z) (k : J G d M Post σ q L (.int (iZ z) :: st)) : J G d M Post σ pc L (.int (iZ y) :: .int (iZ x) :: st) := by
  intro p e s m args below meth c H locs ls h1 h2 h3 h4 h5 h6 h7 h8 h9 h10 h11
  subst hq
  refine lv_iand h1 h2 hd ?_
  rw [hz]
  exact k p e s m args below meth c H locs ls h1 h2 h3 h4 h5 h6 h7 h8 h9 h10 h11
theorem e_ior {x y z : Int} (hd : decode M.2.1 pc = .ok (.ior, 1)) (hq : pc + 1 = q) (hz : iZ x ||| iZ y = iZ z) (k : J G d M Post σ q L (.int (iZ z) :: st)) : J G d M Post σ pc L (.int (iZ y) :: .int (iZ x) :: st) := by
  intro p e s m args below meth c H locs ls h1 h2 h3 h4 h5 h6 h7 h8 h9 h10 h11
  subst hq
  refine lv_ior h1 h2 hd ?_
  rw [hz]
  exact k p e s m args below meth c H locs ls h1 h2 h3 h4 h5 h6 h7 h8 h9 h10 h11
theorem e_ixor {x y z : Int} (hd : decode M.2.1 pc = .ok (.ixor, 1)) (hq : pc + 1 = q) (hz : iZ x ^^^ iZ y = iZ z) (k : J G d M Post σ q L (.int (iZ z) :: st)) : J G d M Post σ pc L (.int (iZ y) :: .int (iZ x) :: st) := by
  intro p e s m args below meth c H locs ls h1 h2 h3 h4 h5 h6 h7 h8 h9 h10 h11
  subst hq
  refine lv_ixor h1 h2 hd ?_
  rw [hz]
  exact k p e s m args below meth c H locs ls h1 h2 h3 h4 h5 h6 h7 h8 h9 h10 h11
theorem e_ishl {x y z : Int} (hd : decode M.2.1 pc = .ok (.ishl, 1)) (hq : pc + 1 = q) (hz : iZ x <<< (iZ y &&& 31) = iZ z) (k : J G d M Post σ q L (.int (iZ z) :: st)) : J G d M Post σ pc L (.int (iZ y) :: .int (iZ x) :: st) := by
  intro p e s m args below meth c H locs ls h1 h2 h3 h4 h5 h6 h7 h8 h9 h10 h11
  subst hq
  refine lv_ishl h1 h2 hd ?_
  rw [hz]
  exact k p e s m args below meth c H locs ls h1 h2 h3 h4 h5 h6 h7 h8 h9 h10 h11
theorem e_ishr {x y z : Int} (hd : decode M.2.1 pc = .ok (.ishr, 1)) (hq : pc + 1 = q) (hz : iZ x >>> (iZ y &&& 31) = iZ z) (k : J G d M Post σ q L (.int (iZ z) :: st)) : J G d M Post σ pc L (.int (iZ y) :: .int (iZ x) :: st) := by
  intro p e s m args below meth c H locs ls h1 h2 h3 h4 h5 h6 h7 h8 h9 h10 h11
  subst hq
  refine lv_ishr h1 h2 hd ?_
  rw [hz]
  exact k p e s m args below meth c H locs ls h1 h2 h3 h4 h5 h6 h7 h8 h9 h10 h11
theorem e_iushr {x y z : Int} (hd : decode M.2.1 pc = .ok (.iushr, 1)) (hq : pc + 1 = q) (hz : ((iZ x).toUInt32 >>> ((iZ y).toUInt32 &&& Int32.toUInt32 31)).toInt32 = iZ z) (k : J G d M Post σ q L (.int (iZ z) :: st)) : J G d M Post σ pc L (.int (iZ y) :: .int (iZ x) :: st) := by
  intro p e s m args below meth c H locs ls h1 h2 h3 h4 h5 h6 h7 h8 h9 h10 h11
  subst hq
  exact lv_iushr h1 h2 hd hz (k p e s m args below meth c H locs ls h1 h2 h3 h4 h5 h6 h7 h8 h9 h10 h11)
theorem e_land {x y z : Int} (hd : decode M.2.1 pc = .ok (.land, 1)) (hq : pc + 1 = q) (hz : lZ x &&& lZ y = lZ z) (k : J G d M Post σ q L (.long (lZ z) :: st)) : J G d M Post σ pc L (.long (lZ y) :: .long (lZ x) :: st) := by
  intro p e s m args below meth c H locs ls h1 h2 h3 h4 h5 h6 h7 h8 h9 h10 h11
  subst hq
  refine lv_land h1 h2 hd ?_
  rw [hz]
  exact k p e s m args below meth c H locs ls h1 h2 h3 h4 h5 h6 h7 h8 h9 h10 h11
theorem e_idiv {x y z : Int} (hd : decode M.2.1 pc = .ok (.idiv, 1)) (hq : pc + 1 = q) (h0 : ¬ iZ y = 0) (hz : iZ x / iZ y = iZ z) (k : J G d M Post σ q L (.int (iZ z) :: st)) : J G d M Post σ pc L (.int (iZ y) :: .int (iZ x) :: st) := by
  intro p e s m args below meth c H locs ls h1 h2 h3 h4 h5 h6 h7 h8 h9 h10 h11
  subst hq
  refine lv_idiv h1 h2 hd h0 ?_
  rw [hz]
  exact k p e s m args below meth c H locs ls h1 h2 h3 h4 h5 h6 h7 h8 h9 h10 h11
theorem e_irem {x y z : Int} (hd : decode M.2.1 pc = .ok (.irem, 1)) (hq : pc + 1 = q) (h0 : ¬ iZ y = 0) (hz : iZ x - iZ x / iZ y * iZ y = iZ z) (k : J G d M Post σ q L (.int (iZ z) :: st)) : J G d M Post σ pc L (.int (iZ y) :: .int (iZ x) :: st) := by
  intro p e s m args below meth c H locs ls h1 h2 h3 h4 h5 h6 h7 h8 h9 h10 h11
  subst hq
  refine lv_irem h1 h2 hd h0 ?_
  rw [hz]
  exact k p e s m args below meth c H locs ls h1 h2 h3 h4 h5 h6 h7 h8 h9 h10 h11
theorem e_ldiv {x y z : Int} (hd : decode M.2.1 pc = .ok (.ldiv, 1)) (hq : pc + 1 = q) (h0 : ¬ lZ y = 0) (hz : lZ x / lZ y = lZ z) (k : J G d M Post σ q L (.long (lZ z) :: st)) : J G d M Post σ pc L (.long (lZ y) :: .long (lZ x) :: st) := by
  intro p e s m args below meth c H locs ls h1 h2 h3 h4 h5 h6 h7 h8 h9 h10 h11
  subst hq
  refine lv_ldiv h1 h2 hd h0 ?_
  rw [hz]
  exact k p e s m args below meth c H locs ls h1 h2 h3 h4 h5 h6 h7 h8 h9 h10 h11
theorem e_lrem {x y z : Int} (hd : decode M.2.1 pc = .ok (.lrem, 1)) (hq : pc + 1 = q) (h0 : ¬ lZ y = 0) (hz : lZ x - lZ x / lZ y * lZ y = lZ z) (k : J G d M Post σ q L (.long (lZ z) :: st)) : J G d M Post σ pc L (.long (lZ y) :: .long (lZ x) :: st) := by
  intro p e s m args below meth c H locs ls h1 h2 h3 h4 h5 h6 h7 h8 h9 h10 h11
  subst hq
  refine lv_lrem h1 h2 hd h0 ?_
  rw [hz]
  exact k p e s m args below meth c H locs ls h1 h2 h3 h4 h5 h6 h7 h8 h9 h10 h11
theorem e_i2l {x : Int} (hd : decode M.2.1 pc = .ok (.i2l, 1)) (hq : pc + 1 = q) (hx : R32 x) (k : J G d M Post σ q L (.long (lZ x) :: st)) : J G d M Post σ pc L (.int (iZ x) :: st) := by
  intro p e s m args below meth c H locs ls h1 h2 h3 h4 h5 h6 h7 h8 h9 h10 h11
  subst hq
  exact lv_i2l h1 h2 hd (iZ_i2l hx) (k p e s m args below meth c H locs ls h1 h2 h3 h4 h5 h6 h7 h8 h9 h10 h11)
theorem e_l2i {x z : Int} (hd : decode M.2.1 pc = .ok (.l2i, 1)) (hq : pc + 1 = q) (hz : (lZ x).toInt32 = iZ z) (k : J G d M Post σ q L (.int (iZ z) :: st)) : J G d M Post σ pc L (.long (lZ x) :: st) := by
  intro p e s m args below meth c H locs ls h1 h2 h3 h4 h5 h6 h7 h8 h9 h10 h11
  subst hq
  exact lv_l2i h1 h2 hd hz (k p e s m args below meth c H locs ls h1 h2 h3 h4 h5 h6 h7 h8 h9 h10 h11)
theorem e_i2b {x z : Int} (hd : decode M.2.1 pc = .ok (.i2b, 1)) (hq : pc + 1 = q) (hz : (iZ x).toInt8.toInt32 = iZ z) (k : J G d M Post σ q L (.int (iZ z) :: st)) : J G d M Post σ pc L (.int (iZ x) :: st) := by
  intro p e s m args below meth c H locs ls h1 h2 h3 h4 h5 h6 h7 h8 h9 h10 h11
  subst hq
  exact lv_i2b h1 h2 hd hz (k p e s m args below meth c H locs ls h1 h2 h3 h4 h5 h6 h7 h8 h9 h10 h11)
theorem e_i2c {x z : Int} (hd : decode M.2.1 pc = .ok (.i2c, 1)) (hq : pc + 1 = q) (hz : ((iZ x).toUInt32 % 65536).toInt32 = iZ z) (k : J G d M Post σ q L (.int (iZ z) :: st)) : J G d M Post σ pc L (.int (iZ x) :: st) := by
  intro p e s m args below meth c H locs ls h1 h2 h3 h4 h5 h6 h7 h8 h9 h10 h11
  subst hq
  exact lv_i2c h1 h2 hd hz (k p e s m args below meth c H locs ls h1 h2 h3 h4 h5 h6 h7 h8 h9 h10 h11)
theorem e_lcmp {x y : Int} (hd : decode M.2.1 pc = .ok (.lcmp, 1)) (hq : pc + 1 = q) (hx : R64 x) (hy : R64 y) (k : J G d M Post σ q L (.int (iZ (if x > y then 1 else if x = y then 0 else -1)) :: st)) : J G d M Post σ pc L (.long (lZ y) :: .long (lZ x) :: st) := by
  intro p e s m args below meth c H locs ls h1 h2 h3 h4 h5 h6 h7 h8 h9 h10 h11
  subst hq
  refine W.lcmp h1 h2 hd ?_
  have e1 : lg_cmp (lZ x) (lZ y) = iZ (if x > y then 1 else if x = y then 0 else -1) := by
    unfold lg_cmp
    have a1 : (lZ x > lZ y) ↔ x > y := lZ_lt hy hx
    have a2 : (lZ x = lZ y) ↔ x = y := lZ_eq hx hy
    by_cases q1 : x > y
    · rw [if_pos (a1.mpr q1), if_pos q1]; rfl
    · rw [if_neg (fun h => q1 (a1.mp h)), if_neg q1]
      by_cases q2 : x = y
      · rw [if_pos (a2.mpr q2), if_pos q2]; rfl
      · rw [if_neg (fun h => q2 (a2.mp h)), if_neg q2]; rfl
  rw [e1]
  exact k p e s m args below meth c H locs ls h1 h2 h3 h4 h5 h6 h7 h8 h9 h10 h11
theorem e_dup {v : Value} (hd : decode M.2.1 pc = .ok (.dup, 1)) (hq : pc + 1 = q) (hv : v.category = 1) (k : J G d M Post σ q L (v :: v :: st)) : J G d M Post σ pc L (v :: st) := by
  intro p e s m args below meth c H locs ls h1 h2 h3 h4 h5 h6 h7 h8 h9 h10 h11
  subst hq
  exact lv_dup h1 h2 hd hv (k p e s m args below meth c H locs ls h1 h2 h3 h4 h5 h6 h7 h8 h9 h10 h11)
theorem e_dup_x1 {v w : Value} (hd : decode M.2.1 pc = .ok (.dup_x1, 1)) (hq : pc + 1 = q) (hv : v.category = 1) (hw : w.category = 1) (k : J G d M Post σ q L (v :: w :: v :: st)) : J G d M Post σ pc L (v :: w :: st) := by
  intro p e s m args below meth c H locs ls h1 h2 h3 h4 h5 h6 h7 h8 h9 h10 h11
  subst hq
  exact lv_dup_x1 h1 h2 hd hv hw (k p e s m args below meth c H locs ls h1 h2 h3 h4 h5 h6 h7 h8 h9 h10 h11)
theorem e_dup2 {v w : Value} (hd : decode M.2.1 pc = .ok (.dup2, 1)) (hq : pc + 1 = q) (hv : v.category = 1) (hw : w.category = 1) (k : J G d M Post σ q L (v :: w :: v :: w :: st)) : J G d M Post σ pc L (v :: w :: st) := by
  intro p e s m args below meth c H locs ls h1 h2 h3 h4 h5 h6 h7 h8 h9 h10 h11
  subst hq
  exact lv_dup2_11 h1 h2 hd hv hw (k p e s m args below meth c H locs ls h1 h2 h3 h4 h5 h6 h7 h8 h9 h10 h11)
theorem e_dup2L {v : Value} (hd : decode M.2.1 pc = .ok (.dup2, 1)) (hq : pc + 1 = q) (hv : v.category = 2) (k : J G d M Post σ q L (v :: v :: st)) : J G d M Post σ pc L (v :: st) := by
  intro p e s m args below meth c H locs ls h1 h2 h3 h4 h5 h6 h7 h8 h9 h10 h11
  subst hq
  exact lv_dup2_2 h1 h2 hd hv (k p e s m args below meth c H locs ls h1 h2 h3 h4 h5 h6 h7 h8 h9 h10 h11)
theorem e_pop {v : Value} (hd : decode M.2.1 pc = .ok (.pop, 1)) (hq : pc + 1 = q) (hv : v.category = 1) (k : J G d M Post σ q L (st)) : J G d M Post σ pc L (v :: st) := by
  intro p e s m args below meth c H locs ls h1 h2 h3 h4 h5 h6 h7 h8 h9 h10 h11
  subst hq
  exact lv_pop h1 h2 hd hv (k p e s m args below meth c H locs ls h1 h2 h3 h4 h5 h6 h7 h8 h9 h10 h11)
theorem e_icmp_eq {x y off : Int} {tgt : Nat} (hd : decode M.2.1 pc = .ok (.if_icmp .eq off, 3)) (hq : pc + 3 = q) (ht : (pc : Int) + off = (tgt : Int)) (kt : x = y → J G d M Post σ tgt L st) (kf : ¬ (x = y) → J G d M Post σ q L st) (hx : R32 x := by first | assumption | exact ⟨by omega, by omega⟩ | decide) (hy : R32 y := by first | assumption | exact ⟨by omega, by omega⟩ | decide) : J G d M Post σ pc L (.int (iZ y) :: .int (iZ x) :: st) := by
  intro p e s m args below meth c H locs ls h1 h2 h3 h4 h5 h6 h7 h8 h9 h10 h11
  subst hq
  exact lv_icmp_eq h1 h2 hd ht (fun h => kt ((iZ_eq hx hy).mp h) p e s m args below meth c H locs ls h1 h2 h3 h4 h5 h6 h7 h8 h9 h10 h11) (fun h => kf (fun w => h ((iZ_eq hx hy).mpr w)) p e s m args below meth c H locs ls h1 h2 h3 h4 h5 h6 h7 h8 h9 h10 h11)
theorem e_icmp_ne {x y off : Int} {tgt : Nat} (hd : decode M.2.1 pc = .ok (.if_icmp .ne off, 3)) (hq : pc + 3 = q) (ht : (pc : Int) + off = (tgt : Int)) (kt : ¬ x = y → J G d M Post σ tgt L st) (kf : x = y → J G d M Post σ q L st) (hx : R32 x := by first | assumption | exact ⟨by omega, by omega⟩ | decide) (hy : R32 y := by first | assumption | exact ⟨by omega, by omega⟩ | decide) : J G d M Post σ pc L (.int (iZ y) :: .int (iZ x) :: st) := by
  intro p e s m args below meth c H locs ls h1 h2 h3 h4 h5 h6 h7 h8 h9 h10 h11
  subst hq
  exact lv_icmp_ne h1 h2 hd ht (fun h => kt (fun w => h ((iZ_eq hx hy).mpr w)) p e s m args below meth c H locs ls h1 h2 h3 h4 h5 h6 h7 h8 h9 h10 h11) (fun h => kf ((iZ_eq hx hy).mp h) p e s m args below meth c H locs ls h1 h2 h3 h4 h5 h6 h7 h8 h9 h10 h11)
theorem e_icmp_lt {x y off : Int} {tgt : Nat} (hd : decode M.2.1 pc = .ok (.if_icmp .lt off, 3)) (hq : pc + 3 = q) (ht : (pc : Int) + off = (tgt : Int)) (kt : x < y → J G d M Post σ tgt L st) (kf : ¬ (x < y) → J G d M Post σ q L st) (hx : R32 x := by first | assumption | exact ⟨by omega, by omega⟩ | decide) (hy : R32 y := by first | assumption | exact ⟨by omega, by omega⟩ | decide) : J G d M Post σ pc L (.int (iZ y) :: .int (iZ x) :: st) := by
  intro p e s m args below meth c H locs ls h1 h2 h3 h4 h5 h6 h7 h8 h9 h10 h11
  subst hq
  exact lv_icmp_lt h1 h2 hd ht (fun h => kt ((iZ_lt hx hy).mp h) p e s m args below meth c H locs ls h1 h2 h3 h4 h5 h6 h7 h8 h9 h10 h11) (fun h => kf (fun w => h ((iZ_lt hx hy).mpr w)) p e s m args below meth c H locs ls h1 h2 h3 h4 h5 h6 h7 h8 h9 h10 h11)
theorem e_icmp_ge {x y off : Int} {tgt : Nat} (hd : decode M.2.1 pc = .ok (.if_icmp .ge off, 3)) (hq : pc + 3 = q) (ht : (pc : Int) + off = (tgt : Int)) (kt : y ≤ x → J G d M Post σ tgt L st) (kf : ¬ (y ≤ x) → J G d M Post σ q L st) (hx : R32 x := by first | assumption | exact ⟨by omega, by omega⟩ | decide) (hy : R32 y := by first | assumption | exact ⟨by omega, by omega⟩ | decide) : J G d M Post σ pc L (.int (iZ y) :: .int (iZ x) :: st) := by
  intro p e s m args below meth c H locs ls h1 h2 h3 h4 h5 h6 h7 h8 h9 h10 h11
  subst hq
  exact lv_icmp_ge h1 h2 hd ht (fun h => kt ((iZ_le hy hx).mp h) p e s m args below meth c H locs ls h1 h2 h3 h4 h5 h6 h7 h8 h9 h10 h11) (fun h => kf (fun w => h ((iZ_le hy hx).mpr w)) p e s m args below meth c H locs ls h1 h2 h3 h4 h5 h6 h7 h8 h9 h10 h11)
theorem e_icmp_gt {x y off : Int} {tgt : Nat} (hd : decode M.2.1 pc = .ok (.if_icmp .gt off, 3)) (hq : pc + 3 = q) (ht : (pc : Int) + off = (tgt : Int)) (kt : y < x → J G d M Post σ tgt L st) (kf : ¬ (y < x) → J G d M Post σ q L st) (hx : R32 x := by first | assumption | exact ⟨by omega, by omega⟩ | decide) (hy : R32 y := by first | assumption | exact ⟨by omega, by omega⟩ | decide) : J G d M Post σ pc L (.int (iZ y) :: .int (iZ x) :: st) := by
  intro p e s m args below meth c H locs ls h1 h2 h3 h4 h5 h6 h7 h8 h9 h10 h11
  subst hq
  exact lv_icmp_gt h1 h2 hd ht (fun h => kt ((iZ_lt hy hx).mp h) p e s m args below meth c H locs ls h1 h2 h3 h4 h5 h6 h7 h8 h9 h10 h11) (fun h => kf (fun w => h ((iZ_lt hy hx).mpr w)) p e s m args below meth c H locs ls h1 h2 h3 h4 h5 h6 h7 h8 h9 h10 h11)
theorem e_icmp_le {x y off : Int} {tgt : Nat} (hd : decode M.2.1 pc = .ok (.if_icmp .le off, 3)) (hq : pc + 3 = q) (ht : (pc : Int) + off = (tgt : Int)) (kt : x ≤ y → J G d M Post σ tgt L st) (kf : ¬ (x ≤ y) → J G d M Post σ q L st) (hx : R32 x := by first | assumption | exact ⟨by omega, by omega⟩ | decide) (hy : R32 y := by first | assumption | exact ⟨by omega, by omega⟩ | decide) : J G d M Post σ pc L (.int (iZ y) :: .int (iZ x) :: st) := by
  intro p e s m args below meth c H locs ls h1 h2 h3 h4 h5 h6 h7 h8 h9 h10 h11
  subst hq
  exact lv_icmp_le h1 h2 hd ht (fun h => kt ((iZ_le hx hy).mp h) p e s m args below meth c H locs ls h1 h2 h3 h4 h5 h6 h7 h8 h9 h10 h11) (fun h => kf (fun w => h ((iZ_le hx hy).mpr w)) p e s m args below meth c H locs ls h1 h2 h3 h4 h5 h6 h7 h8 h9 h10 h11)
theorem e_if_eq {x off : Int} {tgt : Nat} (hd : decode M.2.1 pc = .ok (.ifCond .eq off, 3)) (hq : pc + 3 = q) (ht : (pc : Int) + off = (tgt : Int)) (kt : x = 0 → J G d M Post σ tgt L st) (kf : ¬ (x = 0) → J G d M Post σ q L st) (hx : R32 x := by first | assumption | exact ⟨by omega, by omega⟩ | decide) : J G d M Post σ pc L (.int (iZ x) :: st) := by
  intro p e s m args below meth c H locs ls h1 h2 h3 h4 h5 h6 h7 h8 h9 h10 h11
  subst hq
  exact lv_if_eq h1 h2 hd ht (fun h => kt ((iZ_eq hx R32_0).mp h) p e s m args below meth c H locs ls h1 h2 h3 h4 h5 h6 h7 h8 h9 h10 h11) (fun h => kf (fun w => h ((iZ_eq hx R32_0).mpr w)) p e s m args below meth c H locs ls h1 h2 h3 h4 h5 h6 h7 h8 h9 h10 h11)
theorem e_if_ne {x off : Int} {tgt : Nat} (hd : decode M.2.1 pc = .ok (.ifCond .ne off, 3)) (hq : pc + 3 = q) (ht : (pc : Int) + off = (tgt : Int)) (kt : ¬ x = 0 → J G d M Post σ tgt L st) (kf : x = 0 → J G d M Post σ q L st) (hx : R32 x := by first | assumption | exact ⟨by omega, by omega⟩ | decide) : J G d M Post σ pc L (.int (iZ x) :: st) := by
  intro p e s m args below meth c H locs ls h1 h2 h3 h4 h5 h6 h7 h8 h9 h10 h11
  subst hq
  exact lv_if_ne h1 h2 hd ht (fun h => kt (fun w => h ((iZ_eq hx R32_0).mpr w)) p e s m args below meth c H locs ls h1 h2 h3 h4 h5 h6 h7 h8 h9 h10 h11) (fun h => kf ((iZ_eq hx R32_0).mp h) p e s m args below meth c H locs ls h1 h2 h3 h4 h5 h6 h7 h8 h9 h10 h11)
theorem e_if_lt {x off : Int} {tgt : Nat} (hd : decode M.2.1 pc = .ok (.ifCond .lt off, 3)) (hq : pc + 3 = q) (ht : (pc : Int) + off = (tgt : Int)) (kt : x < 0 → J G d M Post σ tgt L st) (kf : ¬ (x < 0) → J G d M Post σ q L st) (hx : R32 x := by first | assumption | exact ⟨by omega, by omega⟩ | decide) : J G d M Post σ pc L (.int (iZ x) :: st) := by
  intro p e s m args below meth c H locs ls h1 h2 h3 h4 h5 h6 h7 h8 h9 h10 h11
  subst hq
  exact lv_if_lt h1 h2 hd ht (fun h => kt ((iZ_lt hx R32_0).mp h) p e s m args below meth c H locs ls h1 h2 h3 h4 h5 h6 h7 h8 h9 h10 h11) (fun h => kf (fun w => h ((iZ_lt hx R32_0).mpr w)) p e s m args below meth c H locs ls h1 h2 h3 h4 h5 h6 h7 h8 h9 h10 h11)
theorem e_if_ge {x off : Int} {tgt : Nat} (hd : decode M.2.1 pc = .ok (.ifCond .ge off, 3)) (hq : pc + 3 = q) (ht : (pc : Int) + off = (tgt : Int)) (kt : 0 ≤ x → J G d M Post σ tgt L st) (kf : ¬ (0 ≤ x) → J G d M Post σ q L st) (hx : R32 x := by first | assumption | exact ⟨by omega, by omega⟩ | decide) : J G d M Post σ pc L (.int (iZ x) :: st) := by
  intro p e s m args below meth c H locs ls h1 h2 h3 h4 h5 h6 h7 h8 h9 h10 h11
  subst hq
  exact lv_if_ge h1 h2 hd ht (fun h => kt ((iZ_le R32_0 hx).mp h) p e s m args below meth c H locs ls h1 h2 h3 h4 h5 h6 h7 h8 h9 h10 h11) (fun h => kf (fun w => h ((iZ_le R32_0 hx).mpr w)) p e s m args below meth c H locs ls h1 h2 h3 h4 h5 h6 h7 h8 h9 h10 h11)
theorem e_if_gt {x off : Int} {tgt : Nat} (hd : decode M.2.1 pc = .ok (.ifCond .gt off, 3)) (hq : pc + 3 = q) (ht : (pc : Int) + off = (tgt : Int)) (kt : 0 < x → J G d M Post σ tgt L st) (kf : ¬ (0 < x) → J G d M Post σ q L st) (hx : R32 x := by first | assumption | exact ⟨by omega, by omega⟩ | decide) : J G d M Post σ pc L (.int (iZ x) :: st) := by
  intro p e s m args below meth c H locs ls h1 h2 h3 h4 h5 h6 h7 h8 h9 h10 h11
  subst hq
  exact lv_if_gt h1 h2 hd ht (fun h => kt ((iZ_lt R32_0 hx).mp h) p e s m args below meth c H locs ls h1 h2 h3 h4 h5 h6 h7 h8 h9 h10 h11) (fun h => kf (fun w => h ((iZ_lt R32_0 hx).mpr w)) p e s m args below meth c H locs ls h1 h2 h3 h4 h5 h6 h7 h8 h9 h10 h11)
theorem e_if_le {x off : Int} {tgt : Nat} (hd : decode M.2.1 pc = .ok (.ifCond .le off, 3)) (hq : pc + 3 = q) (ht : (pc : Int) + off = (tgt : Int)) (kt : x ≤ 0 → J G d M Post σ tgt L st) (kf : ¬ (x ≤ 0) → J G d M Post σ q L st) (hx : R32 x := by first | assumption | exact ⟨by omega, by omega⟩ | decide) : J G d M Post σ pc L (.int (iZ x) :: st) := by
  intro p e s m args below meth c H locs ls h1 h2 h3 h4 h5 h6 h7 h8 h9 h10 h11
  subst hq
  exact lv_if_le h1 h2 hd ht (fun h => kt ((iZ_le hx R32_0).mp h) p e s m args below meth c H locs ls h1 h2 h3 h4 h5 h6 h7 h8 h9 h10 h11) (fun h => kf (fun w => h ((iZ_le hx R32_0).mpr w)) p e s m args below meth c H locs ls h1 h2 h3 h4 h5 h6 h7 h8 h9 h10 h11)
theorem e_goto {off : Int} {tgt : Nat} (hd : decode M.2.1 pc = .ok (.goto off, 3)) (ht : (pc : Int) + off = (tgt : Int)) (k : J G d M Post σ tgt L st) : J G d M Post σ pc L st := by
  intro p e s m args below meth c H locs ls h1 h2 h3 h4 h5 h6 h7 h8 h9 h10 h11
  exact lv_goto h1 h2 hd ht (k p e s m args below meth c H locs ls h1 h2 h3 h4 h5 h6 h7 h8 h9 h10 h11)
theorem e_tabIn {x dflt lo hi off : Int} {offs : Array Int} {len tgt : Nat} (hd : decode M.2.1 pc = .ok (.tableswitch dflt lo hi offs, len)) (hx : R32 x) (ha : lo ≤ x) (hb : x ≤ hi) (ho : offs[(x - lo).toNat]? = some off) (ht : (pc : Int) + off = (tgt : Int)) (k : J G d M Post σ tgt L st) : J G d M Post σ pc L (.int (iZ x) :: st) := by
  intro p e s m args below meth c H locs ls h1 h2 h3 h4 h5 h6 h7 h8 h9 h10 h11
  exact lv_tableIn h1 h2 hd (by rw [iZ_toInt hx]; omega) (by rw [iZ_toInt hx]; omega) (by rw [iZ_toInt hx]; exact ho) ht (k p e s m args below meth c H locs ls h1 h2 h3 h4 h5 h6 h7 h8 h9 h10 h11)
theorem e_tabOut {x dflt lo hi : Int} {offs : Array Int} {len tgt : Nat} (hd : decode M.2.1 pc = .ok (.tableswitch dflt lo hi offs, len)) (hx : R32 x) (ha : x < lo ∨ hi < x) (ht : (pc : Int) + dflt = (tgt : Int)) (k : J G d M Post σ tgt L st) : J G d M Post σ pc L (.int (iZ x) :: st) := by
  intro p e s m args below meth c H locs ls h1 h2 h3 h4 h5 h6 h7 h8 h9 h10 h11
  exact lv_tableOut h1 h2 hd (by rw [iZ_toInt hx]; exact ha) ht (k p e s m args below meth c H locs ls h1 h2 h3 h4 h5 h6 h7 h8 h9 h10 h11)
theorem e_look {x dflt off : Int} {ps : Array (Int × Int)} {len tgt : Nat} (hd : decode M.2.1 pc = .ok (.lookupswitch dflt ps, len)) (hp : (ps.toList.zip (ps.toList.drop 1)).all (fun (a, next) => a.1 < next.1) = true) (hx : R32 x) (ho : Op.lookupswitch.offset ps.toList dflt x = off) (ht : (pc : Int) + off = (tgt : Int)) (k : J G d M Post σ tgt L st) : J G d M Post σ pc L (.int (iZ x) :: st) := by
  intro p e s m args below meth c H locs ls h1 h2 h3 h4 h5 h6 h7 h8 h9 h10 h11
  exact lv_lookup h1 h2 hd hp (by rw [iZ_toInt hx]; exact ho) ht (k p e s m args below meth c H locs ls h1 h2 h3 h4 h5 h6 h7 h8 h9 h10 h11)
theorem e_getI {idx ci j k0 : Nat} {fl : List Nat} {jz : Int} (hd : decode M.2.1 pc = .ok (.getfield idx, 3)) (hq : pc + 3 = q) (hf : FG M.1.cls idx ci j) (hz : ((j : Nat) : Int) = jz) (hk : lay[k0]? = some (.inr (ci, fl))) (hj : fl[j]? = some 0) (k : J G d M Post σ q L (.int (iZ (σ.1 k0 jz)) :: st)) : J G d M Post σ pc L (.ref (G.2.2.2 + k0) :: st) := by
  intro p e s m args below meth c H locs ls h1 h2 h3 h4 h5 h6 h7 h8 h9 h10 h11
  subst hq hz
  obtain ⟨C, T, N, hc, hjN, hin, hlink⟩ := hf
  have hv : (fl.mapIdx (fun j f => fvl G.2.2.2 σ k0 j f))[j]? = some (.int (iZ (σ.1 k0 j))) := by rw [List.getElem?_mapIdx, hj]; rfl
  exact va_get h1 h2 (fun w hw => h7 w (List.mem_cons_of_mem _ hw)) hin h6 h8.1 h9 k0 (g_get hk) hc j hjN (h7 _ (List.mem_cons_of_mem _ hlink)) (fun _ h => h) hv hd (k p e s m args below meth c H locs ls h1 h2 h3 h4 h5 h6 h7 h8 h9 h10 h11)
theorem e_getL {idx ci j k0 : Nat} {fl : List Nat} {jz : Int} (hd : decode M.2.1 pc = .ok (.getfield idx, 3)) (hq : pc + 3 = q) (hf : FG M.1.cls idx ci j) (hz : ((j : Nat) : Int) = jz) (hk : lay[k0]? = some (.inr (ci, fl))) (hj : fl[j]? = some 1) (k : J G d M Post σ q L (.long (lZ (σ.2 k0 jz)) :: st)) : J G d M Post σ pc L (.ref (G.2.2.2 + k0) :: st) := by
  intro p e s m args below meth c H locs ls h1 h2 h3 h4 h5 h6 h7 h8 h9 h10 h11
  subst hq hz
  obtain ⟨C, T, N, hc, hjN, hin, hlink⟩ := hf
  have hv : (fl.mapIdx (fun j f => fvl G.2.2.2 σ k0 j f))[j]? = some (.long (lZ (σ.2 k0 j))) := by rw [List.getElem?_mapIdx, hj]; rfl
  exact va_get h1 h2 (fun w hw => h7 w (List.mem_cons_of_mem _ hw)) hin h6 h8.1 h9 k0 (g_get hk) hc j hjN (h7 _ (List.mem_cons_of_mem _ hlink)) (fun _ h => h) hv hd (k p e s m args below meth c H locs ls h1 h2 h3 h4 h5 h6 h7 h8 h9 h10 h11)
theorem e_getR {t : Nat} {idx ci j k0 : Nat} {fl : List Nat} (hd : decode M.2.1 pc = .ok (.getfield idx, 3)) (hq : pc + 3 = q) (hf : FG M.1.cls idx ci j) (hk : lay[k0]? = some (.inr (ci, fl))) (hj : fl[j]? = some (t + 2)) (k : J G d M Post σ q L (.ref (G.2.2.2 + t) :: st)) : J G d M Post σ pc L (.ref (G.2.2.2 + k0) :: st) := by
  intro p e s m args below meth c H locs ls h1 h2 h3 h4 h5 h6 h7 h8 h9 h10 h11
  subst hq
  obtain ⟨C, T, N, hc, hjN, hin, hlink⟩ := hf
  have hv : (fl.mapIdx (fun j f => fvl G.2.2.2 σ k0 j f))[j]? = some (.ref (G.2.2.2 + t)) := by rw [List.getElem?_mapIdx, hj]; rfl
  exact va_get h1 h2 (fun w hw => h7 w (List.mem_cons_of_mem _ hw)) hin h6 h8.1 h9 k0 (g_get hk) hc j hjN (h7 _ (List.mem_cons_of_mem _ hlink)) (fun _ h => h) hv hd (k p e s m args below meth c H locs ls h1 h2 h3 h4 h5 h6 h7 h8 h9 h10 h11)
theorem e_putI {x : Int} {idx ci j k0 : Nat} {fl : List Nat} {jz : Int} (hd : decode M.2.1 pc = .ok (.putfield idx, 3)) (hq : pc + 3 = q) (hf : FP M.1.cls idx ci j .int) (hz : ((j : Nat) : Int) = jz) (hk : lay[k0]? = some (.inr (ci, fl))) (hj : fl[j]? = some 0) (k : J G d M Post (sI σ k0 jz x) q L st) : J G d M Post σ pc L (.int (iZ x) :: .ref (G.2.2.2 + k0) :: st) := by
  intro p e s m args below meth c H locs ls h1 h2 h3 h4 h5 h6 h7 h8 h9 h10 h11
  subst hq hz
  obtain ⟨C, T, N, ty0, hc, hjN, hin, hlink, hty, hnm, hfin, hpd⟩ := hf
  have hl : j < (fl.mapIdx (fun j f => fvl G.2.2.2 σ k0 j f)).length := by rw [List.length_mapIdx]; exact (List.getElem?_eq_some_iff.mp hj).1
  refine va_put h1 h2 (fun w hw => h7 w (List.mem_cons_of_mem _ hw)) hin ty0 hty hnm h6 h8.1 h9 (gD G σ) h10 k0 (g_get hk) hc j hjN (h7 _ (List.mem_cons_of_mem _ hlink)) (fun _ h => h) hfin hpd rfl rfl hl hd (fun H1 locs1 hP1 hD1 hS1 => ?_)
  rw [show gW G σ = wsOf G.2.2.1 G.2.2.2 σ from rfl, st_fI hk hj] at hP1
  exact k p e s m args below meth c H1 locs1 ls h1 h2 h3 h4 h5 h6 h7 h8 hP1 hS1 h11
theorem e_putZ {x : Int} {idx ci j k0 : Nat} {fl : List Nat} {jz : Int} (hd : decode M.2.1 pc = .ok (.putfield idx, 3)) (hq : pc + 3 = q) (hf : FP M.1.cls idx ci j .boolean) (hz : ((j : Nat) : Int) = jz) (hk : lay[k0]? = some (.inr (ci, fl))) (hj : fl[j]? = some 0) (hb : x = 0 ∨ x = 1) (k : J G d M Post (sI σ k0 jz x) q L st) : J G d M Post σ pc L (.int (iZ x) :: .ref (G.2.2.2 + k0) :: st) := by
  intro p e s m args below meth c H locs ls h1 h2 h3 h4 h5 h6 h7 h8 h9 h10 h11
  subst hq hz
  obtain ⟨C, T, N, ty0, hc, hjN, hin, hlink, hty, hnm, hfin, hpd⟩ := hf
  have hl : j < (fl.mapIdx (fun j f => fvl G.2.2.2 σ k0 j f)).length := by rw [List.length_mapIdx]; exact (List.getElem?_eq_some_iff.mp hj).1
  refine va_put h1 h2 (fun w hw => h7 w (List.mem_cons_of_mem _ hw)) hin ty0 hty hnm h6 h8.1 h9 (gD G σ) h10 k0 (g_get hk) hc j hjN (h7 _ (List.mem_cons_of_mem _ hlink)) (fun _ h => h) hfin hpd (by rcases hb with rfl | rfl <;> rfl) (by rcases hb with rfl | rfl <;> rfl) hl hd (fun H1 locs1 hP1 hD1 hS1 => ?_)
  rw [show gW G σ = wsOf G.2.2.1 G.2.2.2 σ from rfl, st_fI hk hj] at hP1
  exact k p e s m args below meth c H1 locs1 ls h1 h2 h3 h4 h5 h6 h7 h8 hP1 hS1 h11
theorem e_putL {x : Int} {idx ci j k0 : Nat} {fl : List Nat} {jz : Int} (hd : decode M.2.1 pc = .ok (.putfield idx, 3)) (hq : pc + 3 = q) (hf : FP M.1.cls idx ci j .long) (hz : ((j : Nat) : Int) = jz) (hk : lay[k0]? = some (.inr (ci, fl))) (hj : fl[j]? = some 1) (k : J G d M Post (sJ σ k0 jz x) q L st) : J G d M Post σ pc L (.long (lZ x) :: .ref (G.2.2.2 + k0) :: st) := by
  intro p e s m args below meth c H locs ls h1 h2 h3 h4 h5 h6 h7 h8 h9 h10 h11
  subst hq hz
  obtain ⟨C, T, N, ty0, hc, hjN, hin, hlink, hty, hnm, hfin, hpd⟩ := hf
  have hl : j < (fl.mapIdx (fun j f => fvl G.2.2.2 σ k0 j f)).length := by rw [List.length_mapIdx]; exact (List.getElem?_eq_some_iff.mp hj).1
  refine va_put h1 h2 (fun w hw => h7 w (List.mem_cons_of_mem _ hw)) hin ty0 hty hnm h6 h8.1 h9 (gD G σ) h10 k0 (g_get hk) hc j hjN (h7 _ (List.mem_cons_of_mem _ hlink)) (fun _ h => h) hfin hpd rfl rfl hl hd (fun H1 locs1 hP1 hD1 hS1 => ?_)
  rw [show gW G σ = wsOf G.2.2.1 G.2.2.2 σ from rfl, st_fJ hk hj] at hP1
  exact k p e s m args below meth c H1 locs1 ls h1 h2 h3 h4 h5 h6 h7 h8 hP1 hS1 h11
theorem e_iald {k0 n : Nat} {z : Int} (hd : decode M.2.1 pc = .ok (.iaload, 1)) (hq : pc + 1 = q) (hk : lay[k0]? = some (.inl (0, n))) (k : J G d M Post σ q L (.int (iZ (σ.1 k0 z)) :: st)) (h0 : 0 ≤ z := by omega) (hi : z < n := by omega) (hn : n < 2147483648 := by decide) : J G d M Post σ pc L (.int (iZ z) :: .ref (G.2.2.2 + k0) :: st) := by
  intro p e s m args below meth c H locs ls h1 h2 h3 h4 h5 h6 h7 h8 h9 h10 h11
  subst hq
  have e1 : (iZ z).toNatClampNeg = z.toNat := iZ_ix h0 (by omega)
  have e2 : ((z.toNat : Nat) : Int) = z := Int.toNat_of_nonneg h0
  refine va_iald (f := fun i => iZ (σ.1 k0 i)) h1 h2 h8.1 h9 k0 0 (g_get hk) rfl (iZ_in h0 hi hn) hd ?_
  rw [e1]
  show W _ _ _ _ _ _ _ _ _ _ _ _ _ _ _ (F0 m (pc + 1) ls (.int (iZ (σ.1 k0 ((z.toNat : Nat) : Int))) :: st))
  rw [e2]
  exact k p e s m args below meth c H locs ls h1 h2 h3 h4 h5 h6 h7 h8 h9 h10 h11
theorem e_bald {k0 n : Nat} {z : Int} (hd : decode M.2.1 pc = .ok (.baload, 1)) (hq : pc + 1 = q) (hk : lay[k0]? = some (.inl (2, n))) (k : J G d M Post σ q L (.int (iZ (σ.1 k0 z)) :: st)) (h0 : 0 ≤ z := by omega) (hi : z < n := by omega) (hn : n < 2147483648 := by decide) : J G d M Post σ pc L (.int (iZ z) :: .ref (G.2.2.2 + k0) :: st) := by
  intro p e s m args below meth c H locs ls h1 h2 h3 h4 h5 h6 h7 h8 h9 h10 h11
  subst hq
  have e1 : (iZ z).toNatClampNeg = z.toNat := iZ_ix h0 (by omega)
  have e2 : ((z.toNat : Nat) : Int) = z := Int.toNat_of_nonneg h0
  refine va_bald (f := fun i => iZ (σ.1 k0 i)) h1 h2 h8.1 h9 k0 2 (g_get hk) rfl (iZ_in h0 hi hn) hd ?_
  rw [e1]
  show W _ _ _ _ _ _ _ _ _ _ _ _ _ _ _ (F0 m (pc + 1) ls (.int (iZ (σ.1 k0 ((z.toNat : Nat) : Int))) :: st))
  rw [e2]
  exact k p e s m args below meth c H locs ls h1 h2 h3 h4 h5 h6 h7 h8 h9 h10 h11
theorem e_zald {k0 n : Nat} {z : Int} (hd : decode M.2.1 pc = .ok (.baload, 1)) (hq : pc + 1 = q) (hk : lay[k0]? = some (.inl (3, n))) (k : J G d M Post σ q L (.int (iZ (σ.1 k0 z)) :: st)) (h0 : 0 ≤ z := by omega) (hi : z < n := by omega) (hn : n < 2147483648 := by decide) : J G d M Post σ pc L (.int (iZ z) :: .ref (G.2.2.2 + k0) :: st) := by
  intro p e s m args below meth c H locs ls h1 h2 h3 h4 h5 h6 h7 h8 h9 h10 h11
  subst hq
  have e1 : (iZ z).toNatClampNeg = z.toNat := iZ_ix h0 (by omega)
  have e2 : ((z.toNat : Nat) : Int) = z := Int.toNat_of_nonneg h0
  refine va_zald (f := fun i => iZ (σ.1 k0 i)) h1 h2 h8.1 h9 k0 3 (g_get hk) rfl (iZ_in h0 hi hn) hd ?_
  rw [e1]
  show W _ _ _ _ _ _ _ _ _ _ _ _ _ _ _ (F0 m (pc + 1) ls (.int (iZ (σ.1 k0 ((z.toNat : Nat) : Int))) :: st))
  rw [e2]
  exact k p e s m args below meth c H locs ls h1 h2 h3 h4 h5 h6 h7 h8 h9 h10 h11
theorem e_lald {k0 n : Nat} {z : Int} (hd : decode M.2.1 pc = .ok (.laload, 1)) (hq : pc + 1 = q) (hk : lay[k0]? = some (.inl (1, n))) (k : J G d M Post σ q L (.long (lZ (σ.2 k0 z)) :: st)) (h0 : 0 ≤ z := by omega) (hi : z < n := by omega) (hn : n < 2147483648 := by decide) : J G d M Post σ pc L (.int (iZ z) :: .ref (G.2.2.2 + k0) :: st) := by
  intro p e s m args below meth c H locs ls h1 h2 h3 h4 h5 h6 h7 h8 h9 h10 h11
  subst hq
  have e1 : (iZ z).toNatClampNeg = z.toNat := iZ_ix h0 (by omega)
  have e2 : ((z.toNat : Nat) : Int) = z := Int.toNat_of_nonneg h0
  refine va_lald (f := fun i => lZ (σ.2 k0 i)) h1 h2 h8.1 h9 k0 1 (g_get hk) rfl (iZ_in h0 hi hn) hd ?_
  rw [e1]
  show W _ _ _ _ _ _ _ _ _ _ _ _ _ _ _ (F0 m (pc + 1) ls (.long (lZ (σ.2 k0 ((z.toNat : Nat) : Int))) :: st))
  rw [e2]
  exact k p e s m args below meth c H locs ls h1 h2 h3 h4 h5 h6 h7 h8 h9 h10 h11
theorem e_iast {x : Int} {k0 n : Nat} {z : Int} (hd : decode M.2.1 pc = .ok (.iastore, 1)) (hq : pc + 1 = q) (hk : lay[k0]? = some (.inl (0, n))) (k : J G d M Post (sI σ k0 z x) q L st) (h0 : 0 ≤ z := by omega) (hi : z < n := by omega) (hn : n < 2147483648 := by decide) : J G d M Post σ pc L (.int (iZ x) :: .int (iZ z) :: .ref (G.2.2.2 + k0) :: st) := by
  intro p e s m args below meth c H locs ls h1 h2 h3 h4 h5 h6 h7 h8 h9 h10 h11
  subst hq
  have e1 : (iZ z).toNatClampNeg = z.toNat := iZ_ix h0 (by omega)
  refine va_iast (f := fun i => iZ (σ.1 k0 i)) h1 h2 h8.1 h9 (gD G σ) h10 k0 0 (g_get hk) rfl (iZ_in h0 hi hn) hd (fun H1 locs1 hP1 hD1 hS1 => ?_)
  rw [e1] at hP1
  rw [show gW G σ = wsOf G.2.2.1 G.2.2.2 σ from rfl, st_aI hk (by decide) h0] at hP1
  exact k p e s m args below meth c H1 locs1 ls h1 h2 h3 h4 h5 h6 h7 h8 hP1 hS1 h11
theorem e_bast {x y : Int} {k0 n : Nat} {z : Int} (hd : decode M.2.1 pc = .ok (.bastore, 1)) (hq : pc + 1 = q) (hk : lay[k0]? = some (.inl (2, n))) (hy : vp_nar .byte (iZ x) = iZ y) (k : J G d M Post (sI σ k0 z y) q L st) (h0 : 0 ≤ z := by omega) (hi : z < n := by omega) (hn : n < 2147483648 := by decide) : J G d M Post σ pc L (.int (iZ x) :: .int (iZ z) :: .ref (G.2.2.2 + k0) :: st) := by
  intro p e s m args below meth c H locs ls h1 h2 h3 h4 h5 h6 h7 h8 h9 h10 h11
  subst hq
  have e1 : (iZ z).toNatClampNeg = z.toNat := iZ_ix h0 (by omega)
  refine va_bast (f := fun i => iZ (σ.1 k0 i)) h1 h2 h8.1 h9 (gD G σ) h10 k0 2 (g_get hk) rfl (iZ_in h0 hi hn) hd (fun H1 locs1 hP1 hD1 hS1 => ?_)
  rw [e1, hy] at hP1
  rw [show gW G σ = wsOf G.2.2.1 G.2.2.2 σ from rfl, st_aI hk (by decide) h0] at hP1
  exact k p e s m args below meth c H1 locs1 ls h1 h2 h3 h4 h5 h6 h7 h8 hP1 hS1 h11
theorem e_zast {x : Int} {k0 n : Nat} {z : Int} (hd : decode M.2.1 pc = .ok (.bastore, 1)) (hq : pc + 1 = q) (hk : lay[k0]? = some (.inl (3, n))) (hb : x = 0 ∨ x = 1) (k : J G d M Post (sI σ k0 z x) q L st) (h0 : 0 ≤ z := by omega) (hi : z < n := by omega) (hn : n < 2147483648 := by decide) : J G d M Post σ pc L (.int (iZ x) :: .int (iZ z) :: .ref (G.2.2.2 + k0) :: st) := by
  intro p e s m args below meth c H locs ls h1 h2 h3 h4 h5 h6 h7 h8 h9 h10 h11
  have hy : vp_nar .boolean (iZ x) = iZ x := by rcases hb with rfl | rfl <;> rfl
  subst hq
  have e1 : (iZ z).toNatClampNeg = z.toNat := iZ_ix h0 (by omega)
  refine va_zast (f := fun i => iZ (σ.1 k0 i)) h1 h2 h8.1 h9 (gD G σ) h10 k0 3 (g_get hk) rfl (iZ_in h0 hi hn) hd (fun H1 locs1 hP1 hD1 hS1 => ?_)
  rw [e1, hy] at hP1
  rw [show gW G σ = wsOf G.2.2.1 G.2.2.2 σ from rfl, st_aI hk (by decide) h0] at hP1
  exact k p e s m args below meth c H1 locs1 ls h1 h2 h3 h4 h5 h6 h7 h8 hP1 hS1 h11
theorem e_last {x : Int} {k0 n : Nat} {z : Int} (hd : decode M.2.1 pc = .ok (.lastore, 1)) (hq : pc + 1 = q) (hk : lay[k0]? = some (.inl (1, n))) (k : J G d M Post (sJ σ k0 z x) q L st) (h0 : 0 ≤ z := by omega) (hi : z < n := by omega) (hn : n < 2147483648 := by decide) : J G d M Post σ pc L (.long (lZ x) :: .int (iZ z) :: .ref (G.2.2.2 + k0) :: st) := by
  intro p e s m args below meth c H locs ls h1 h2 h3 h4 h5 h6 h7 h8 h9 h10 h11
  subst hq
  have e1 : (iZ z).toNatClampNeg = z.toNat := iZ_ix h0 (by omega)
  refine va_last (f := fun i => lZ (σ.2 k0 i)) h1 h2 h8.1 h9 (gD G σ) h10 k0 1 (g_get hk) rfl (iZ_in h0 hi hn) hd (fun H1 locs1 hP1 hD1 hS1 => ?_)
  rw [e1] at hP1
  rw [show gW G σ = wsOf G.2.2.1 G.2.2.2 σ from rfl, st_aJ hk h0] at hP1
  exact k p e s m args below meth c H1 locs1 ls h1 h2 h3 h4 h5 h6 h7 h8 hP1 hS1 h11
theorem e_alen {k0 n t : Nat} {nz : Int} (hd : decode M.2.1 pc = .ok (.arraylength, 1)) (hq : pc + 1 = q) (hk : lay[k0]? = some (.inl (t, n))) (ht : t < 4) (hz : ((n : Nat) : Int) = nz) (k : J G d M Post σ q L (.int (iZ nz) :: st)) : J G d M Post σ pc L (.ref (G.2.2.2 + k0) :: st) := by
  intro p e s m args below meth c H locs ls h1 h2 h3 h4 h5 h6 h7 h8 h9 h10 h11
  subst hq hz
  have e1 : (tysOf G.2.2.1)[t]? = some (G.2.2.1 t, tyC t) := by
    match t, ht with
    | 0, _ => rfl
    | 1, _ => rfl
    | 2, _ => rfl
    | 3, _ => rfl
    | _ + 4, h => exact absurd h (by omega)
  exact va_alen h1 h2 h8.1 h9 k0 t (g_get hk) e1 (show Int32.ofNat n = iZ n from rfl) hd (k p e s m args below meth c H locs ls h1 h2 h3 h4 h5 h6 h7 h8 h9 h10 h11)
theorem e_mmax {x y : Int} {idx : Nat} (hd : decode M.2.1 pc = .ok (.invokestatic idx, 3)) (hq : pc + 3 = q) (hl : Cond.methodLink M.1.cls idx Lib.Math.max.name ∈ lw_good) (hs1 : Cond.static Lib.Math.max.name ∈ lw_good) (hs3 : Cond.code Lib.Math.max.name Lib.Math.max.code 2 (some .int) ∈ lw_good) (hs2 : Cond.initialized "java/lang/Math" ∈ lw_good) (hr : (st.map fun v => v.category).sum ≤ 8) (hdd : 1 ≤ d) (k : J G d M Post σ q L (.int (iZ (max x y)) :: st)) (hx : R32 x := by first | assumption | exact ⟨by omega, by omega⟩ | decide) (hy : R32 y := by first | assumption | exact ⟨by omega, by omega⟩ | decide) : J G d M Post σ pc L (.int (iZ y) :: .int (iZ x) :: st) := by
  intro p e s m args below meth c H locs ls h1 h2 h3 h4 h5 h6 h7 h8 h9 h10 h11
  subst hq
  refine va_mmax h1 h2 (h3.trans h11.1.symm) h6 (h7 _ (List.mem_cons_of_mem _ hl)) (h7 _ (List.mem_cons_of_mem _ hs1)) (h7 _ (List.mem_cons_of_mem _ hs2)) (h7 _ (List.mem_cons_of_mem _ hs3)) hdd (by show _ ≤ 64 * d; omega) (Nat.le_refl _) (Nat.le_refl _) hd ?_
  have e1 : (if iZ x < iZ y then iZ y else iZ x) = iZ (max x y) := by
    split
    · rename_i h
      have h := (iZ_lt hx hy).mp h
      congr 1
      omega
    · rename_i h
      have h : ¬ x < y := fun w => h ((iZ_lt hx hy).mpr w)
      congr 1
      omega
  rw [e1]
  exact k p e s m args below meth c H locs ls h1 h2 h3 h4 h5 h6 h7 h8 h9 h10 h11
theorem e_mmin {x y : Int} {idx : Nat} (hd : decode M.2.1 pc = .ok (.invokestatic idx, 3)) (hq : pc + 3 = q) (hl : Cond.methodLink M.1.cls idx Lib.Math.min.name ∈ lw_good) (hs1 : Cond.static Lib.Math.min.name ∈ lw_good) (hs3 : Cond.code Lib.Math.min.name Lib.Math.min.code 2 (some .int) ∈ lw_good) (hs2 : Cond.initialized "java/lang/Math" ∈ lw_good) (hr : (st.map fun v => v.category).sum ≤ 8) (hdd : 1 ≤ d) (k : J G d M Post σ q L (.int (iZ (min x y)) :: st)) (hx : R32 x := by first | assumption | exact ⟨by omega, by omega⟩ | decide) (hy : R32 y := by first | assumption | exact ⟨by omega, by omega⟩ | decide) : J G d M Post σ pc L (.int (iZ y) :: .int (iZ x) :: st) := by
  intro p e s m args below meth c H locs ls h1 h2 h3 h4 h5 h6 h7 h8 h9 h10 h11
  subst hq
  refine va_mmin h1 h2 (h3.trans h11.1.symm) h6 (h7 _ (List.mem_cons_of_mem _ hl)) (h7 _ (List.mem_cons_of_mem _ hs1)) (h7 _ (List.mem_cons_of_mem _ hs2)) (h7 _ (List.mem_cons_of_mem _ hs3)) hdd (by show _ ≤ 64 * d; omega) (Nat.le_refl _) (Nat.le_refl _) hd ?_
  have e1 : (if iZ y < iZ x then iZ y else iZ x) = iZ (min x y) := by
    split
    · rename_i h
      have h := (iZ_lt hy hx).mp h
      congr 1
      omega
    · rename_i h
      have h : ¬ y < x := fun w => h ((iZ_lt hy hx).mpr w)
      congr 1
      omega
  rw [e1]
  exact k p e s m args below meth c H locs ls h1 h2 h3 h4 h5 h6 h7 h8 h9 h10 h11
theorem e_mmaxL {x y : Int} {idx : Nat} (hd : decode M.2.1 pc = .ok (.invokestatic idx, 3)) (hq : pc + 3 = q) (hl : Cond.methodLink M.1.cls idx Lib.MathLoose.max_long.x ∈ lw_good) (hs1 : Cond.static Lib.MathLoose.max_long.x ∈ lw_good) (hs3 : Cond.code Lib.MathLoose.max_long.x Lib.MathLoose.max_long.code 4 (some .long) ∈ lw_good) (hs2 : Cond.initialized "java/lang/Math" ∈ lw_good) (hr : (st.map fun v => v.category).sum ≤ 8) (hdd : 1 ≤ d) (k : J G d M Post σ q L (.long (lZ (max x y)) :: st)) (hx : R64 x := by first | assumption | exact ⟨by omega, by omega⟩ | decide) (hy : R64 y := by first | assumption | exact ⟨by omega, by omega⟩ | decide) : J G d M Post σ pc L (.long (lZ y) :: .long (lZ x) :: st) := by
  intro p e s m args below meth c H locs ls h1 h2 h3 h4 h5 h6 h7 h8 h9 h10 h11
  subst hq
  refine va_mmax_long h1 h2 (h3.trans h11.1.symm) h6 (h7 _ (List.mem_cons_of_mem _ hl)) (h7 _ (List.mem_cons_of_mem _ hs1)) (h7 _ (List.mem_cons_of_mem _ hs2)) (h7 _ (List.mem_cons_of_mem _ hs3)) hdd (by show _ ≤ 64 * d; omega) (Nat.le_refl _) (Nat.le_refl _) hd ?_
  have e1 : (if lZ y < lZ x then lZ x else lZ y) = lZ (max x y) := by
    split
    · rename_i h
      have h := (lZ_lt hy hx).mp h
      congr 1
      omega
    · rename_i h
      have h : ¬ y < x := fun w => h ((lZ_lt hy hx).mpr w)
      congr 1
      omega
  rw [e1]
  exact k p e s m args below meth c H locs ls h1 h2 h3 h4 h5 h6 h7 h8 h9 h10 h11
theorem e_mminL {x y : Int} {idx : Nat} (hd : decode M.2.1 pc = .ok (.invokestatic idx, 3)) (hq : pc + 3 = q) (hl : Cond.methodLink M.1.cls idx Lib.MathLoose.min_long.x ∈ lw_good) (hs1 : Cond.static Lib.MathLoose.min_long.x ∈ lw_good) (hs3 : Cond.code Lib.MathLoose.min_long.x Lib.MathLoose.min_long.code 4 (some .long) ∈ lw_good) (hs2 : Cond.initialized "java/lang/Math" ∈ lw_good) (hr : (st.map fun v => v.category).sum ≤ 8) (hdd : 1 ≤ d) (k : J G d M Post σ q L (.long (lZ (min x y)) :: st)) (hx : R64 x := by first | assumption | exact ⟨by omega, by omega⟩ | decide) (hy : R64 y := by first | assumption | exact ⟨by omega, by omega⟩ | decide) : J G d M Post σ pc L (.long (lZ y) :: .long (lZ x) :: st) := by
  intro p e s m args below meth c H locs ls h1 h2 h3 h4 h5 h6 h7 h8 h9 h10 h11
  subst hq
  refine va_mmin_long h1 h2 (h3.trans h11.1.symm) h6 (h7 _ (List.mem_cons_of_mem _ hl)) (h7 _ (List.mem_cons_of_mem _ hs1)) (h7 _ (List.mem_cons_of_mem _ hs2)) (h7 _ (List.mem_cons_of_mem _ hs3)) hdd (by show _ ≤ 64 * d; omega) (Nat.le_refl _) (Nat.le_refl _) hd ?_
  have e1 : (if lZ y < lZ x then lZ y else lZ x) = lZ (min x y) := by
    split
    · rename_i h
      have h := (lZ_lt hy hx).mp h
      congr 1
      omega
    · rename_i h
      have h : ¬ y < x := fun w => h ((lZ_lt hy hx).mpr w)
      congr 1
      omega
  rw [e1]
  exact k p e s m args below meth c H locs ls h1 h2 h3 h4 h5 h6 h7 h8 h9 h10 h11
theorem e_mabs {x : Int} {idx : Nat} (hd : decode M.2.1 pc = .ok (.invokestatic idx, 3)) (hq : pc + 3 = q) (hl : Cond.methodLink M.1.cls idx Lib.Math.abs.name ∈ lw_good) (hs1 : Cond.static Lib.Math.abs.name ∈ lw_good) (hs3 : Cond.code Lib.Math.abs.name Lib.Math.abs.code 1 (some .int) ∈ lw_good) (hs2 : Cond.initialized "java/lang/Math" ∈ lw_good) (hr : (st.map fun v => v.category).sum ≤ 8) (hdd : 1 ≤ d) (k : J G d M Post σ q L (.int (iZ (max x (-x))) :: st)) (hx : R32 x := by first | assumption | exact ⟨by omega, by omega⟩ | decide) : J G d M Post σ pc L (.int (iZ x) :: st) := by
  intro p e s m args below meth c H locs ls h1 h2 h3 h4 h5 h6 h7 h8 h9 h10 h11
  subst hq
  refine va_mabs h1 h2 (h3.trans h11.1.symm) h6 (h7 _ (List.mem_cons_of_mem _ hl)) (h7 _ (List.mem_cons_of_mem _ hs1)) (h7 _ (List.mem_cons_of_mem _ hs2)) (h7 _ (List.mem_cons_of_mem _ hs3)) hdd (by show _ ≤ 64 * d; omega) (Nat.le_refl _) (Nat.le_refl _) hd ?_
  have e1 : (if 0 ≤ iZ x then iZ x else 0 - iZ x) = iZ (max x (-x)) := by
    have q : (0 ≤ iZ x) ↔ 0 ≤ x := iZ_le R32_0 hx
    by_cases h : 0 ≤ x
    · rw [if_pos (q.mpr h)]; congr 1; omega
    · rw [if_neg (fun w => h (q.mp w)), show (0 : Int32) - iZ x = iZ (0 - x) from iZ_sub 0 x]; congr 1; omega
  rw [e1]
  exact k p e s m args below meth c H locs ls h1 h2 h3 h4 h5 h6 h7 h8 h9 h10 h11
theorem e_mabsL {x : Int} {idx : Nat} (hd : decode M.2.1 pc = .ok (.invokestatic idx, 3)) (hq : pc + 3 = q) (hl : Cond.methodLink M.1.cls idx Lib.MathLoose.abs_long.x ∈ lw_good) (hs1 : Cond.static Lib.MathLoose.abs_long.x ∈ lw_good) (hs3 : Cond.code Lib.MathLoose.abs_long.x Lib.MathLoose.abs_long.code 2 (some .long) ∈ lw_good) (hs2 : Cond.initialized "java/lang/Math" ∈ lw_good) (hr : (st.map fun v => v.category).sum ≤ 8) (hdd : 1 ≤ d) (k : J G d M Post σ q L (.long (lZ (max x (-x))) :: st)) (hx : R64 x := by first | assumption | exact ⟨by omega, by omega⟩ | decide) : J G d M Post σ pc L (.long (lZ x) :: st) := by
  intro p e s m args below meth c H locs ls h1 h2 h3 h4 h5 h6 h7 h8 h9 h10 h11
  subst hq
  refine va_mabs_long h1 h2 (h3.trans h11.1.symm) h6 (h7 _ (List.mem_cons_of_mem _ hl)) (h7 _ (List.mem_cons_of_mem _ hs1)) (h7 _ (List.mem_cons_of_mem _ hs2)) (h7 _ (List.mem_cons_of_mem _ hs3)) hdd (by show _ ≤ 64 * d; omega) (Nat.le_refl _) (Nat.le_refl _) hd ?_
  have e1 : (if 0 < lZ x then lZ x else -lZ x) = lZ (max x (-x)) := by
    have q : (0 < lZ x) ↔ 0 < x := lZ_lt (a := 0) ⟨by decide, by decide⟩ hx
    by_cases h : 0 < x
    · rw [if_pos (q.mpr h)]; congr 1; omega
    · rw [if_neg (fun w => h (q.mp w)), lZ_neg]; congr 1; omega
  rw [e1]
  exact k p e s m args below meth c H locs ls h1 h2 h3 h4 h5 h6 h7 h8 h9 h10 h11
/-- a run of places of one row of ints comes into another -/
theorem e_copyI {k0 k1 n0 n1 idx : Nat} {n : Int} (hd : decode M.2.1 pc = .ok (.invokestatic idx, 3)) (hq : pc + 3 = q) (hl : Cond.methodLink M.1.cls idx arraycopyName ∈ lw_good) (hs0 : Cond.native arraycopyName ∈ lw_good) (hs1 : Cond.static arraycopyName ∈ lw_good) (hs2 : Cond.initialized "java/lang/System" ∈ lw_good) (hk0 : lay[k0]? = some (.inl (0, n0))) (hk1 : lay[k1]? = some (.inl (0, n1))) (hr : (st.map fun v => v.category).sum ≤ 8) (hdd : 1 ≤ d) (k : J G d M Post (cpI σ k0 k1 n) q L st) (hn : 0 ≤ n := by omega) (ha : n ≤ n0 := by omega) (hb : n ≤ n1 := by omega) (hc : n ≤ 2147483647 := by omega) : J G d M Post σ pc L (.int (iZ n) :: .int (iZ 0) :: .ref (G.2.2.2 + k1) :: .int (iZ 0) :: .ref (G.2.2.2 + k0) :: st) := by
  intro p e s m args below meth c H locs ls h1 h2 h3 h4 h5 h6 h7 h8 h9 h10 h11
  subst hq
  have e1 : (iZ n).toNatClampNeg = n.toNat := iZ_ix hn hc
  have e0 : (iZ 0).toNatClampNeg = 0 := rfl
  have hw : nativeFrameWords "java/lang/System" "arraycopy" 5 + 11 ≤ 56 := by decide +kernel
  refine va_copyi (f := fun i : Nat => iZ (σ.1 k0 (i : Int))) (g := fun i : Nat => iZ (σ.1 k1 (i : Int))) (ty := .int) h1 h2 (h3.trans h11.1.symm) h6 (h7 _ (List.mem_cons_of_mem _ hl)) (h7 _ (List.mem_cons_of_mem _ hs0)) (h7 _ (List.mem_cons_of_mem _ hs1)) (h7 _ (List.mem_cons_of_mem _ hs2)) h8.1 h9 (gD G σ) h10 k0 k1 0 0 (g_get hk0) (g_get hk1) rfl rfl rfl (by decide) (by decide) (by rw [← iZ_0, iZ_lt ⟨by omega, by omega⟩ R32_0]; omega) (by rw [e0, e1]; omega) (by rw [e0, e1]; omega) (fun i _ => rfl) hdd (by show _ ≤ 64 * d; omega) hd (fun H1 locs1 hP1 hD1 hS1 => ?_)
  rw [e0, e1, show gW G σ = wsOf G.2.2.1 G.2.2.2 σ from rfl, st_cp hk1 hn] at hP1
  exact k p e s m args below meth c H1 locs1 ls h1 h2 h3 h4 h5 h6 h7 h8 hP1 hS1 h11
theorem e_iret {z : Int} (hd : decode M.2.1 pc = .ok (.ireturn, 1)) (hM : M.2.2.2 = some .int) (hp : Post (some (.int (iZ z))) σ) : J G d M Post σ pc L [.int (iZ z)] := by
  intro p e s m args below meth c H locs ls h1 h2 h3 h4 h5 h6 h7 h8 h9 h10 h11
  refine W.iret h1 h2 (h4.trans hM) (fun t ht hW => ⟨⟨some (.int (iZ z)), σ, rfl, hp, by rw [ht]; exact h9⟩, h10.F ht⟩) h10.2.2 hd h5
theorem e_zret {z : Int} (hd : decode M.2.1 pc = .ok (.ireturn, 1)) (hM : M.2.2.2 = some .boolean) (hb : z = 0 ∨ z = 1) (hp : Post (some (.int (iZ z))) σ) : J G d M Post σ pc L [.int (iZ z)] := by
  intro p e s m args below meth c H locs ls h1 h2 h3 h4 h5 h6 h7 h8 h9 h10 h11
  refine W.zret h1 h2 (h4.trans hM) (by rcases hb with rfl | rfl <;> rfl) (fun t ht hW => ⟨⟨some (.int (iZ z)), σ, rfl, hp, by rw [ht]; exact h9⟩, h10.F ht⟩) h10.2.2 hd h5
theorem e_lret {z : Int} (hd : decode M.2.1 pc = .ok (.lreturn, 1)) (hM : M.2.2.2 = some .long) (hp : Post (some (.long (lZ z))) σ) : J G d M Post σ pc L [.long (lZ z)] := by
  intro p e s m args below meth c H locs ls h1 h2 h3 h4 h5 h6 h7 h8 h9 h10 h11
  refine W.lret h1 h2 (h4.trans hM) (fun t ht hW => ⟨⟨some (.long (lZ z)), σ, rfl, hp, by rw [ht]; exact h9⟩, h10.F ht⟩) h10.2.2 hd h5
theorem e_vret (hd : decode M.2.1 pc = .ok (.return_, 1)) (hM : M.2.2.2 = none) (hp : Post none σ) : J G d M Post σ pc L [] := by
  intro p e s m args below meth c H locs ls h1 h2 h3 h4 h5 h6 h7 h8 h9 h10 h11
  refine W.vret h1 h2 (h4.trans hM) (fun t ht hW => ⟨⟨none, σ, rfl, hp, by rw [ht]; exact h9⟩, h10.F ht⟩) h10.2.2 hd h5
theorem e_entry {n : Nat} {vs : List Value} (ok : OkM M n) (hlen : (lg_sl vs).length ≤ M.2.2.1) (hL : (lg_sl vs ++ List.replicate (M.2.2.1 - (lg_sl vs).length) Slot.unset).map sv = L) (k : J G d M Post σ 0 L []) : Con G d M vs σ Post := by
  refine Met.ofW (cc := M.2.1) (maxL := M.2.2.1) (ret := M.2.2.2) ok.2.2.2.2.2.2 rfl ?_
  intro p e s m args below meth c s₁ B hml hv
  obtain ⟨rfl, hP, hK⟩ := hv
  have hts := atoms_spec (ws := .code M.1 M.2.1 M.2.2.1 M.2.2.2 :: lw_good) B.pre
  have hown : s.vm.findClass M.1.cls = some m.cls := findClass_of_methodNamed B.named
  rw [lg_entry_eq]
  exact k p e s m _ below meth c s.heap [] _ B.exec B.bytes hml B.returns B.notSynchronized hown hts hK hP va_S.rf (hasL_entry vs hlen hL)
/-- a contract is called -/
theorem e_callV {M' : Mt} {n idx d' ci b : Nat} {fl : List Nat} {vs rest : List Value} {Po : Option Value → Sg → Prop} (ok : OkV M' n) (hl : Cond.methodLink M.1.cls idx M'.1 ∈ lw_good) (hd : decode M.2.1 pc = .ok (.invokevirtual idx, 3)) (hq : pc + 3 = q) (hC : ∃ (T : u_T) (N : Nat), vwCl[ci]? = some (M'.1.cls, T, N)) (hk : lay[b]? = some (.inr (ci, fl))) (hn : vs.length = n) (hst : st = vs.reverse ++ .ref (G.2.2.2 + b) :: rest) (hr : (rest.map fun v => v.category).sum ≤ 8) (hdd : d' + 1 ≤ d)
    (con : Con G d' M' (.ref (G.2.2.2 + b) :: vs) σ Po) (k : ∀ (r : Option Value) (σ' : Sg), Po r σ' → J G d M Post σ' q L (r.toList ++ rest)) : J G d M Post σ pc L st := by
  intro p e s m args below meth c H locs ls h1 h2 h3 h4 h5 h6 h7 h8 h9 h10 h11
  subst hq
  obtain ⟨⟨hini, hcode, hy1, hy2, har, hmx, -⟩, hinst, hsel⟩ := ok
  obtain ⟨T, N, hc⟩ := hC
  have cb : CallB (gR d) s args M.1.cls idx M'.1 M'.2.1 M'.2.2.1 M'.2.2.2 (.code M'.1 M'.2.1 M'.2.2.1 M'.2.2.2 :: lw_good) (gR d') 0 0 n :=
    callB_of n h7 (gi_in hcode) rfl rfl rfl (h7 _ (List.mem_cons_of_mem _ hini)) (h7 _ (List.mem_cons_of_mem _ hl)) ⟨hy1, hy2, har⟩ ⟨by show d' + 1 ≤ d; exact hdd, by show 8 + (M'.2.2.1 + 11) + 64 * d' ≤ 64 * d; omega⟩
  have hrun := va_runV (As := vs) (rest := rest) (b := G.2.2.2 + b) (C := M'.1.cls) (e := e) (below := below) (meth := meth) (locs := locs) (cells := 0) (slots := 0) (g := F0 m pc ls st) (H := H) ⟨h1, h2, h3, h6, h7⟩ con ⟨cb, h7 _ (List.mem_cons_of_mem _ hinst), h7 _ (List.mem_cons_of_mem _ hsel)⟩
    ⟨fun a U g mk qq => by obtain ⟨q0, qP, qK⟩ := qq; exact ⟨q0, qP, gK.same (u := U) (U := U.calling g mk a) rfl rfl qK⟩, va_recv h8.1 h9 hc (g_get hk), fun U hU hW => ⟨rfl, by show gP G σ U.heap; rw [hU]; exact h9, gK.call h8 h10 hU hW⟩⟩ rfl hn h11.1 hst (lv_room hr) hd ⟨Nat.le_refl _, Nat.le_refl _⟩
  intro X hX S
  obtain ⟨v, st₀, t, T', Ls, e0, S', hL, e1, e2, ⟨⟨r, σ', hv, hpo, hP'⟩, hz, hkp⟩, go⟩ := hrun X hX S
  cases hv
  rw [e0] at hz hkp
  obtain ⟨t2, a1, b1⟩ := k v σ' hpo p e s m args below meth c T'.heap (locs ++ Ls) ls h1 h2 h3 h4 h5 h6 h7 h8 (by rw [e1]; exact hP')
    ⟨Nat.le_trans h10.1 (by rw [e1]; exact hz), fun a g1 g2 => by rw [e1, hkp a (Nat.lt_of_lt_of_le g1 h10.1) g2]; exact h10.2.1 a g1 g2, fun a ha => by
      rcases List.mem_append.mp ha with h | h
      · exact h10.2.2 a h
      · exact hL a h⟩ h11 T' rfl S'
  exact ⟨t2, go t2 a1, b1⟩
theorem e_callS {M' : Mt} {n idx d' : Nat} {vs rest : List Value} {Po : Option Value → Sg → Prop} (ok : OkS M' n) (hl : Cond.methodLink M.1.cls idx M'.1 ∈ lw_good) (hd : decode M.2.1 pc = .ok (.invokestatic idx, 3)) (hq : pc + 3 = q) (hn : vs.length = n) (hst : st = vs.reverse ++ rest) (hr : (rest.map fun v => v.category).sum ≤ 8) (hdd : d' + 1 ≤ d)
    (con : Con G d' M' vs σ Po) (k : ∀ (r : Option Value) (σ' : Sg), Po r σ' → J G d M Post σ' q L (r.toList ++ rest)) : J G d M Post σ pc L st := by
  intro p e s m args below meth c H locs ls h1 h2 h3 h4 h5 h6 h7 h8 h9 h10 h11
  subst hq
  obtain ⟨⟨hini, hcode, hy1, hy2, har, hmx, -⟩, hstat⟩ := ok
  have cb : CallB (gR d) s args M.1.cls idx M'.1 M'.2.1 M'.2.2.1 M'.2.2.2 (.code M'.1 M'.2.1 M'.2.2.1 M'.2.2.2 :: lw_good) (gR d') 0 0 n :=
    callB_of n h7 (gi_in hcode) rfl rfl rfl (h7 _ (List.mem_cons_of_mem _ hini)) (h7 _ (List.mem_cons_of_mem _ hl)) ⟨hy1, hy2, har⟩ ⟨by show d' + 1 ≤ d; exact hdd, by show 8 + (M'.2.2.1 + 11) + 64 * d' ≤ 64 * d; omega⟩
  have hrun := va_runS (As := vs) (rest := rest) (e := e) (below := below) (meth := meth) (locs := locs) (cells := 0) (slots := 0) (g := F0 m pc ls st) (H := H) ⟨h1, h2, h3, h6, h7⟩ con ⟨cb, h7 _ (List.mem_cons_of_mem _ hstat)⟩
    ⟨fun a U g mk qq => by obtain ⟨q0, qP, qK⟩ := qq; exact ⟨q0, qP, gK.same (u := U) (U := U.calling g mk a) rfl rfl qK⟩, fun U hU hW => ⟨rfl, by show gP G σ U.heap; rw [hU]; exact h9, gK.call h8 h10 hU hW⟩⟩ rfl hn h11.1 hst (lv_room hr) hd ⟨Nat.le_refl _, Nat.le_refl _⟩
  intro X hX S
  obtain ⟨v, st₀, t, T', Ls, e0, S', hL, e1, e2, ⟨⟨r, σ', hv, hpo, hP'⟩, hz, hkp⟩, go⟩ := hrun X hX S
  cases hv
  rw [e0] at hz hkp
  obtain ⟨t2, a1, b1⟩ := k v σ' hpo p e s m args below meth c T'.heap (locs ++ Ls) ls h1 h2 h3 h4 h5 h6 h7 h8 (by rw [e1]; exact hP')
    ⟨Nat.le_trans h10.1 (by rw [e1]; exact hz), fun a g1 g2 => by rw [e1, hkp a (Nat.lt_of_lt_of_le g1 h10.1) g2]; exact h10.2.1 a g1 g2, fun a ha => by
      rcases List.mem_append.mp ha with h | h
      · exact h10.2.2 a h
      · exact hL a h⟩ h11 T' rfl S'
  exact ⟨t2, go t2 a1, b1⟩
/-- contracts by what they answer -/
def pI (P : Int → Sg → Prop) : Option Value → Sg → Prop := fun r σ' => ∃ z, r = some (.int (iZ z)) ∧ P z σ'
def pL (P : Int → Sg → Prop) : Option Value → Sg → Prop := fun r σ' => ∃ z, r = some (.long (lZ z)) ∧ P z σ'
def pV (P : Sg → Prop) : Option Value → Sg → Prop := fun r σ' => r = none ∧ P σ'
def pE (σ : Sg) (z : Int) : Int → Sg → Prop := fun z' σ' => z' = z ∧ σ' = σ
theorem r_i {z : Int} {P : Int → Sg → Prop} (hd : decode M.2.1 pc = .ok (.ireturn, 1)) (hM : M.2.2.2 = some .int) (hp : P z σ) : J G d M (pI P) σ pc L [.int (iZ z)] := e_iret hd hM ⟨z, rfl, hp⟩
theorem r_z {z : Int} {P : Int → Sg → Prop} (hd : decode M.2.1 pc = .ok (.ireturn, 1)) (hM : M.2.2.2 = some .boolean) (hb : z = 0 ∨ z = 1) (hp : P z σ) : J G d M (pI P) σ pc L [.int (iZ z)] := e_zret hd hM hb ⟨z, rfl, hp⟩
theorem r_l {z : Int} {P : Int → Sg → Prop} (hd : decode M.2.1 pc = .ok (.lreturn, 1)) (hM : M.2.2.2 = some .long) (hp : P z σ) : J G d M (pL P) σ pc L [.long (lZ z)] := e_lret hd hM ⟨z, rfl, hp⟩
theorem r_v {P : Sg → Prop} (hd : decode M.2.1 pc = .ok (.return_, 1)) (hM : M.2.2.2 = none) (hp : P σ) : J G d M (pV P) σ pc L [] := e_vret hd hM ⟨rfl, hp⟩
theorem e_Vi {M' : Mt} {n idx d' ci b : Nat} {fl : List Nat} {vs rest : List Value} {P : Int → Sg → Prop} (ok : OkV M' n) (hl : Cond.methodLink M.1.cls idx M'.1 ∈ lw_good) (hd : decode M.2.1 pc = .ok (.invokevirtual idx, 3)) (hq : pc + 3 = q) (hC : ∃ (T : u_T) (N : Nat), vwCl[ci]? = some (M'.1.cls, T, N)) (hk : lay[b]? = some (.inr (ci, fl))) (hn : vs.length = n) (hst : st = vs.reverse ++ .ref (G.2.2.2 + b) :: rest) (hr : (rest.map fun v => v.category).sum ≤ 8) (hdd : d' + 1 ≤ d) (con : Con G d' M' (.ref (G.2.2.2 + b) :: vs) σ (pI P)) (k : ∀ (z : Int) (σ' : Sg), P z σ' → J G d M Post σ' q L (.int (iZ z) :: rest)) : J G d M Post σ pc L st := e_callV ok hl hd hq hC hk hn hst hr hdd con (fun r σ' h => by obtain ⟨z, rfl, hp⟩ := h; exact k z σ' hp)
theorem e_Vip {M' : Mt} {n idx d' ci b : Nat} {fl : List Nat} {vs rest : List Value} {z : Int} (ok : OkV M' n) (hl : Cond.methodLink M.1.cls idx M'.1 ∈ lw_good) (hd : decode M.2.1 pc = .ok (.invokevirtual idx, 3)) (hq : pc + 3 = q) (hC : ∃ (T : u_T) (N : Nat), vwCl[ci]? = some (M'.1.cls, T, N)) (hk : lay[b]? = some (.inr (ci, fl))) (hn : vs.length = n) (hst : st = vs.reverse ++ .ref (G.2.2.2 + b) :: rest) (hr : (rest.map fun v => v.category).sum ≤ 8) (hdd : d' + 1 ≤ d) (con : Con G d' M' (.ref (G.2.2.2 + b) :: vs) σ (pI (pE σ z))) (k : J G d M Post σ q L (.int (iZ z) :: rest)) : J G d M Post σ pc L st := e_callV ok hl hd hq hC hk hn hst hr hdd con (fun r σ' h => by obtain ⟨z', rfl, rfl, rfl⟩ := h; exact k)
theorem e_Vl {M' : Mt} {n idx d' ci b : Nat} {fl : List Nat} {vs rest : List Value} {P : Int → Sg → Prop} (ok : OkV M' n) (hl : Cond.methodLink M.1.cls idx M'.1 ∈ lw_good) (hd : decode M.2.1 pc = .ok (.invokevirtual idx, 3)) (hq : pc + 3 = q) (hC : ∃ (T : u_T) (N : Nat), vwCl[ci]? = some (M'.1.cls, T, N)) (hk : lay[b]? = some (.inr (ci, fl))) (hn : vs.length = n) (hst : st = vs.reverse ++ .ref (G.2.2.2 + b) :: rest) (hr : (rest.map fun v => v.category).sum ≤ 8) (hdd : d' + 1 ≤ d) (con : Con G d' M' (.ref (G.2.2.2 + b) :: vs) σ (pL P)) (k : ∀ (z : Int) (σ' : Sg), P z σ' → J G d M Post σ' q L (.long (lZ z) :: rest)) : J G d M Post σ pc L st := e_callV ok hl hd hq hC hk hn hst hr hdd con (fun r σ' h => by obtain ⟨z, rfl, hp⟩ := h; exact k z σ' hp)
theorem e_Vlp {M' : Mt} {n idx d' ci b : Nat} {fl : List Nat} {vs rest : List Value} {z : Int} (ok : OkV M' n) (hl : Cond.methodLink M.1.cls idx M'.1 ∈ lw_good) (hd : decode M.2.1 pc = .ok (.invokevirtual idx, 3)) (hq : pc + 3 = q) (hC : ∃ (T : u_T) (N : Nat), vwCl[ci]? = some (M'.1.cls, T, N)) (hk : lay[b]? = some (.inr (ci, fl))) (hn : vs.length = n) (hst : st = vs.reverse ++ .ref (G.2.2.2 + b) :: rest) (hr : (rest.map fun v => v.category).sum ≤ 8) (hdd : d' + 1 ≤ d) (con : Con G d' M' (.ref (G.2.2.2 + b) :: vs) σ (pL (pE σ z))) (k : J G d M Post σ q L (.long (lZ z) :: rest)) : J G d M Post σ pc L st := e_callV ok hl hd hq hC hk hn hst hr hdd con (fun r σ' h => by obtain ⟨z', rfl, rfl, rfl⟩ := h; exact k)
theorem e_Vv {M' : Mt} {n idx d' ci b : Nat} {fl : List Nat} {vs rest : List Value} {P : Sg → Prop} (ok : OkV M' n) (hl : Cond.methodLink M.1.cls idx M'.1 ∈ lw_good) (hd : decode M.2.1 pc = .ok (.invokevirtual idx, 3)) (hq : pc + 3 = q) (hC : ∃ (T : u_T) (N : Nat), vwCl[ci]? = some (M'.1.cls, T, N)) (hk : lay[b]? = some (.inr (ci, fl))) (hn : vs.length = n) (hst : st = vs.reverse ++ .ref (G.2.2.2 + b) :: rest) (hr : (rest.map fun v => v.category).sum ≤ 8) (hdd : d' + 1 ≤ d) (con : Con G d' M' (.ref (G.2.2.2 + b) :: vs) σ (pV P)) (k : ∀ (σ' : Sg), P σ' → J G d M Post σ' q L rest) : J G d M Post σ pc L st := e_callV ok hl hd hq hC hk hn hst hr hdd con (fun r σ' h => by obtain ⟨rfl, hp⟩ := h; exact k σ' hp)
theorem e_Si {M' : Mt} {n idx d' : Nat} {vs rest : List Value} {P : Int → Sg → Prop} (ok : OkS M' n) (hl : Cond.methodLink M.1.cls idx M'.1 ∈ lw_good) (hd : decode M.2.1 pc = .ok (.invokestatic idx, 3)) (hq : pc + 3 = q) (hn : vs.length = n) (hst : st = vs.reverse ++ rest) (hr : (rest.map fun v => v.category).sum ≤ 8) (hdd : d' + 1 ≤ d) (con : Con G d' M' vs σ (pI P)) (k : ∀ (z : Int) (σ' : Sg), P z σ' → J G d M Post σ' q L (.int (iZ z) :: rest)) : J G d M Post σ pc L st := e_callS ok hl hd hq hn hst hr hdd con (fun r σ' h => by obtain ⟨z, rfl, hp⟩ := h; exact k z σ' hp)
theorem e_Sip {M' : Mt} {n idx d' : Nat} {vs rest : List Value} {z : Int} (ok : OkS M' n) (hl : Cond.methodLink M.1.cls idx M'.1 ∈ lw_good) (hd : decode M.2.1 pc = .ok (.invokestatic idx, 3)) (hq : pc + 3 = q) (hn : vs.length = n) (hst : st = vs.reverse ++ rest) (hr : (rest.map fun v => v.category).sum ≤ 8) (hdd : d' + 1 ≤ d) (con : Con G d' M' vs σ (pI (pE σ z))) (k : J G d M Post σ q L (.int (iZ z) :: rest)) : J G d M Post σ pc L st := e_callS ok hl hd hq hn hst hr hdd con (fun r σ' h => by obtain ⟨z', rfl, rfl, rfl⟩ := h; exact k)
theorem e_Sl {M' : Mt} {n idx d' : Nat} {vs rest : List Value} {P : Int → Sg → Prop} (ok : OkS M' n) (hl : Cond.methodLink M.1.cls idx M'.1 ∈ lw_good) (hd : decode M.2.1 pc = .ok (.invokestatic idx, 3)) (hq : pc + 3 = q) (hn : vs.length = n) (hst : st = vs.reverse ++ rest) (hr : (rest.map fun v => v.category).sum ≤ 8) (hdd : d' + 1 ≤ d) (con : Con G d' M' vs σ (pL P)) (k : ∀ (z : Int) (σ' : Sg), P z σ' → J G d M Post σ' q L (.long (lZ z) :: rest)) : J G d M Post σ pc L st := e_callS ok hl hd hq hn hst hr hdd con (fun r σ' h => by obtain ⟨z, rfl, hp⟩ := h; exact k z σ' hp)
theorem e_Slp {M' : Mt} {n idx d' : Nat} {vs rest : List Value} {z : Int} (ok : OkS M' n) (hl : Cond.methodLink M.1.cls idx M'.1 ∈ lw_good) (hd : decode M.2.1 pc = .ok (.invokestatic idx, 3)) (hq : pc + 3 = q) (hn : vs.length = n) (hst : st = vs.reverse ++ rest) (hr : (rest.map fun v => v.category).sum ≤ 8) (hdd : d' + 1 ≤ d) (con : Con G d' M' vs σ (pL (pE σ z))) (k : J G d M Post σ q L (.long (lZ z) :: rest)) : J G d M Post σ pc L st := e_callS ok hl hd hq hn hst hr hdd con (fun r σ' h => by obtain ⟨z', rfl, rfl, rfl⟩ := h; exact k)
theorem e_Sv {M' : Mt} {n idx d' : Nat} {vs rest : List Value} {P : Sg → Prop} (ok : OkS M' n) (hl : Cond.methodLink M.1.cls idx M'.1 ∈ lw_good) (hd : decode M.2.1 pc = .ok (.invokestatic idx, 3)) (hq : pc + 3 = q) (hn : vs.length = n) (hst : st = vs.reverse ++ rest) (hr : (rest.map fun v => v.category).sum ≤ 8) (hdd : d' + 1 ≤ d) (con : Con G d' M' vs σ (pV P)) (k : ∀ (σ' : Sg), P σ' → J G d M Post σ' q L rest) : J G d M Post σ pc L st := e_callS ok hl hd hq hn hst hr hdd con (fun r σ' h => by obtain ⟨rfl, hp⟩ := h; exact k σ' hp)
end JR
