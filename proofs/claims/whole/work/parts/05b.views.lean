/-! ===== frames, views ===== -/
def msk (n : Int) (f : Int → Int) : Int → Int := fun i => if 0 ≤ i ∧ i < n then f i else 0
theorem msk_in {n : Int} {f : Int → Int} {i : Int} (h0 : 0 ≤ i) (h1 : i < n) : msk n f i = f i := if_pos ⟨h0, h1⟩
theorem msk_ext {n : Int} {f g : Int → Int} (h : ∀ i, 0 ≤ i → i < n → f i = g i) : msk n f = msk n g := by
  funext i
  unfold msk
  split
  · rename_i q
    exact h i q.1 q.2
  · rfl
theorem msk_eq {n : Int} {f g : Int → Int} (h : msk n f = msk n g) {i : Int} (h0 : 0 ≤ i) (h1 : i < n) : f i = g i := by
  have := congrFun h i
  rwa [msk_in h0 h1, msk_in h0 h1] at this
/-- nothing but these cells has changed -/
def Fr (C : List Nat) (σ σ' : Sg) : Prop := ∀ a, a ∉ C → σ'.1 a = σ.1 a ∧ σ'.2 a = σ.2 a
theorem Fr.rf (C : List Nat) (σ : Sg) : Fr C σ σ := fun _ _ => ⟨rfl, rfl⟩
theorem Fr.sI {C : List Nat} {σ σ' : Sg} (h : Fr C σ σ') {k : Nat} (hk : k ∈ C) (j v : Int) : Fr C σ (sI σ' k j v) := fun a ha => by
  have e : a ≠ k := fun q => ha (by rw [q]; exact hk)
  exact ⟨by rw [← (h a ha).1]; funext i; rw [sI_1, if_neg (fun q => e q.1)], (h a ha).2⟩
theorem Fr.sJ {C : List Nat} {σ σ' : Sg} (h : Fr C σ σ') {k : Nat} (hk : k ∈ C) (j v : Int) : Fr C σ (sJ σ' k j v) := fun a ha => by
  have e : a ≠ k := fun q => ha (by rw [q]; exact hk)
  exact ⟨(h a ha).1, by rw [← (h a ha).2]; funext i; rw [sJ_2, if_neg (fun q => e q.1)]⟩
theorem Fr.cpI {C : List Nat} {σ σ' : Sg} (h : Fr C σ σ') {k : Nat} (hk : k ∈ C) (k0 : Nat) (n : Int) : Fr C σ (cpI σ' k0 k n) := fun a ha => by
  have e : a ≠ k := fun q => ha (by rw [q]; exact hk)
  exact ⟨by rw [← (h a ha).1]; funext i; exact if_neg (fun q => e q.1), (h a ha).2⟩
def flI (σ : Sg) (k : Nat) (n v : Int) : Sg := (fun a i => if a = k ∧ 0 ≤ i ∧ i < n then v else σ.1 a i, σ.2)
theorem flI_1 (σ : Sg) (k : Nat) (n v : Int) (a : Nat) (i : Int) : (flI σ k n v).1 a i = if a = k ∧ 0 ≤ i ∧ i < n then v else σ.1 a i := rfl
theorem flI_2 (σ : Sg) (k : Nat) (n v : Int) : (flI σ k n v).2 = σ.2 := rfl
theorem cpI_1 (σ : Sg) (k0 k1 : Nat) (n : Int) (a : Nat) (i : Int) : (cpI σ k0 k1 n).1 a i = if a = k1 ∧ 0 ≤ i ∧ i < n then σ.1 k0 i else σ.1 a i := rfl
theorem cpI_2 (σ : Sg) (k0 k1 : Nat) (n : Int) : (cpI σ k0 k1 n).2 = σ.2 := rfl
theorem flI_0 (σ : Sg) (k : Nat) (v : Int) : flI σ k 0 v = σ := by
  unfold flI
  apply Prod.ext
  · funext a i
    exact if_neg (by omega)
  · rfl
theorem flI_succ (σ : Sg) (k : Nat) {n : Int} (h : 0 ≤ n) (v : Int) : sI (flI σ k n v) k n v = flI σ k (n + 1) v := by
  apply Prod.ext
  · funext a i
    rw [sI_1, flI_1, flI_1]
    by_cases e : a = k
    · by_cases q : i = n
      · rw [if_pos ⟨e, q⟩, if_pos ⟨e, by omega, by omega⟩]
      · rw [if_neg (fun w => q w.2)]
        by_cases r : 0 ≤ i ∧ i < n
        · rw [if_pos ⟨e, r⟩, if_pos ⟨e, r.1, by omega⟩]
        · rw [if_neg (fun w => r w.2), if_neg (fun w => r ⟨w.2.1, by omega⟩)]
    · rw [if_neg (fun w => e w.1), if_neg (fun w => e w.1), if_neg (fun w => e w.1)]
  · rfl
theorem Fr.flI {C : List Nat} {σ σ' : Sg} (h : Fr C σ σ') {k : Nat} (hk : k ∈ C) (n v : Int) : Fr C σ (flI σ' k n v) := fun a ha => by
  have e : a ≠ k := fun q => ha (by rw [q]; exact hk)
  exact ⟨by rw [← (h a ha).1]; funext i; exact if_neg (fun q => e q.1), (h a ha).2⟩
theorem Fr.tr {C : List Nat} {σ σ' σ'' : Sg} (h : Fr C σ σ') (h' : Fr C σ' σ'') : Fr C σ σ'' := fun a ha => ⟨(h' a ha).1.trans (h a ha).1, (h' a ha).2.trans (h a ha).2⟩
theorem Fr.mono {C C' : List Nat} {σ σ' : Sg} (h : Fr C σ σ') (hs : ∀ a, a ∈ C → a ∈ C') : Fr C' σ σ' := fun a ha => h a (fun q => ha (hs a q))
theorem Fr.e1 {C : List Nat} {σ σ' : Sg} (h : Fr C σ σ') {a : Nat} (ha : a ∉ C) (i : Int) : σ'.1 a i = σ.1 a i := by rw [(h a ha).1]
theorem Fr.e2 {C : List Nat} {σ σ' : Sg} (h : Fr C σ σ') {a : Nat} (ha : a ∉ C) (i : Int) : σ'.2 a i = σ.2 a i := by rw [(h a ha).2]
/-- a land: far, cake, legs, tired; quarrel, year, number -/
abbrev Ld : Type := (Int → Int) × (Int → Int) × (Int → Int) × (Int → Int) × Int × Int × Int
def ldv (σ : Sg) (L : Nat) : Ld := (msk 16 (σ.1 (L + 1)), msk 16 (σ.1 (L + 2)), msk 6 (σ.1 (L + 3)), msk 6 (σ.1 (L + 4)), σ.1 L 5, σ.1 L 6, σ.2 L 7)
theorem ldv_ext {σ σ' : Sg} {L L' : Nat} (h1 : ∀ i, 0 ≤ i → i < 16 → σ'.1 (L' + 1) i = σ.1 (L + 1) i) (h2 : ∀ i, 0 ≤ i → i < 16 → σ'.1 (L' + 2) i = σ.1 (L + 2) i) (h3 : ∀ i, 0 ≤ i → i < 6 → σ'.1 (L' + 3) i = σ.1 (L + 3) i) (h4 : ∀ i, 0 ≤ i → i < 6 → σ'.1 (L' + 4) i = σ.1 (L + 4) i) (h5 : σ'.1 L' 5 = σ.1 L 5) (h6 : σ'.1 L' 6 = σ.1 L 6) (h7 : σ'.2 L' 7 = σ.2 L 7) : ldv σ' L' = ldv σ L := by
  unfold ldv
  rw [msk_ext h1, msk_ext h2, msk_ext h3, msk_ext h4, h5, h6, h7]
/-- bits of an int, as the library counts them -/
def bcF (x : Int32) : Int32 :=
  let a := x - ((x.toUInt32 >>> ((iZ 1).toUInt32 &&& Int32.toUInt32 31)).toInt32 &&& iZ 1431655765)
  let b := (a &&& iZ 858993459) + ((a.toUInt32 >>> ((iZ 2).toUInt32 &&& Int32.toUInt32 31)).toInt32 &&& iZ 858993459)
  let c := (b + (b.toUInt32 >>> ((iZ 4).toUInt32 &&& Int32.toUInt32 31)).toInt32) &&& iZ 252645135
  let e := c + (c.toUInt32 >>> ((iZ 8).toUInt32 &&& Int32.toUInt32 31)).toInt32
  let f := e + (e.toUInt32 >>> ((iZ 16).toUInt32 &&& Int32.toUInt32 31)).toInt32
  f &&& iZ 63
