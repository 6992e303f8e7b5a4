/-! ===== years: names, laws, a year's steps ===== -/
def uf (f : Int → Int) (k v : Int) : Int → Int := fun i => if i = k then v else f i
theorem sI_uf (σ : Sg) (k : Nat) (j v : Int) : (sI σ k j v).1 k = uf (σ.1 k) j v := by
  funext i
  rw [sI_1]
  unfold uf
  by_cases h : i = j
  · rw [if_pos ⟨rfl, h⟩, if_pos h]
  · rw [if_neg (fun q => h q.2), if_neg h]
theorem sI_ne (σ : Sg) {k a : Nat} (h : a ≠ k) (j v : Int) : (sI σ k j v).1 a = σ.1 a := by
  funext i
  rw [sI_1, if_neg (fun q => h q.1)]
def nmF (lg md ti sw wt fa ye : Int) : Int → Int := fun i => if i = 0 then lg else if i = 1 then md else if i = 2 then ti else if i = 3 then sw else if i = 4 then wt else if i = 5 then fa else ye
def lawV (σ : Sg) (r : Int) (nm : Int → Int) : Int := evLaw nm (σ.1 14) (σ.1 15 r) (σ.1 16 r)
def LW (σ : Sg) : Prop := ∀ r, 0 ≤ r → r < 3 → 0 ≤ σ.1 15 r ∧ σ.1 15 r ≤ σ.1 16 r ∧ σ.1 16 r ≤ 64 ∧ ∀ k, σ.1 15 r ≤ k → k < σ.1 16 r → isKnot (σ.1 14 k)
theorem LW.fr {C : List Nat} {σ σ' : Sg} (h : LW σ) (hF : Fr C σ σ') (h1 : 14 ∉ C) (h2 : 15 ∉ C) (h3 : 16 ∉ C) : LW σ' := by
  intro r r0 r1
  rw [(hF 14 h1).1, (hF 15 h2).1, (hF 16 h3).1]
  exact h r r0 r1
theorem lawV.fr {C : List Nat} {σ σ' : Sg} (hF : Fr C σ σ') (h1 : 14 ∉ C) (h2 : 15 ∉ C) (h3 : 16 ∉ C) (r : Int) (nm : Int → Int) : lawV σ' r nm = lawV σ r nm := by
  unfold lawV
  rw [(hF 14 h1).1, (hF 15 h2).1, (hF 16 h3).1]
theorem evStep_nm {nm nm' : Int → Int} (h : ∀ i, 0 ≤ i → i < 7 → nm i = nm' i) (l : List Int) (kn : Int) : evStep nm l kn = evStep nm' l kn := by
  unfold evStep
  by_cases h1 : 0 ≤ kn
  · rw [if_pos h1, if_pos h1]
  rw [if_neg h1, if_neg h1]
  by_cases h2 : 14 ≤ -kn ∧ -kn ≤ 20
  · rw [if_pos h2, if_pos h2, h _ (by omega) (by omega)]
  rw [if_neg h2, if_neg h2]
theorem evRun_nm {nm nm' : Int → Int} (h : ∀ i, 0 ≤ i → i < 7 → nm i = nm' i) (code : Int → Int) : ∀ (n : Nat) (k : Int) (l : List Int), evRun nm code n k l = evRun nm' code n k l
  | 0, _, _ => rfl
  | n + 1, k, l => by
    simp only [evRun]
    rw [evStep_nm h]
    cases evStep nm' l (code k) with
    | none => rfl
    | some l' => exact evRun_nm h code n (k + 1) l'
theorem evLaw_nm {nm nm' : Int → Int} (h : ∀ i, 0 ≤ i → i < 7 → nm i = nm' i) (code : Int → Int) (s e : Int) : evLaw nm code s e = evLaw nm' code s e := by
  unfold evLaw
  rw [evRun_nm h]
theorem evRun_lim {nm code : Int → Int} (hn : ∀ i, 0 ≤ i → i < 7 → -1000000000000 ≤ nm i ∧ nm i ≤ 1000000000000) : ∀ (n : Nat) (k : Int) (l l' : List Int), (∀ j, k ≤ j → j < k + n → isKnot (code j)) → allLim l → evRun nm code n k l = some l' → allLim l'
  | 0, _, l, l', _, hl, h => by cases h; exact hl
  | n + 1, k, l, l', hk, hl, h => by
    simp only [evRun] at h
    cases hs : evStep nm l (code k) with
    | none => rw [hs] at h; cases h
    | some l2 =>
      rw [hs] at h
      refine evRun_lim hn n (k + 1) l2 l' (fun j h0 h1 => hk j (by omega) (by omega)) ?_ h
      have hkn := hk k (by omega) (by omega)
      unfold isKnot isOp at hkn
      unfold evStep at hs
      by_cases h1 : 0 ≤ code k
      · rw [if_pos h1] at hs
        cases hs
        intro v hv
        rcases List.mem_cons.mp hv with rfl | hv
        · omega
        · exact hl v hv
      rw [if_neg h1] at hs
      by_cases h2 : 14 ≤ -code k ∧ -code k ≤ 20
      · rw [if_pos h2] at hs
        cases hs
        intro v hv
        rcases List.mem_cons.mp hv with rfl | hv
        · exact hn _ (by omega) (by omega)
        · exact hl v hv
      rw [if_neg h2] at hs
      by_cases h3 : -code k = 13
      · rw [if_pos h3] at hs
        match l, hl, hs with
        | [], _, hs => cases hs
        | x :: r, hl, hs =>
          cases hs
          intro v hv
          rcases List.mem_cons.mp hv with rfl | hv
          · split <;> omega
          · exact hl v (List.mem_cons_of_mem _ hv)
      rw [if_neg h3] at hs
      match l, hl, hs with
      | [], _, hs => cases hs
      | [_], _, hs => cases hs
      | y :: x :: r, hl, hs =>
        have hs : (if 1000000000000 < jn (-code k) x y ∨ jn (-code k) x y < -1000000000000 then none else some (jn (-code k) x y :: r)) = some l2 := hs
        by_cases h4 : 1000000000000 < jn (-code k) x y ∨ jn (-code k) x y < -1000000000000
        · rw [if_pos h4] at hs; cases hs
        rw [if_neg h4] at hs
        cases hs
        intro v hv
        rcases List.mem_cons.mp hv with rfl | hv
        · omega
        · exact hl v (List.mem_cons_of_mem _ (List.mem_cons_of_mem _ hv))
theorem evLaw_lim {nm code : Int → Int} {s e : Int} (hn : ∀ i, 0 ≤ i → i < 7 → -1000000000000 ≤ nm i ∧ nm i ≤ 1000000000000) (hk : ∀ j, s ≤ j → j < e → isKnot (code j)) : evLaw nm code s e = -9223372036854775808 ∨ (-1000000000000 ≤ evLaw nm code s e ∧ evLaw nm code s e ≤ 1000000000000) := by
  unfold evLaw
  cases h : evRun nm code (e - s).toNat s [] with
  | none => exact Or.inl rfl
  | some l =>
    have hl := evRun_lim hn _ _ _ _ (fun j h0 h1 => hk j h0 (by omega)) (fun v hv => by cases hv) h
    match l, hl with
    | [], _ => exact Or.inl rfl
    | [v], hl => exact Or.inr (hl v List.mem_cons_self)
    | _ :: _ :: _, _ => exact Or.inl rfl
theorem nmF_lim {a b c d e f g : Int} (h : (-1000000000000 ≤ a ∧ a ≤ 1000000000000) ∧ (-1000000000000 ≤ b ∧ b ≤ 1000000000000) ∧ (-1000000000000 ≤ c ∧ c ≤ 1000000000000) ∧ (-1000000000000 ≤ d ∧ d ≤ 1000000000000) ∧ (-1000000000000 ≤ e ∧ e ≤ 1000000000000) ∧ (-1000000000000 ≤ f ∧ f ≤ 1000000000000) ∧ (-1000000000000 ≤ g ∧ g ≤ 1000000000000)) : ∀ i, 0 ≤ i → i < 7 → -1000000000000 ≤ nmF a b c d e f g i ∧ nmF a b c d e f g i ≤ 1000000000000 := by
  intro i _ _
  unfold nmF
  split
  · exact h.1
  split
  · exact h.2.1
  split
  · exact h.2.2.1
  split
  · exact h.2.2.2.1
  split
  · exact h.2.2.2.2.1
  split
  · exact h.2.2.2.2.2.1
  · exact h.2.2.2.2.2.2
def gWi (v lo hi : Int) : Int := max lo (min hi v)
def gStone (law str ed wet : Int) : Int := min (if law = -9223372036854775808 then (if wet = 0 then max str 0 else max str 0 / 2) else gWi law 0 99) ed
def edS (σ : Sg) (s : Int) : Int := gEdge (σ.1 3) (σ.1 4) (σ.1 2 0) (s / 4) (s % 4)
def TB (σ : Sg) : Prop := ∀ i, 0 ≤ i → i < σ.1 2 4 → σ.1 9 i < 4 * σ.1 2 2 ∧ σ.1 10 i < σ.1 2 3
theorem edS_in {σ : Sg} (hT : TI σ) {s : Int} (h0 : 0 ≤ s) (h1 : s < 4 * σ.1 2 2) : 0 ≤ edS σ s ∧ edS σ s ≤ 39 := by
  obtain ⟨hz, -, hn, -, -, -, -, -, hr, hq, -⟩ := hT
  have a := hr (s / 4) (by omega) (by omega)
  have b := hq (s / 4) (by omega) (by omega)
  unfold edS gEdge
  split
  · omega
  split
  · omega
  split <;> omega
theorem gStone_in {law str ed wet : Int} (h : 0 ≤ ed ∧ ed ≤ 39) : 0 ≤ gStone law str ed wet ∧ gStone law str ed wet ≤ 39 := by
  unfold gStone gWi
  split
  · split <;> omega
  · omega
/-- far, legs, tired, quarrel, year -/
abbrev Yd : Type := (Int → Int) × (Int → Int) × (Int → Int) × Int × Int
def ydv (σ : Sg) (L : Nat) : Yd := (σ.1 (L + 1), σ.1 (L + 3), σ.1 (L + 4), σ.1 L 5, σ.1 L 6)
def yLead (lv : Int → (Int → Int) → Int) (mo ck ed : Int → Int) (tl wet c s : Int) (y : Yd) : Yd :=
  (uf y.1 s (gStone (lv 0 (nmF (y.2.1 c) (mo c) (y.2.2.1 c) (ck s) wet (y.1 s) y.2.2.2.2)) (y.2.1 c + ck s - y.2.2.1 c) (ed s) wet), y.2.1, (if tl = 0 then uf y.2.2.1 c (min (y.2.2.1 c + 1) 99) else y.2.2.1), y.2.2.2.1, y.2.2.2.2)
def yBeats (lv : Int → (Int → Int) → Int) (mo ck ed bs bc by_ : Int → Int) (un tl wet : Int) : Nat → Yd → Yd
  | 0, y => y
  | k + 1, y => if by_ k = (yBeats lv mo ck ed bs bc by_ un tl wet k y).2.2.2.2 ∧ bc k ≠ un then yLead lv mo ck ed tl wet (bc k) (bs k) (yBeats lv mo ck ed bs bc by_ un tl wet k y) else yBeats lv mo ck ed bs bc by_ un tl wet k y
def qAdd (lv : Int → (Int → Int) → Int) (ov : Int → Int → Int) (wet ye p q u : Int) : Int :=
  if 0 < ov p q then min (u + (if lv 1 (nmF 0 0 0 0 wet (ov p q) ye) = -9223372036854775808 then ov p q else gWi (lv 1 (nmF 0 0 0 0 wet (ov p q) ye)) 0 999)) 99999 else u
def qIn (lv : Int → (Int → Int) → Int) (ov : Int → Int → Int) (wet ye p : Int) : Nat → Int → Int
  | 0, u => u
  | k + 1, u => qAdd lv ov wet ye p (p + 1 + k) (qIn lv ov wet ye p k u)
def qOut (lv : Int → (Int → Int) → Int) (ov : Int → Int → Int) (wet ye n : Int) : Nat → Int → Int
  | 0, u => u
  | k + 1, u => qIn lv ov wet ye k (n - k - 1).toNat (qOut lv ov wet ye n k u)
def yGrow1 (lv : Int → (Int → Int) → Int) (mo : Int → Int) (wet c : Int) (y : Yd) : Yd :=
  (y.1, (if lv 2 (nmF (y.2.1 c) (mo c) (max (y.2.2.1 c - 1) 0) 0 wet 0 y.2.2.2.2) = -9223372036854775808 then y.2.1 else uf y.2.1 c (gWi (y.2.1 c + gWi (lv 2 (nmF (y.2.1 c) (mo c) (max (y.2.2.1 c - 1) 0) 0 wet 0 y.2.2.2.2)) (-9) 9) 0 30)), uf y.2.2.1 c (max (y.2.2.1 c - 1) 0), y.2.2.2.1, y.2.2.2.2)
def yGrow (lv : Int → (Int → Int) → Int) (mo : Int → Int) (wet : Int) : Nat → Yd → Yd
  | 0, y => y
  | k + 1, y => yGrow1 lv mo wet k (yGrow lv mo wet k y)
