/-! ===== what the lines of a text tell: a draft by the class's own cells (18: rain, seed told; 23 size lines parishes children beatings last rain seed; 24 row 25 column 26 names; 27 legs 28 mood 29 names; 30 slot 31 child 32 year; 33 cakes; 34 knots used; 35 knots; 36 from 37 to) ===== -/
abbrev Dl : Type := Nat → Int → Int
def u2 (δ : Dl) (k : Nat) (j v : Int) : Dl := fun a i => if a = k ∧ i = j then v else δ a i
theorem u2_1 (δ : Dl) (k : Nat) (j v : Int) (a : Nat) (i : Int) : u2 δ k j v a i = if a = k ∧ i = j then v else δ a i := rfl
theorem u2_ne (δ : Dl) {k a : Nat} (h : a ≠ k) (j v : Int) : u2 δ k j v a = δ a := by
  funext i
  exact if_neg (fun q => h q.1)
theorem u2_uf (δ : Dl) (k : Nat) (j v : Int) : u2 δ k j v k = uf (δ k) j v := by
  funext i
  unfold uf
  by_cases h : i = j
  · rw [u2_1, if_pos ⟨rfl, h⟩, if_pos h]
  · rw [u2_1, if_neg (fun q => h q.2), if_neg h]
abbrev Rs : Type := (Int × Int) ⊕ (Dl × List Tk)
abbrev Pn : Type := (Int × Int) ⊕ (Int × List Tk)
def pNum (lo hi : Int) : List Tk → Pn
  | [] => .inl (0, 0)
  | t :: ts => if t.1 ≠ 22 then .inl (1, t.2.1) else if t.2.2 < lo ∨ hi < t.2.2 then .inl (2, t.2.1) else .inr (t.2.2, ts)
def pNew (f : Int → Int) (n : Int) : List Tk → Pn
  | [] => .inl (0, 0)
  | t :: ts => if t.1 ≠ 21 then .inl (1, t.2.1) else if fd f t.2.2 n ≠ -1 then .inl (3, t.2.1) else .inr (t.2.2, ts)
def pTold (f : Int → Int) (n : Int) : List Tk → Pn
  | [] => .inl (0, 0)
  | t :: ts => if t.1 ≠ 21 then .inl (1, t.2.1) else if fd f t.2.2 n = -1 then .inl (4, t.2.1) else .inr (fd f t.2.2 n, ts)
def bnd (r : Pn) (k : Int → List Tk → Rs) : Rs := match r with
  | .inl e => .inl e
  | .inr q => k q.1 q.2
def hpl (ts : List Tk) : Int := match ts with
  | [] => 0
  | t :: _ => t.2.1
def hasCh (δ : Dl) (r c : Int) : Prop := ∃ k, 0 ≤ k ∧ k < δ 23 2 ∧ δ 24 k = r ∧ δ 25 k = c
def lLand (δ : Dl) (t : Tk) (r : List Tk) : Rs := if 0 < δ 23 1 then .inl (1, t.2.1) else bnd (pNum 5 40 r) (fun v r => .inr (u2 δ 23 0 v, r))
noncomputable def lPar (δ : Dl) (t : Tk) (r : List Tk) : Rs := if 4 ≤ δ 23 2 then .inl (2, t.2.1) else bnd (pNew (δ 26) (δ 23 2) r) (fun l r => bnd (pNum 0 (δ 23 0 - 1) r) (fun ro r2 => bnd (pNum 0 (δ 23 0 - 1) r2) (fun co r => @ite Rs (hasCh δ ro co) (Classical.propDecidable _) (.inl (3, hpl r2)) (.inr (u2 (u2 (u2 (u2 δ 26 (δ 23 2) l) 24 (δ 23 2) ro) 25 (δ 23 2) co) 23 2 (δ 23 2 + 1), r)))))
def lChi (δ : Dl) (t : Tk) (r : List Tk) : Rs := if 6 ≤ δ 23 3 then .inl (2, t.2.1) else bnd (pNew (δ 29) (δ 23 3) r) (fun l r => bnd (pNum 1 30 r) (fun g r => bnd (pNum 0 9 r) (fun m r => .inr (u2 (u2 (u2 (u2 δ 29 (δ 23 3) l) 27 (δ 23 3) g) 28 (δ 23 3) m) 23 3 (δ 23 3 + 1), r))))
def lBeat (δ : Dl) (t : Tk) (r : List Tk) : Rs := if 12 ≤ δ 23 4 then .inl (2, t.2.1) else bnd (pTold (δ 26) (δ 23 2) r) (fun p r => bnd (pTold (δ 29) (δ 23 3) r) (fun c r => bnd (pNum 0 3 r) (fun w r => bnd (pNum 0 99 r) (fun y r => .inr (u2 (u2 (u2 (u2 (u2 δ 30 (δ 23 4) (4 * p + w)) 31 (δ 23 4) c) 32 (δ 23 4) y) 23 5 (max (δ 23 5) y)) 23 4 (δ 23 4 + 1), r)))))
def lCake (δ : Dl) (r : List Tk) : Rs := bnd (pTold (δ 26) (δ 23 2) r) (fun p r2 => bnd (pNum 0 3 r2) (fun w r => if δ 33 (4 * p + w) ≠ 0 then .inl (3, hpl r2) else bnd (pNum 1 9 r) (fun v r => .inr (u2 δ 33 (4 * p + w) v, r))))
def lRain (δ : Dl) (t : Tk) (r : List Tk) : Rs := if δ 18 3 ≠ 0 then .inl (3, t.2.1) else bnd (pNum 0 100 r) (fun v r => .inr (u2 (u2 δ 23 6 v) 18 3 1, r))
def lSeed (δ : Dl) (t : Tk) (r : List Tk) : Rs := if δ 18 4 ≠ 0 then .inl (3, t.2.1) else bnd (pNum 0 99999 r) (fun v r => .inr (u2 (u2 δ 23 7 v) 18 4 1, r))
def dLaw (δ : Dl) (k : Int) (K : Kn) : Dl := fun a => if a = 35 then K.2 else if a = 34 then uf (δ 34) 4 K.1 else if a = 36 then uf (δ 36) k (δ 34 4) else if a = 37 then uf (δ 37) k K.1 else δ a
def lLaw (δ : Dl) : List Tk → Rs
  | [] => .inl (0, 0)
  | t :: r => if t.1 < 8 ∨ 10 < t.1 then .inl (1, t.2.1) else if δ 36 (t.1 - 8) < δ 37 (t.1 - 8) then .inl (3, t.2.1)
    else match syRun r (1, [], 0, δ 34 4, (δ 34 4, δ 35)) with
      | .inl e => .inl e
      | .inr q => .inr (dLaw δ (t.1 - 8) q.2, q.1)
noncomputable def lLine (δ : Dl) : List Tk → Rs
  | [] => .inl (0, 0)
  | t :: r => if t.1 = 0 then lLand δ t r else if t.1 = 1 then lPar δ t r else if t.1 = 2 then lChi δ t r else if t.1 = 3 then lBeat δ t r else if t.1 = 4 then lCake δ r else if t.1 = 5 then lRain δ t r else if t.1 = 6 then lSeed δ t r else if t.1 = 7 then lLaw δ r else .inl (1, t.2.1)
def lEnds (δ : Dl) : List Tk → Rs
  | [] => .inl (0, 0)
  | t :: r => if t.1 ≠ 23 then .inl (1, t.2.1) else .inr (u2 δ 23 1 (δ 23 1 + 1), r)
def hkd (ts : List Tk) : Int := match ts with
  | [] => 37
  | t :: _ => t.1
noncomputable def lText : Nat → Dl → List Tk → Rs
  | 0, _, _ => .inl (0, 0)
  | k + 1, δ, ts => if hkd ts = 37 then .inr (δ, ts) else match lLine δ ts with
    | .inl e => .inl e
    | .inr q => match lEnds q.1 q.2 with
      | .inl e => .inl e
      | .inr q' => lText k q'.1 q'.2
/-- good tokens -/
def tkG (t : Tk) : Prop := (t.1 = 21 → 1 ≤ t.2.2 ∧ t.2.2 < 1073741824) ∧ (t.1 = 22 → 0 ≤ t.2.2 ∧ t.2.2 ≤ 100000)
theorem tok_good {b : Int → Int} {n a : Int} (h0 : 0 ≤ a) (hn : a ≤ n) : tkG (tok b n a).1 := by
  have hs := sc_in (P := isBl) (b := b) (n := n) (a := a)
  obtain ⟨p, hp⟩ : ∃ p, p = sc isBl b n a := ⟨_, rfl⟩
  by_cases q : n ≤ p
  · rw [tok_end (by rw [← hp]; exact q)]
    exact ⟨fun r => absurd (show (37 : Int) = 21 from r) (by decide), fun r => absurd (show (37 : Int) = 22 from r) (by decide)⟩
  · cases Classical.em (isLt (b p)) with
    | inl hl =>
      have he := sc_in (P := isLt) (b := b) (n := n) (a := p)
      have he3 : p < sc isLt b n p := by
        rw [sc_pos ⟨by omega, hl⟩]
        have := (sc_in (P := isLt) (b := b) (n := n) (a := p + 1)).1
        omega
      rw [tok_lt hp q hl rfl]
      have hv := pkV_in (b := b) (p := p) (e := sc isLt b n p) (fun j u v => (he.2.2 j u v).2)
      have hf := fd_in wv (pkV b p (sc isLt b n p)) (n := 21) (by decide)
      refine ⟨fun _ => ⟨?_, hv.2⟩, fun r => ?_⟩
      · show 1 ≤ pkV b p (sc isLt b n p)
        have h0d : 1 ≤ pkD b p (sc isLt b n p) 0 := by
          have hl : 97 ≤ b p ∧ b p ≤ 122 := hl
          unfold pkD
          rw [if_pos (by omega), Int.add_zero]
          omega
        have hd := fun i (hi : (0 : Int) ≤ i) => pkD_in (b := b) (p := p) (e := sc isLt b n p) (fun j u v => (he.2.2 j u v).2) hi
        have d1 := hd 1 (by decide)
        have d2 := hd 2 (by decide)
        have d3 := hd 3 (by decide)
        have d4 := hd 4 (by decide)
        have d5 := hd 5 (by decide)
        show 1 ≤ (((((0 * 32 + pkD b p (sc isLt b n p) 0) * 32 + pkD b p (sc isLt b n p) 1) * 32 + pkD b p (sc isLt b n p) 2) * 32 + pkD b p (sc isLt b n p) 3) * 32 + pkD b p (sc isLt b n p) 4) * 32 + pkD b p (sc isLt b n p) 5
        omega
      · have r : (if 6 < sc isLt b n p - p then (36 : Int) else if fd wv (pkV b p (sc isLt b n p)) 21 = -1 then 21 else fd wv (pkV b p (sc isLt b n p)) 21) = 22 := r
        exfalso
        split at r
        · omega
        · split at r <;> omega
    | inr hl =>
      cases Classical.em (isDg (b p)) with
      | inl hd =>
        have he := sc_in (P := isDg) (b := b) (n := n) (a := p)
        rw [tok_dg hp q hl hd rfl]
        have hin := nvF_in (cap := 100000) (b := b) (by decide) (sc isDg b n p - p).toNat p 0 (by decide) (by decide) (fun j u v => (he.2.2 j u (by omega)).2)
        exact ⟨fun r => absurd (show (22 : Int) = 21 from r) (by decide), fun _ => ⟨by show 0 ≤ min (nvF 100000 b (sc isDg b n p - p).toNat p 0) 100000; omega, by show min (nvF 100000 b (sc isDg b n p - p).toNat p 0) 100000 ≤ 100000; omega⟩⟩
      | inr hd =>
        rw [tok_sg hp q hl hd]
        have hk := sgK_in (b p) (by0 b n (p + 1))
        exact ⟨fun r => absurd (show sgK (b p) (by0 b n (p + 1)) = 21 from r) (by omega), fun r => absurd (show sgK (b p) (by0 b n (p + 1)) = 22 from r) (by omega)⟩
theorem tkF_good {b : Int → Int} {n : Int} : ∀ (k : Nat) (a : Int), 0 ≤ a → a ≤ n → ∀ t ∈ tkF b n k a, tkG t
  | 0, a, h0, hn => fun t ht => by
    simp only [tkF, List.mem_cons, List.not_mem_nil, or_false] at ht
    rw [ht]; exact tok_good h0 hn
  | k + 1, a, h0, hn => fun t ht => by
    have hi := tok_in (b := b) h0 hn
    simp only [tkF] at ht
    rcases List.mem_cons.mp ht with r | r
    · rw [r]; exact tok_good h0 hn
    · by_cases q : (tok b n a).1.1 = 37
      · rw [if_pos q] at r; cases r
      · rw [if_neg q] at r
        exact tkF_good k _ (by have := hi.2.2.2.2.1 q; omega) hi.2.2.2.1 t r
theorem tkl_good {b : Int → Int} {n a : Int} (h0 : 0 ≤ a) (hn : a ≤ n) : ∀ t ∈ tkl b n a, tkG t := tkF_good _ a h0 hn
/-- what holds of a draft -/
def DOk (δ : Dl) : Prop := (5 ≤ δ 23 0 ∧ δ 23 0 ≤ 40) ∧ (0 ≤ δ 23 1 ∧ δ 23 1 ≤ 701) ∧ (0 ≤ δ 23 2 ∧ δ 23 2 ≤ 4) ∧ (0 ≤ δ 23 3 ∧ δ 23 3 ≤ 6) ∧ (0 ≤ δ 23 4 ∧ δ 23 4 ≤ 12) ∧ (-1 ≤ δ 23 5 ∧ δ 23 5 ≤ 99) ∧ (0 ≤ δ 23 6 ∧ δ 23 6 ≤ 100) ∧ (0 ≤ δ 23 7 ∧ δ 23 7 ≤ 99999)
  ∧ (∀ i, 0 ≤ i → i < 4 → 0 ≤ δ 24 i ∧ δ 24 i ≤ 39 ∧ 0 ≤ δ 25 i ∧ δ 25 i ≤ 39 ∧ R32 (δ 26 i)) ∧ (∀ i, 0 ≤ i → i < δ 23 2 → δ 24 i < δ 23 0 ∧ δ 25 i < δ 23 0)
  ∧ (∀ i, 0 ≤ i → i < 6 → 0 ≤ δ 27 i ∧ δ 27 i ≤ 30 ∧ 0 ≤ δ 28 i ∧ δ 28 i ≤ 9 ∧ R32 (δ 29 i))
  ∧ (∀ i, 0 ≤ i → i < 12 → 0 ≤ δ 30 i ∧ δ 30 i ≤ 15 ∧ 0 ≤ δ 31 i ∧ δ 31 i ≤ 5 ∧ 0 ≤ δ 32 i ∧ δ 32 i ≤ 99)
  ∧ (∀ i, 0 ≤ i → i < 16 → 0 ≤ δ 33 i ∧ δ 33 i ≤ 9)
  ∧ (∀ i, 0 ≤ i → i < δ 23 4 → δ 30 i < 4 * δ 23 2 ∧ δ 31 i < δ 23 3)
  ∧ (0 ≤ δ 34 4 ∧ δ 34 4 ≤ 64) ∧ (∀ k, 0 ≤ k → k < 3 → 0 ≤ δ 36 k ∧ δ 36 k ≤ δ 37 k ∧ δ 37 k ≤ δ 34 4) ∧ (∀ i, 0 ≤ i → i < δ 34 4 → isKnot (δ 35 i)) ∧ ((δ 18 3 = 0 ∨ δ 18 3 = 1) ∧ (δ 18 4 = 0 ∨ δ 18 4 = 1))
  ∧ (δ 23 1 = 0 → δ 23 2 = 0) ∧ (∀ i, 0 ≤ i → i < δ 23 4 → δ 32 i ≤ δ 23 5)
theorem pNum_ok {lo hi : Int} {ts r : List Tk} {v : Int} (h : pNum lo hi ts = .inr (v, r)) : lo ≤ v ∧ v ≤ hi ∧ ∃ t, ts = t :: r ∧ t.1 ≠ 37 := by
  match ts, h with
  | t :: ts, h =>
    simp only [pNum] at h
    by_cases e1 : t.1 ≠ 22
    · rw [if_pos e1] at h; cases h
    rw [if_neg e1] at h
    by_cases e2 : t.2.2 < lo ∨ hi < t.2.2
    · rw [if_pos e2] at h; cases h
    rw [if_neg e2] at h
    cases h
    exact ⟨by omega, by omega, t, rfl, by omega⟩
theorem pNew_ok {f : Int → Int} {n : Int} {ts r : List Tk} {v : Int} (hg : ∀ t ∈ ts, tkG t) (h : pNew f n ts = .inr (v, r)) : 1 ≤ v ∧ v < 1073741824 ∧ fd f v n = -1 ∧ ∃ t, ts = t :: r ∧ t.1 ≠ 37 := by
  match ts, hg, h with
  | t :: ts, hg, h =>
    have g := hg t List.mem_cons_self
    simp only [pNew] at h
    by_cases e1 : t.1 ≠ 21
    · rw [if_pos e1] at h; cases h
    rw [if_neg e1] at h
    by_cases e2 : fd f t.2.2 n ≠ -1
    · rw [if_pos e2] at h; cases h
    rw [if_neg e2] at h
    cases h
    have := g.1 (by omega)
    exact ⟨this.1, this.2, by omega, t, rfl, by omega⟩
theorem pTold_ok {f : Int → Int} {n : Int} (hn : 0 ≤ n) {ts r : List Tk} {v : Int} (h : pTold f n ts = .inr (v, r)) : 0 ≤ v ∧ v < n ∧ ∃ t, ts = t :: r ∧ t.1 ≠ 37 := by
  match ts, h with
  | t :: ts, h =>
    have g := fd_in f t.2.2 hn
    simp only [pTold] at h
    by_cases e1 : t.1 ≠ 21
    · rw [if_pos e1] at h; cases h
    rw [if_neg e1] at h
    by_cases e2 : fd f t.2.2 n = -1
    · rw [if_pos e2] at h; cases h
    rw [if_neg e2] at h
    cases h
    exact ⟨by omega, by omega, t, rfl, by omega⟩
theorem bnd_r (v : Int) (ts : List Tk) (k : Int → List Tk → Rs) : bnd (.inr (v, ts)) k = k v ts := rfl
theorem bnd_l (e : Int × Int) (k : Int → List Tk → Rs) : bnd (.inl e) k = .inl e := rfl
theorem bnd_ok {r : Pn} {k : Int → List Tk → Rs} {q : Dl × List Tk} (h : bnd r k = .inr q) : ∃ v ts, r = .inr (v, ts) ∧ k v ts = .inr q := by
  match r, h with
  | .inr (v, ts), h => exact ⟨v, ts, rfl, h⟩

