/-! ===== tokens: what a text's bytes are cut into ===== -/
def isBl (c : Int) : Prop := c = 32 ∨ c = 10
def isLt (c : Int) : Prop := 97 ≤ c ∧ c ≤ 122
def isDg (c : Int) : Prop := 48 ≤ c ∧ c ≤ 57
noncomputable def scn (P : Int → Prop) (b : Int → Int) (n : Int) : Nat → Int → Int
  | 0, a => a
  | k + 1, a => @ite Int (a < n ∧ P (b a)) (Classical.propDecidable _) (scn P b n k (a + 1)) a
noncomputable def sc (P : Int → Prop) (b : Int → Int) (n a : Int) : Int := scn P b n (n - a).toNat a
theorem sc_pos {P : Int → Prop} {b : Int → Int} {n a : Int} (h : a < n ∧ P (b a)) : sc P b n a = sc P b n (a + 1) := by
  unfold sc
  rw [show (n - a).toNat = (n - (a + 1)).toNat + 1 by have := h.1; omega]
  exact @if_pos _ (Classical.propDecidable _) h _ _ _
theorem sc_neg {P : Int → Prop} {b : Int → Int} {n a : Int} (h : ¬ (a < n ∧ P (b a))) : sc P b n a = a := by
  unfold sc
  cases (n - a).toNat with
  | zero => rfl
  | succ k => exact @if_neg _ (Classical.propDecidable _) h _ _ _
theorem scn_in {P : Int → Prop} {b : Int → Int} {n : Int} : ∀ (k : Nat) (a : Int), a ≤ scn P b n k a ∧ (a ≤ n → scn P b n k a ≤ n) ∧ ∀ j, a ≤ j → j < scn P b n k a → j < n ∧ P (b j)
  | 0, a => ⟨Int.le_refl a, fun h => h, fun j h1 h2 => absurd h2 (by show ¬ j < a; omega)⟩
  | k + 1, a => by
    have ih := scn_in (P := P) (b := b) (n := n) k (a + 1)
    cases Classical.em (a < n ∧ P (b a)) with
    | inl q =>
      have e : scn P b n (k + 1) a = scn P b n k (a + 1) := @if_pos _ (Classical.propDecidable _) q _ _ _
      rw [e]
      refine ⟨by omega, fun h => ih.2.1 (by omega), fun j h1 h2 => ?_⟩
      by_cases r : j = a
      · rw [r]; exact q
      · exact ih.2.2 j (by omega) h2
    | inr q =>
      have e : scn P b n (k + 1) a = a := @if_neg _ (Classical.propDecidable _) q _ _ _
      rw [e]
      exact ⟨Int.le_refl a, fun h => h, fun j h1 h2 => absurd h2 (by omega)⟩
theorem sc_in {P : Int → Prop} {b : Int → Int} {n a : Int} : a ≤ sc P b n a ∧ (a ≤ n → sc P b n a ≤ n) ∧ ∀ j, a ≤ j → j < sc P b n a → j < n ∧ P (b j) := scn_in _ _
theorem scn_end {P : Int → Prop} {b : Int → Int} {n : Int} : ∀ (k : Nat) (a : Int), n - a ≤ k → ¬ (scn P b n k a < n ∧ P (b (scn P b n k a)))
  | 0, a, h => fun q => by
    have : a < n := q.1
    omega
  | k + 1, a, h => by
    cases Classical.em (a < n ∧ P (b a)) with
    | inl q =>
      have e : scn P b n (k + 1) a = scn P b n k (a + 1) := @if_pos _ (Classical.propDecidable _) q _ _ _
      rw [e]
      exact scn_end k (a + 1) (by omega)
    | inr q =>
      have e : scn P b n (k + 1) a = a := @if_neg _ (Classical.propDecidable _) q _ _ _
      rw [e]
      exact q
theorem sc_end {P : Int → Prop} {b : Int → Int} {n a : Int} : ¬ (sc P b n a < n ∧ P (b (sc P b n a))) := scn_end _ _ (by omega)
theorem scn_c {P : Int → Prop} {b b' : Int → Int} {n : Int} (h : ∀ i, 0 ≤ i → i < n → b i = b' i) : ∀ (k : Nat) (a : Int), 0 ≤ a → scn P b n k a = scn P b' n k a
  | 0, _, _ => rfl
  | k + 1, a, h0 => by
    have ih := scn_c (P := P) h k (a + 1) (by omega)
    by_cases q : a < n
    · simp only [scn]
      rw [h a h0 q, ih]
    · simp only [scn]
      rw [@if_neg _ (Classical.propDecidable _) (fun r : a < n ∧ P (b a) => q r.1) _ _ _, @if_neg _ (Classical.propDecidable _) (fun r : a < n ∧ P (b' a) => q r.1) _ _ _]
theorem sc_c {P : Int → Prop} {b b' : Int → Int} {n a : Int} (h : ∀ i, 0 ≤ i → i < n → b i = b' i) (h0 : 0 ≤ a) : sc P b n a = sc P b' n a := scn_c h _ a h0
/-- a number's digits, no longer added up from cap on -/
def nvF (cap : Int) (b : Int → Int) : Nat → Int → Int → Int
  | 0, _, v => v
  | k + 1, p, v => nvF cap b k (p + 1) (if v < cap then 10 * v + (b p - 48) else v)
theorem nv_cap {b : Int → Int} : ∀ (k : Nat) (p v v' : Int), 0 ≤ v → 0 ≤ v' → min v 100000 = min v' 100000 → (∀ j : Int, p ≤ j → j < p + k → 48 ≤ b j) → min (nvF 1000000 b k p v) 100000 = min (nvF 100000 b k p v') 100000 ∧ 0 ≤ nvF 1000000 b k p v ∧ 0 ≤ nvF 100000 b k p v'
  | 0, _, _, _, h0, h1, h, _ => ⟨h, h0, h1⟩
  | k + 1, p, v, v', h0, h1, h, hb => by
    have hp := hb p (by omega) (by omega)
    simp only [nvF]
    refine nv_cap k (p + 1) _ _ ?_ ?_ ?_ (fun j a c => hb j (by omega) (by omega))
    · split <;> omega
    · split <;> omega
    · split <;> split <;> omega
theorem nvF_in {cap : Int} {b : Int → Int} (hc : cap ≤ 1000000) : ∀ (k : Nat) (p v : Int), 0 ≤ v → v ≤ 10000010 → (∀ j : Int, p ≤ j → j < p + k → 48 ≤ b j ∧ b j ≤ 57) → 0 ≤ nvF cap b k p v ∧ nvF cap b k p v ≤ 10000010
  | 0, _, _, h0, h1, _ => ⟨h0, h1⟩
  | k + 1, p, v, h0, h1, hb => by
    have hp := hb p (by omega) (by omega)
    simp only [nvF]
    refine nvF_in hc k (p + 1) _ ?_ ?_ (fun j a c => hb j (by omega) (by omega))
    · split <;> omega
    · split <;> omega
theorem nvF_snoc (cap : Int) (b : Int → Int) : ∀ (k : Nat) (p v : Int), nvF cap b (k + 1) p v = (if nvF cap b k p v < cap then 10 * nvF cap b k p v + (b (p + k) - 48) else nvF cap b k p v)
  | 0, p, v => by simp [nvF]
  | k + 1, p, v => by
    rw [show nvF cap b (k + 1 + 1) p v = nvF cap b (k + 1) (p + 1) (if v < cap then 10 * v + (b p - 48) else v) from rfl, nvF_snoc cap b k (p + 1)]
    rw [show p + 1 + (k : Int) = p + ((k + 1 : Nat) : Int) by omega]
    rfl
theorem nvF_c {cap : Int} {b b' : Int → Int} : ∀ (k : Nat) (p v : Int), (∀ j : Int, p ≤ j → j < p + k → b j = b' j) → nvF cap b k p v = nvF cap b' k p v
  | 0, _, _, _ => rfl
  | k + 1, p, v, h => by
    simp only [nvF]
    rw [h p (by omega) (by omega)]
    exact nvF_c k (p + 1) _ (fun j a c => h j (by omega) (by omega))
/-- letters, five bits each, the first one highest -/
def hrn (f : Int → Int) : Nat → Int
  | 0 => 0
  | k + 1 => hrn f k * 32 + f k
def pkD (b : Int → Int) (p e i : Int) : Int := if p + i < e then b (p + i) - 96 else 0
def pkV (b : Int → Int) (p e : Int) : Int := hrn (pkD b p e) 6
theorem hrn_in {f : Int → Int} : ∀ k : Nat, (∀ i : Int, 0 ≤ i → i < k → 0 ≤ f i ∧ f i < 32) → 0 ≤ hrn f k ∧ hrn f k < 32 ^ k
  | 0, _ => ⟨Int.le_refl 0, by show (0 : Int) < 1; decide⟩
  | k + 1, h => by
    have ih := hrn_in k (fun i a b => h i a (by omega))
    have := h k (by omega) (by omega)
    simp only [hrn]
    rw [Int.pow_succ]
    omega
theorem hrn_inj {f g : Int → Int} : ∀ k : Nat, (∀ i : Int, 0 ≤ i → i < k → (0 ≤ f i ∧ f i < 32) ∧ 0 ≤ g i ∧ g i < 32) → hrn f k = hrn g k → ∀ i : Int, 0 ≤ i → i < k → f i = g i
  | 0, _, _ => fun i a b => absurd b (by omega)
  | k + 1, h, e => by
    have h1 := h k (by omega) (by omega)
    simp only [hrn] at e
    have e1 : hrn f k = hrn g k := by omega
    have ih := hrn_inj k (fun i a b => h i a (by omega)) e1
    intro i a b
    by_cases q : i = k
    · rw [q]; omega
    · exact ih i a (by omega)
theorem hrn_c {f g : Int → Int} : ∀ k : Nat, (∀ i : Int, 0 ≤ i → i < k → f i = g i) → hrn f k = hrn g k
  | 0, _ => rfl
  | k + 1, h => by
    simp only [hrn]
    rw [hrn_c k (fun i a b => h i a (by omega)), h k (by omega) (by omega)]
theorem pkV_c {b b' : Int → Int} {p e : Int} (h : ∀ j, p ≤ j → j < e → b j = b' j) : pkV b p e = pkV b' p e := by
  refine hrn_c 6 (fun i a c => ?_)
  unfold pkD
  split
  · rw [h _ (by omega) (by omega)]
  · rfl
def wvL : List Int := [404164608, 538519144, 109359232, 72404992, 102077440, 605337600, 642945024, 404455424, 773204992, 592497024, 254270464, 522190848, 48365568, 486146048, 408144896, 452431872, 681120896, 661821056, 777650176, 202964992, 844154880]
def wv (i : Int) : Int := wvL.getD i.toNat 0
theorem wv_in : ∀ i : Int, 0 ≤ i → i < 21 → 0 ≤ wv i ∧ wv i < 1073741824 := by
  intro i h0 h1
  obtain ⟨k, rfl⟩ := Int.eq_ofNat_of_zero_le h0
  have : ∀ k : Nat, k < 21 → 0 ≤ wv k ∧ wv k < 1073741824 := by decide +kernel
  exact this k (by omega)
theorem pkD_in {b : Int → Int} {p e i : Int} (h : ∀ j, p ≤ j → j < e → 97 ≤ b j ∧ b j ≤ 122) (hi : 0 ≤ i) : 0 ≤ pkD b p e i ∧ pkD b p e i < 32 := by
  unfold pkD
  split
  · have := h (p + i) (by omega) (by omega)
    omega
  · omega
theorem pkV_in {b : Int → Int} {p e : Int} (h : ∀ j, p ≤ j → j < e → 97 ≤ b j ∧ b j ≤ 122) : 0 ≤ pkV b p e ∧ pkV b p e < 1073741824 := by
  have := hrn_in (f := pkD b p e) 6 (fun i a _ => pkD_in h a)
  exact this
/-- a token: its kind (0 .. 20 words, 21 a name, 22 a number, 23 .. 35 signs, 36 wrong, 37 the end), its place, its value -/
abbrev Tk : Type := Int × Int × Int
def sgK (c s : Int) : Int := if c = 59 then 23 else if c = 40 then 24 else if c = 41 then 25 else if c = 43 then 26 else if c = 45 then 27 else if c = 42 then 28 else if c = 47 then 29 else if c = 61 then 32 else if c = 60 then (if s = 61 then 31 else if s = 62 then 33 else 30) else if c = 62 then (if s = 61 then 34 else 35) else 36
def sgN (c s : Int) : Int := if c = 60 ∧ (s = 61 ∨ s = 62) ∨ c = 62 ∧ s = 61 then 2 else 1
def by0 (b : Int → Int) (n a : Int) : Int := if a < n then b a else 0
noncomputable def tok (b : Int → Int) (n a : Int) : Tk × Int :=
  let p := sc isBl b n a
  if n ≤ p then ((37, p, 0), p)
  else @ite _ (isLt (b p)) (Classical.propDecidable _)
    (let e := sc isLt b n p
     ((if 6 < e - p then 36 else if fd wv (pkV b p e) 21 = -1 then 21 else fd wv (pkV b p e) 21, p, pkV b p e), e))
    (@ite _ (isDg (b p)) (Classical.propDecidable _)
      (let e := sc isDg b n p
       ((22, p, min (nvF 100000 b (e - p).toNat p 0) 100000), e))
      ((sgK (b p) (by0 b n (p + 1)), p, 0), p + sgN (b p) (by0 b n (p + 1))))
theorem tok_end {b : Int → Int} {n a : Int} (h : n ≤ sc isBl b n a) : tok b n a = ((37, sc isBl b n a, 0), sc isBl b n a) := if_pos h
theorem tok_lt {b : Int → Int} {n a p e : Int} (hp : p = sc isBl b n a) (h : ¬ n ≤ p) (hl : isLt (b p)) (he : e = sc isLt b n p) : tok b n a = ((if 6 < e - p then 36 else if fd wv (pkV b p e) 21 = -1 then 21 else fd wv (pkV b p e) 21, p, pkV b p e), e) := by
  subst hp he
  exact (if_neg h).trans (@if_pos _ (Classical.propDecidable _) hl _ _ _)
theorem tok_dg {b : Int → Int} {n a p e : Int} (hp : p = sc isBl b n a) (h : ¬ n ≤ p) (hl : ¬ isLt (b p)) (hd : isDg (b p)) (he : e = sc isDg b n p) : tok b n a = ((22, p, min (nvF 100000 b (e - p).toNat p 0) 100000), e) := by
  subst hp he
  exact (if_neg h).trans ((@if_neg _ (Classical.propDecidable _) hl _ _ _).trans (@if_pos _ (Classical.propDecidable _) hd _ _ _))
theorem tok_sg {b : Int → Int} {n a p : Int} (hp : p = sc isBl b n a) (h : ¬ n ≤ p) (hl : ¬ isLt (b p)) (hd : ¬ isDg (b p)) : tok b n a = ((sgK (b p) (by0 b n (p + 1)), p, 0), p + sgN (b p) (by0 b n (p + 1))) := by
  subst hp
  exact (if_neg h).trans ((@if_neg _ (Classical.propDecidable _) hl _ _ _).trans (@if_neg _ (Classical.propDecidable _) hd _ _ _))
theorem sgK_in (c s : Int) : 23 ≤ sgK c s ∧ sgK c s ≤ 36 := by
  unfold sgK
  split
  · omega
  split
  · omega
  split
  · omega
  split
  · omega
  split
  · omega
  split
  · omega
  split
  · omega
  split
  · omega
  split
  · split
    · omega
    · split <;> omega
  split
  · split <;> omega
  · omega
theorem sgN_in {b : Int → Int} {n p : Int} (h : p < n) : p + 1 ≤ p + sgN (b p) (by0 b n (p + 1)) ∧ p + sgN (b p) (by0 b n (p + 1)) ≤ n := by
  obtain ⟨s, hs⟩ : ∃ s, s = by0 b n (p + 1) := ⟨_, rfl⟩
  rw [← hs]
  unfold sgN
  by_cases q : b p = 60 ∧ (s = 61 ∨ s = 62) ∨ b p = 62 ∧ s = 61
  · rw [if_pos q]
    by_cases r : p + 1 < n
    · omega
    · have : s = 0 := by rw [hs]; exact if_neg r
      omega
  · rw [if_neg q]; omega
/-- every token but the end takes a byte -/
theorem tok_in {b : Int → Int} {n a : Int} (h0 : 0 ≤ a) (hn : a ≤ n) : (0 ≤ (tok b n a).1.1 ∧ (tok b n a).1.1 ≤ 37) ∧ a ≤ (tok b n a).1.2.1 ∧ (tok b n a).1.2.1 ≤ n ∧ (tok b n a).2 ≤ n ∧ ((tok b n a).1.1 ≠ 37 → a < (tok b n a).2) ∧ ((tok b n a).1.1 = 37 → (tok b n a).2 = n) := by
  have hs := sc_in (P := isBl) (b := b) (n := n) (a := a)
  have hs2 := hs.2.1 hn
  obtain ⟨p, hp⟩ : ∃ p, p = sc isBl b n a := ⟨_, rfl⟩
  rw [← hp] at hs hs2
  by_cases q : n ≤ p
  · rw [tok_end (by rw [← hp]; exact q)]
    rw [← hp]
    exact ⟨⟨by show (0 : Int) ≤ 37; decide, by show (37 : Int) ≤ 37; decide⟩, hs.1, hs2, hs2, fun r => absurd rfl r, fun _ => by show p = n; omega⟩
  · cases Classical.em (isLt (b p)) with
    | inl hl =>
      have he := sc_in (P := isLt) (b := b) (n := n) (a := p)
      have he2 := he.2.1 (by omega)
      have he3 : p < sc isLt b n p := by
        rw [sc_pos ⟨by omega, hl⟩]
        have := (sc_in (P := isLt) (b := b) (n := n) (a := p + 1)).1
        omega
      rw [tok_lt hp q hl rfl]
      have hf := fd_in wv (pkV b p (sc isLt b n p)) (n := 21) (by decide)
      have hk : 0 ≤ (if 6 < sc isLt b n p - p then (36 : Int) else if fd wv (pkV b p (sc isLt b n p)) 21 = -1 then 21 else fd wv (pkV b p (sc isLt b n p)) 21) ∧ (if 6 < sc isLt b n p - p then (36 : Int) else if fd wv (pkV b p (sc isLt b n p)) 21 = -1 then 21 else fd wv (pkV b p (sc isLt b n p)) 21) ≤ 36 := by
        split
        · omega
        · split <;> omega
      refine ⟨⟨hk.1, Int.le_trans hk.2 (by decide)⟩, hs.1, hs2, he2, fun _ => by show a < sc isLt b n p; omega, fun r => ?_⟩
      have r : (if 6 < sc isLt b n p - p then (36 : Int) else if fd wv (pkV b p (sc isLt b n p)) 21 = -1 then 21 else fd wv (pkV b p (sc isLt b n p)) 21) = 37 := r
      omega
    | inr hl =>
      cases Classical.em (isDg (b p)) with
      | inl hd =>
        have he := sc_in (P := isDg) (b := b) (n := n) (a := p)
        have he2 := he.2.1 (by omega)
        have he3 : p < sc isDg b n p := by
          rw [sc_pos ⟨by omega, hd⟩]
          have := (sc_in (P := isDg) (b := b) (n := n) (a := p + 1)).1
          omega
        rw [tok_dg hp q hl hd rfl]
        exact ⟨⟨by show (0 : Int) ≤ 22; decide, by show (22 : Int) ≤ 37; decide⟩, hs.1, hs2, he2, fun _ => by show a < sc isDg b n p; omega, fun r => by have r : (22 : Int) = 37 := r; omega⟩
      | inr hd =>
        rw [tok_sg hp q hl hd]
        have h1 := sgK_in (b p) (by0 b n (p + 1))
        have h2 := sgN_in (b := b) (n := n) (p := p) (by omega)
        exact ⟨⟨by show 0 ≤ sgK (b p) (by0 b n (p + 1)); omega, by show sgK (b p) (by0 b n (p + 1)) ≤ 37; omega⟩, hs.1, hs2, h2.2, fun _ => by show a < p + sgN (b p) (by0 b n (p + 1)); omega, fun r => by have r : sgK (b p) (by0 b n (p + 1)) = 37 := r; omega⟩
noncomputable def tkF (b : Int → Int) (n : Int) : Nat → Int → List Tk
  | 0, a => [(tok b n a).1]
  | k + 1, a => (tok b n a).1 :: (if (tok b n a).1.1 = 37 then [] else tkF b n k (tok b n a).2)
/-- the tokens from a place on -/
noncomputable def tkl (b : Int → Int) (n a : Int) : List Tk := tkF b n (n - a).toNat a
theorem tkF_more {b : Int → Int} {n : Int} : ∀ (k : Nat) (a : Int), 0 ≤ a → a ≤ n → n - a ≤ k → tkF b n k a = tkF b n (n - a).toNat a
  | 0, a, h0, h1, h => by rw [show (n - a).toNat = 0 by omega]
  | k + 1, a, h0, h1, h => by
    have ht := tok_in (b := b) h0 h1
    by_cases e : n = a
    · subst e
      rw [show (n - n).toNat = 0 by omega]
      have hs : n ≤ sc isBl b n n := (sc_in (P := isBl) (b := b) (n := n) (a := n)).1
      have e37 : (tok b n n).1.1 = 37 := by rw [tok_end hs]
      show (tok b n n).1 :: (if (tok b n n).1.1 = 37 then [] else tkF b n k (tok b n n).2) = [(tok b n n).1]
      rw [if_pos e37]
    · obtain ⟨j, hj⟩ : ∃ j, (n - a).toNat = j + 1 := ⟨(n - a).toNat - 1, by omega⟩
      rw [hj]
      show (tok b n a).1 :: (if (tok b n a).1.1 = 37 then [] else tkF b n k (tok b n a).2) = (tok b n a).1 :: (if (tok b n a).1.1 = 37 then [] else tkF b n j (tok b n a).2)
      by_cases q : (tok b n a).1.1 = 37
      · rw [if_pos q, if_pos q]
      · have h5 := ht.2.2.2.2.1 q
        rw [if_neg q, if_neg q, tkF_more k _ (by omega) ht.2.2.2.1 (by omega), tkF_more j _ (by omega) ht.2.2.2.1 (by omega)]
theorem tkl_step {b : Int → Int} {n a : Int} (h0 : 0 ≤ a) (hn : a ≤ n) : tkl b n a = (tok b n a).1 :: (if (tok b n a).1.1 = 37 then [] else tkl b n (tok b n a).2) := by
  have ht := tok_in (b := b) h0 hn
  unfold tkl
  rw [← tkF_more ((n - a).toNat + 1) a h0 hn (by omega)]
  show (tok b n a).1 :: (if (tok b n a).1.1 = 37 then [] else tkF b n (n - a).toNat (tok b n a).2) = _
  by_cases q : (tok b n a).1.1 = 37
  · rw [if_pos q, if_pos q]
  · rw [if_neg q, if_neg q, tkF_more _ _ (by omega) ht.2.2.2.1 (by have := ht.2.2.2.2.1 q; omega)]
theorem tkF_len {b : Int → Int} {n : Int} : ∀ (k : Nat) (a : Int), (tkF b n k a).length ≤ k + 1
  | 0, _ => by simp [tkF]
  | k + 1, a => by
    simp only [tkF]
    split
    · simp
    · have := tkF_len (b := b) (n := n) k (tok b n a).2
      simp only [List.length_cons]
      omega
theorem tkl_len {b : Int → Int} {n a : Int} (h0 : 0 ≤ a) (hn : n ≤ 700) : (tkl b n a).length ≤ 701 := by
  have := tkF_len (b := b) (n := n) (n - a).toNat a
  unfold tkl
  omega
theorem tok_c {b b' : Int → Int} {n a : Int} (h : ∀ i, 0 ≤ i → i < n → b i = b' i) (h0 : 0 ≤ a) : tok b n a = tok b' n a := by
  have e1 := sc_c (P := isBl) h h0
  have hs := sc_in (P := isBl) (b := b) (n := n) (a := a)
  obtain ⟨p, hp⟩ : ∃ p, p = sc isBl b n a := ⟨_, rfl⟩
  have hp' : p = sc isBl b' n a := by rw [← e1]; exact hp
  rw [← hp] at hs
  by_cases q : n ≤ p
  · rw [tok_end (by rw [← hp]; exact q), tok_end (by rw [← hp']; exact q), ← hp, ← hp']
  · have hb := h p (by omega) (by omega)
    have eL := sc_c (P := isLt) h (show 0 ≤ p by omega)
    have eD := sc_c (P := isDg) h (show 0 ≤ p by omega)
    have h2 : by0 b n (p + 1) = by0 b' n (p + 1) := by
      unfold by0
      split
      · exact h _ (by omega) (by omega)
      · rfl
    cases Classical.em (isLt (b p)) with
    | inl hl =>
      have he := sc_in (P := isLt) (b := b) (n := n) (a := p)
      rw [tok_lt hp q hl rfl, tok_lt hp' q (by rw [← hb]; exact hl) rfl, ← eL, pkV_c (b := b) (b' := b') (fun j a c => h j (by omega) (he.2.2 j a c).1)]
    | inr hl =>
      cases Classical.em (isDg (b p)) with
      | inl hd =>
        have he := sc_in (P := isDg) (b := b) (n := n) (a := p)
        rw [tok_dg hp q hl hd rfl, tok_dg hp' q (by rw [← hb]; exact hl) (by rw [← hb]; exact hd) rfl, ← eD, nvF_c (b := b) (b' := b') _ _ _ (fun j a c => h j (by omega) (he.2.2 j a (by omega)).1)]
      | inr hd =>
        rw [tok_sg hp q hl hd, tok_sg hp' q (by rw [← hb]; exact hl) (by rw [← hb]; exact hd), ← hb, ← h2]
theorem tkF_c {b b' : Int → Int} {n : Int} (h : ∀ i, 0 ≤ i → i < n → b i = b' i) : ∀ (k : Nat) (a : Int), 0 ≤ a → a ≤ n → tkF b n k a = tkF b' n k a
  | 0, a, h0, _ => by simp only [tkF]; rw [tok_c h h0]
  | k + 1, a, h0, hn => by
    have ht := tok_in (b := b) h0 hn
    simp only [tkF]
    rw [← tok_c h h0]
    by_cases q : (tok b n a).1.1 = 37
    · rw [if_pos q, if_pos q]
    · rw [if_neg q, if_neg q, tkF_c h k _ (by have := ht.2.2.2.2.1 q; omega) ht.2.2.2.1]
theorem tkl_c {b b' : Int → Int} {n a : Int} (h : ∀ i, 0 ≤ i → i < n → b i = b' i) (h0 : 0 ≤ a) (hn : a ≤ n) : tkl b n a = tkl b' n a := tkF_c h _ a h0 hn

