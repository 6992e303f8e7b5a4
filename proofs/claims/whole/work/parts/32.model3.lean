/-! ===== the reference's lands as they change ===== -/
def ydm (σ : Sg) (s : Int) : Yd := (mF σ s, mL σ s, mD σ s, σ.1 104 s, σ.1 102 s)
/-- all lands but one are as they were -/
def Oth (σ σ' : Sg) (s : Int) : Prop := ∀ u, u ≠ s → (∀ i, 0 ≤ i → i < 16 → mF σ' u i = mF σ u i ∧ mK σ' u i = mK σ u i) ∧ (∀ i, 0 ≤ i → i < 6 → mL σ' u i = mL σ u i ∧ mD σ' u i = mD σ u i) ∧ σ'.1 104 u = σ.1 104 u ∧ σ'.1 102 u = σ.1 102 u ∧ σ'.1 103 u = σ.1 103 u
theorem Oth.rf (σ : Sg) (s : Int) : Oth σ σ s := fun _ _ => ⟨fun _ _ _ => ⟨rfl, rfl⟩, fun _ _ _ => ⟨rfl, rfl⟩, rfl, rfl, rfl⟩
theorem Oth.tr {σ τ σ' : Sg} {s : Int} (h : Oth σ τ s) (h' : Oth τ σ' s) : Oth σ σ' s := fun u hu => by
  obtain ⟨a1, a2, a3, a4, a5⟩ := h u hu
  obtain ⟨b1, b2, b3, b4, b5⟩ := h' u hu
  exact ⟨fun i p q => ⟨(b1 i p q).1.trans (a1 i p q).1, (b1 i p q).2.trans (a1 i p q).2⟩, fun i p q => ⟨(b2 i p q).1.trans (a2 i p q).1, (b2 i p q).2.trans (a2 i p q).2⟩, b3.trans a3, b4.trans a4, b5.trans a5⟩
theorem Oth.fr {C : List Nat} {F : List Int} {σ τ τ' : Sg} {s : Int} (h : Oth σ τ s) (hF : Fm C F τ τ') (hC : ∀ a, 102 ≤ a → a ≤ 108 → a ∉ 82 :: C) : Oth σ τ' s := h.tr (fun u _ => ⟨fun i _ _ => ⟨hF.e1 (hC 105 (by decide) (by decide)) _, hF.e1 (hC 106 (by decide) (by decide)) _⟩, fun i _ _ => ⟨hF.e1 (hC 107 (by decide) (by decide)) _, hF.e1 (hC 108 (by decide) (by decide)) _⟩, hF.e1 (hC 104 (by decide) (by decide)) _, hF.e1 (hC 102 (by decide) (by decide)) _, hF.e1 (hC 103 (by decide) (by decide)) _⟩)
theorem Oth.s16 {σ τ : Sg} {s : Int} (h : Oth σ τ s) {a : Nat} (ha : a = 105 ∨ a = 106) {t : Int} (h0 : 0 ≤ t) (h1 : t < 16) (v : Int) : Oth σ (sI τ a (16 * s + t) v) s := h.tr (fun u hu => by
  refine ⟨fun i p q => ⟨?_, ?_⟩, fun i p q => ⟨?_, ?_⟩, ?_, ?_, ?_⟩
  · unfold mF; rw [sI_1, if_neg (by omega)]
  · unfold mK; rw [sI_1, if_neg (by omega)]
  · unfold mL; rw [sI_1, if_neg (by omega)]
  · unfold mD; rw [sI_1, if_neg (by omega)]
  all_goals (rw [sI_1, if_neg (by omega)]))
theorem Oth.s6 {σ τ : Sg} {s : Int} (h : Oth σ τ s) {a : Nat} (ha : a = 107 ∨ a = 108) {t : Int} (h0 : 0 ≤ t) (h1 : t < 6) (v : Int) : Oth σ (sI τ a (6 * s + t) v) s := h.tr (fun u hu => by
  refine ⟨fun i p q => ⟨?_, ?_⟩, fun i p q => ⟨?_, ?_⟩, ?_, ?_, ?_⟩
  · unfold mF; rw [sI_1, if_neg (by omega)]
  · unfold mK; rw [sI_1, if_neg (by omega)]
  · unfold mL; rw [sI_1, if_neg (by omega)]
  · unfold mD; rw [sI_1, if_neg (by omega)]
  all_goals (rw [sI_1, if_neg (by omega)]))
theorem Oth.s1 {σ τ : Sg} {s : Int} (h : Oth σ τ s) {a : Nat} (ha : a = 102 ∨ a = 103 ∨ a = 104) (v : Int) : Oth σ (sI τ a s v) s := h.tr (fun u hu => by
  refine ⟨fun i p q => ⟨?_, ?_⟩, fun i p q => ⟨?_, ?_⟩, ?_, ?_, ?_⟩
  · unfold mF; rw [sI_1, if_neg (by omega)]
  · unfold mK; rw [sI_1, if_neg (by omega)]
  · unfold mL; rw [sI_1, if_neg (by omega)]
  · unfold mD; rw [sI_1, if_neg (by omega)]
  all_goals (rw [sI_1, if_neg (by omega)]))
theorem mF_uf (σ : Sg) (s t v : Int) : mF (sI σ 105 (16 * s + t) v) s = uf (mF σ s) t v := by
  funext i
  unfold mF uf
  rw [sI_1]
  by_cases h : i = t
  · rw [if_pos ⟨rfl, by omega⟩, if_pos h]
  · rw [if_neg (by omega), if_neg h]
theorem mL_uf (σ : Sg) (s t v : Int) : mL (sI σ 107 (6 * s + t) v) s = uf (mL σ s) t v := by
  funext i
  unfold mL uf
  rw [sI_1]
  by_cases h : i = t
  · rw [if_pos ⟨rfl, by omega⟩, if_pos h]
  · rw [if_neg (by omega), if_neg h]
theorem mD_uf (σ : Sg) (s t v : Int) : mD (sI σ 108 (6 * s + t) v) s = uf (mD σ s) t v := by
  funext i
  unfold mD uf
  rw [sI_1]
  by_cases h : i = t
  · rw [if_pos ⟨rfl, by omega⟩, if_pos h]
  · rw [if_neg (by omega), if_neg h]
theorem mF_ne (σ : Sg) (s : Int) {a : Nat} (h : a ≠ 105) (j v : Int) : mF (sI σ a j v) s = mF σ s := by unfold mF; rw [sI_ne _ (fun q => h q.symm)]
theorem mK_ne (σ : Sg) (s : Int) {a : Nat} (h : a ≠ 106) (j v : Int) : mK (sI σ a j v) s = mK σ s := by unfold mK; rw [sI_ne _ (fun q => h q.symm)]
theorem mL_ne (σ : Sg) (s : Int) {a : Nat} (h : a ≠ 107) (j v : Int) : mL (sI σ a j v) s = mL σ s := by unfold mL; rw [sI_ne _ (fun q => h q.symm)]
theorem mD_ne (σ : Sg) (s : Int) {a : Nat} (h : a ≠ 108) (j v : Int) : mD (sI σ a j v) s = mD σ s := by unfold mD; rw [sI_ne _ (fun q => h q.symm)]
/-- one of the reference's lands goes on -/
def Mp (σ σ' : Sg) (s : Int) (y : Yd) : Prop := Fm [100, 101, 102, 104, 105, 107, 108] [34] σ σ' ∧ ydm σ' s = y ∧ Oth σ σ' s ∧ MI σ' s ∧ (∀ i, 0 ≤ i → i < 7 → R64 (σ.2 100 i) → True)
theorem Mp.tr {σ τ σ' : Sg} {s : Int} {y y' : Yd} (h : Mp σ τ s y) (h' : Mp τ σ' s y') : Mp σ σ' s y' := ⟨h.1.tr h'.1, h'.2.1, h.2.2.1.tr h'.2.2.1, h'.2.2.2.1, fun _ _ _ _ => trivial⟩
theorem Mp.rf {σ : Sg} {s : Int} (h : MI σ s) : Mp σ σ s (ydm σ s) := ⟨Fm.rf _ _ _, rfl, Oth.rf _ _, h, fun _ _ _ _ => trivial⟩
theorem Mp.far {σ τ : Sg} {s : Int} {y : Yd} (h : Mp σ τ s y) {V t : Int} (h0 : 0 ≤ t) (h1 : t < 16) (hV : 0 ≤ V ∧ V ≤ 39) : Mp σ (sI τ 105 (16 * s + t) V) s (uf y.1 t V, y.2) := by
  obtain ⟨f, rfl, ot, mi, -⟩ := h
  refine ⟨f.si (by decide) (by decide) _ _, ?_, ot.s16 (Or.inl rfl) h0 h1 V, ?_, fun _ _ _ _ => trivial⟩
  · unfold ydm
    rw [mF_uf, mL_ne _ _ (by decide), mD_ne _ _ (by decide), sI_ne _ (by decide), sI_ne _ (by decide)]
  · unfold MI
    rw [mF_uf, mK_ne _ _ (by decide), mL_ne _ _ (by decide), mD_ne _ _ (by decide), sI_ne _ (by decide), sI_ne _ (by decide), sI_ne _ (by decide)]
    refine ⟨fun i a b => ?_, mi.2⟩
    have q := mi.1 i a b
    have r := uf_in (k := t) (i := i) (f := mF τ s) ⟨q.1, q.2.1⟩ hV
    exact ⟨r.1, r.2, q.2.2⟩
theorem Mp.legs {σ τ : Sg} {s : Int} {y : Yd} (h : Mp σ τ s y) {V t : Int} (h0 : 0 ≤ t) (h1 : t < 6) (hV : 0 ≤ V ∧ V ≤ 30) : Mp σ (sI τ 107 (6 * s + t) V) s (y.1, uf y.2.1 t V, y.2.2) := by
  obtain ⟨f, rfl, ot, mi, -⟩ := h
  refine ⟨f.si (by decide) (by decide) _ _, ?_, ot.s6 (Or.inl rfl) h0 h1 V, ?_, fun _ _ _ _ => trivial⟩
  · unfold ydm
    rw [mL_uf, mF_ne _ _ (by decide), mD_ne _ _ (by decide), sI_ne _ (by decide), sI_ne _ (by decide)]
  · unfold MI
    rw [mL_uf, mF_ne _ _ (by decide), mK_ne _ _ (by decide), mD_ne _ _ (by decide), sI_ne _ (by decide), sI_ne _ (by decide), sI_ne _ (by decide)]
    refine ⟨mi.1, fun i a b => ?_, mi.2.2⟩
    have q := mi.2.1 i a b
    have r := uf_in (k := t) (i := i) (f := mL τ s) ⟨q.1, q.2.1⟩ hV
    exact ⟨r.1, r.2, q.2.2⟩
theorem Mp.tired {σ τ : Sg} {s : Int} {y : Yd} (h : Mp σ τ s y) {V t : Int} (h0 : 0 ≤ t) (h1 : t < 6) (hV : 0 ≤ V ∧ V ≤ 99) : Mp σ (sI τ 108 (6 * s + t) V) s (y.1, y.2.1, uf y.2.2.1 t V, y.2.2.2) := by
  obtain ⟨f, rfl, ot, mi, -⟩ := h
  refine ⟨f.si (by decide) (by decide) _ _, ?_, ot.s6 (Or.inr rfl) h0 h1 V, ?_, fun _ _ _ _ => trivial⟩
  · unfold ydm
    rw [mD_uf, mF_ne _ _ (by decide), mL_ne _ _ (by decide), sI_ne _ (by decide), sI_ne _ (by decide)]
  · unfold MI
    rw [mD_uf, mF_ne _ _ (by decide), mK_ne _ _ (by decide), mL_ne _ _ (by decide), sI_ne _ (by decide), sI_ne _ (by decide), sI_ne _ (by decide)]
    refine ⟨mi.1, fun i a b => ?_, mi.2.2⟩
    have q := mi.2.1 i a b
    have r := uf_in (k := t) (i := i) (f := mD τ s) ⟨q.2.2.1, q.2.2.2⟩ hV
    exact ⟨q.1, q.2.1, r.1, r.2⟩
theorem Mp.quar {σ τ : Sg} {s : Int} {y : Yd} (h : Mp σ τ s y) {V : Int} (hV : 0 ≤ V ∧ V ≤ 99999) : Mp σ (sI τ 104 s V) s (y.1, y.2.1, y.2.2.1, V, y.2.2.2.2) := by
  obtain ⟨f, rfl, ot, mi, -⟩ := h
  refine ⟨f.si (by decide) (by decide) _ _, ?_, ot.s1 (Or.inr (Or.inr rfl)) V, ?_, fun _ _ _ _ => trivial⟩
  · unfold ydm
    rw [mF_ne _ _ (by decide), mL_ne _ _ (by decide), mD_ne _ _ (by decide), sI_1, if_pos ⟨rfl, rfl⟩, sI_1, if_neg (by omega)]
  · unfold MI
    rw [mF_ne _ _ (by decide), mK_ne _ _ (by decide), mL_ne _ _ (by decide), mD_ne _ _ (by decide), sI_ne (a := 102) _ (by decide), sI_ne (a := 103) _ (by decide), sI_1, if_pos ⟨rfl, rfl⟩]
    exact ⟨mi.1, mi.2.1, hV, mi.2.2.2⟩
theorem Mp.year {σ τ : Sg} {s : Int} {y : Yd} (h : Mp σ τ s y) {V : Int} (hV : 0 ≤ V ∧ V ≤ 100000) : Mp σ (sI τ 102 s V) s (y.1, y.2.1, y.2.2.1, y.2.2.2.1, V) := by
  obtain ⟨f, rfl, ot, mi, -⟩ := h
  refine ⟨f.si (by decide) (by decide) _ _, ?_, ot.s1 (Or.inl rfl) V, ?_, fun _ _ _ _ => trivial⟩
  · unfold ydm
    rw [mF_ne _ _ (by decide), mL_ne _ _ (by decide), mD_ne _ _ (by decide), sI_1, if_neg (by omega), sI_1, if_pos ⟨rfl, rfl⟩]
  · unfold MI
    rw [mF_ne _ _ (by decide), mK_ne _ _ (by decide), mL_ne _ _ (by decide), mD_ne _ _ (by decide), sI_ne (a := 104) _ (by decide), sI_ne (a := 103) _ (by decide), sI_1, if_pos ⟨rfl, rfl⟩]
    exact ⟨mi.1, mi.2.1, mi.2.2.1, hV, mi.2.2.2.2⟩
theorem MI.fr {C : List Nat} {F : List Int} {σ τ : Sg} {s : Int} (h : MI σ s) (hF : Fm C F σ τ) (hC : ∀ a, 102 ≤ a → a ≤ 108 → a ∉ 82 :: C) : MI τ s := by
  unfold MI mF mK mL mD
  rw [hF.c (hC 102 (by decide) (by decide)), hF.c (hC 103 (by decide) (by decide)), hF.c (hC 104 (by decide) (by decide)), hF.c (hC 105 (by decide) (by decide)), hF.c (hC 106 (by decide) (by decide)), hF.c (hC 107 (by decide) (by decide)), hF.c (hC 108 (by decide) (by decide))]
  exact h
theorem ydm.fr {C : List Nat} {F : List Int} {σ τ : Sg} (hF : Fm C F σ τ) (hC : ∀ a, 102 ≤ a → a ≤ 108 → a ∉ 82 :: C) (s : Int) : ydm τ s = ydm σ s := by
  unfold ydm mF mL mD
  rw [hF.c (hC 102 (by decide) (by decide)), hF.c (hC 104 (by decide) (by decide)), hF.c (hC 105 (by decide) (by decide)), hF.c (hC 107 (by decide) (by decide)), hF.c (hC 108 (by decide) (by decide))]
theorem MT.fr {C : List Nat} {F : List Int} {σ τ : Sg} (h : MT σ) (hF : Fm C F σ τ) (hC : ∀ a, 84 ≤ a → a ≤ 95 → a ∉ 82 :: C) : MT τ := by
  unfold MT
  rw [hF.c (hC 84 (by decide) (by decide)), hF.c (hC 85 (by decide) (by decide)), hF.c (hC 86 (by decide) (by decide)), hF.c (hC 87 (by decide) (by decide)), hF.c (hC 88 (by decide) (by decide)), hF.c (hC 89 (by decide) (by decide)), hF.c (hC 90 (by decide) (by decide)), hF.c (hC 91 (by decide) (by decide)), hF.c (hC 92 (by decide) (by decide)), hF.c (hC 93 (by decide) (by decide)), hF.c (hC 94 (by decide) (by decide)), hF.c (hC 95 (by decide) (by decide))]
  exact h
theorem mCode.fr {C : List Nat} {F : List Int} {σ τ : Sg} (hF : Fm C F σ τ) (h1 : 98 ∉ 82 :: C) (h2 : 99 ∉ 82 :: C) : mCode τ = mCode σ := by
  unfold mCode
  rw [hF.c h1, hF.c h2]
theorem MW.fr {C : List Nat} {F : List Int} {σ τ : Sg} (h : MW σ) (hF : Fm C F σ τ) (hC : ∀ a, 96 ≤ a → a ≤ 99 → a ∉ 82 :: C) : MW τ := by
  intro r r0 r3
  have q := h r r0 r3
  unfold mKn at q ⊢
  rw [mCode.fr hF (hC 98 (by decide) (by decide)) (hC 99 (by decide) (by decide)), hF.c (hC 96 (by decide) (by decide)), hF.c (hC 97 (by decide) (by decide)), hF.c (hC 98 (by decide) (by decide)), hF.c (hC 99 (by decide) (by decide))]
  exact q
theorem mLaw.fr {C : List Nat} {F : List Int} {σ τ : Sg} (hF : Fm C F σ τ) (hC : ∀ a, 96 ≤ a → a ≤ 99 → a ∉ 82 :: C) : mLaw τ = mLaw σ := by
  funext r nm
  unfold mLaw
  rw [mCode.fr hF (hC 98 (by decide) (by decide)) (hC 99 (by decide) (by decide)), hF.c (hC 96 (by decide) (by decide)), hF.c (hC 97 (by decide) (by decide))]
theorem mLaw_nm {σ : Sg} {nm nm' : Int → Int} (h : ∀ i, 0 ≤ i → i < 7 → nm i = nm' i) (r : Int) : mLaw σ r nm = mLaw σ r nm' := evLaw_nm h _ _ _
theorem mk_knot {σ : Sg} {k : Int} (h : mKn σ k) : isKnot (mCode σ k) := by
  unfold mKn at h
  unfold isKnot mCode
  rcases h with ⟨a, b, c⟩ | ⟨a, b, c⟩ | ⟨a, b⟩
  · rw [if_pos a]; omega
  · rw [if_neg (by omega), if_pos a]; omega
  · rw [if_neg (by omega), if_neg (by omega), Int.neg_neg]
    rcases b with b | b
    · rw [b]; exact Or.inr (Or.inl (by decide))
    · exact Or.inr (Or.inr (sg_bin b).1)
theorem mLaw_lim {σ : Sg} (hW : MW σ) {r : Int} (h0 : 0 ≤ r) (h1 : r < 3) {nm : Int → Int} (hn : ∀ i, 0 ≤ i → i < 7 → -1000000000000 ≤ nm i ∧ nm i ≤ 1000000000000) : mLaw σ r nm = -9223372036854775808 ∨ (-1000000000000 ≤ mLaw σ r nm ∧ mLaw σ r nm ≤ 1000000000000) := evLaw_lim hn (fun k a b => mk_knot ((hW r h0 h1).2.2.2.1 k a b))
theorem mLaw_no {σ : Sg} (hW : MW σ) {r : Int} (h0 : 0 ≤ r) (h1 : r < 3) (h : ¬ σ.1 96 r < σ.1 97 r) (nm : Int → Int) : mLaw σ r nm = -9223372036854775808 := by
  have q := (hW r h0 h1).2.1
  unfold mLaw evLaw
  rw [show (σ.1 97 r - σ.1 96 r).toNat = 0 by omega]
  rfl
theorem nm7m {σ : Sg} {a b c d e f g : Int} (i : Int) (h0 : 0 ≤ i) (h1 : i < 7) : (sJ (sJ (sJ (sJ (sJ (sJ (sJ σ 100 0 a) 100 1 b) 100 2 c) 100 3 d) 100 4 e) 100 5 f) 100 6 g).2 100 i = nmF a b c d e f g i := by
  have : i = 0 ∨ i = 1 ∨ i = 2 ∨ i = 3 ∨ i = 4 ∨ i = 5 ∨ i = 6 := by omega
  rcases this with rfl | rfl | rfl | rfl | rfl | rfl | rfl <;> rfl
def mEd (σ : Sg) : Int → Int := fun t => gEdge (σ.1 86) (σ.1 87) (σ.1 84 0) (t / 4) (t % 4)
def mBs (σ : Sg) : Int → Int := fun k => 4 * σ.1 92 k + σ.1 94 k
def mCk (σ : Sg) (s : Int) : Int → Int := fun i => if σ.1 82 44 = 3 then 0 else mK σ s i
def mUn (σ : Sg) : Int := if σ.1 82 44 = 2 then σ.1 82 45 else -1
def mTl (σ : Sg) : Int := if σ.1 82 44 = 4 then 1 else 0
def mWt (σ : Sg) (b : Int) : Int := if σ.1 82 44 = 5 then 2 else if σ.1 82 44 = 1 then 3 else if b = 0 then 0 else 1
def MB (σ : Sg) : Prop := ∀ i, 0 ≤ i → i < σ.1 84 3 → σ.1 92 i < σ.1 84 1 ∧ σ.1 93 i < σ.1 84 2
theorem mEd_in {σ : Sg} (hT : MT σ) {s : Int} (h0 : 0 ≤ s) (h1 : s < 4 * σ.1 84 1) : 0 ≤ mEd σ s ∧ mEd σ s ≤ 39 := by
  obtain ⟨hz, hn, -, -, -, -, hr, hq, -⟩ := hT
  have a := hr (s / 4) (by omega) (by omega)
  have b := hq (s / 4) (by omega) (by omega)
  unfold mEd gEdge
  split
  · omega
  split
  · omega
  split <;> omega

theorem c_X12_callsC {G : Gx} {σ : Sg} {s c sw wt fa : Int} (hT : MT σ) (hI : MI σ s) (hs0 : 0 ≤ s) (hs1 : s < 23) (hc : 0 ≤ c) (hc6 : c < 6) (hsw : R32 sw) (hwt : wt = 0 ∨ wt = 1) (hfa : R32 fa) : Con G 1 mX12_calls [.ref (G.2.2.2 + 82), .int (iZ s), .int (iZ c), .int (iZ sw), .int (iZ wt), .int (iZ fa)] σ (pV (fun σ' => σ'.1 = σ.1 ∧ Fr [100] σ σ' ∧ ∀ i, 0 ≤ i → i < 7 → σ'.2 100 i = nmF (mL σ s c) (σ.1 91 c) (mD σ s c) sw wt fa (σ.1 102 s) i)) := by
  obtain ⟨hzz, hnp, hnc, hnb, hrn, hsd, hrw, hrq, hch, hbt, hck⟩ := id hT
  have h107 : 0 ≤ σ.1 107 (6 * s + c) ∧ σ.1 107 (6 * s + c) ≤ 30 ∧ 0 ≤ σ.1 108 (6 * s + c) ∧ σ.1 108 (6 * s + c) ≤ 99 := hI.2.1 c hc hc6
  have hmd := hch c hc hc6
  have hye : 0 ≤ σ.1 102 s ∧ σ.1 102 s ≤ 100000 := hI.2.2.2.1
  refine e_entry om_X12_calls (Nat.le_of_ble_eq_true rfl) (L := [some (.ref (G.2.2.2 + 82)), some (.int (iZ s)), some (.int (iZ c)), some (.int (iZ sw)), some (.int (iZ wt)), some (.int (iZ fa))]) rfl ?_
  refine e_aload_n (q := 1) (i := 0) dX12_calls_0 rfl rfl rfl ?_
  refine e_getR (q := 4) dX12_calls_1 rfl fg_X12_65 (by first | assumption | rfl) rfl ?_
  refine e_iconst (q := 5) dX12_calls_4 rfl ?_
  refine e_iload_n (q := 6) (i := 2) dX12_calls_5 rfl rfl rfl ?_
  refine e_iconst (q := 7) dX12_calls_6 rfl ?_
  refine e_icmp_ne (q := 10) (tgt := 14) dX12_calls_7 rfl (by decide) (fun c7 => ?_) (fun c7 => by exfalso; omega)
  refine e_aload_n (q := 15) (i := 0) dX12_calls_14 rfl rfl rfl ?_
  refine e_getR (q := 18) dX12_calls_15 rfl fg_X12_87 (by first | assumption | rfl) rfl ?_
  refine e_bipush (q := 20) dX12_calls_18 rfl (by decide) ?_
  refine e_iload_n (q := 21) (i := 1) dX12_calls_20 rfl rfl rfl ?_
  refine e_imul (q := 22) dX12_calls_21 rfl ?_
  refine e_iload_n (q := 23) (i := 2) dX12_calls_22 rfl rfl rfl ?_
  refine e_iadd (q := 24) dX12_calls_23 rfl ?_
  refine e_iald (q := 25) dX12_calls_24 rfl (by first | assumption | rfl) ?_
  refine e_i2l (q := 26) dX12_calls_25 rfl ⟨by omega, by omega⟩ ?_
  refine e_last (q := 27) dX12_calls_26 rfl (by first | assumption | rfl) ?_
  refine e_aload_n (q := 28) (i := 0) dX12_calls_27 rfl rfl rfl ?_
  refine e_getR (q := 31) dX12_calls_28 rfl fg_X12_65 (by first | assumption | rfl) rfl ?_
  refine e_iconst (q := 32) dX12_calls_31 rfl ?_
  refine e_iload_n (q := 33) (i := 2) dX12_calls_32 rfl rfl rfl ?_
  refine e_iconst (q := 34) dX12_calls_33 rfl ?_
  refine e_icmp_ne (q := 37) (tgt := 41) dX12_calls_34 rfl (by decide) (fun c34 => ?_) (fun c34 => by exfalso; omega)
  refine e_aload_n (q := 42) (i := 0) dX12_calls_41 rfl rfl rfl ?_
  refine e_getR (q := 45) dX12_calls_42 rfl fg_X12_34 (by first | assumption | rfl) rfl ?_
  refine e_iload_n (q := 46) (i := 2) dX12_calls_45 rfl rfl rfl ?_
  refine e_iald (q := 47) dX12_calls_46 rfl (by first | assumption | rfl) ?_
  refine e_i2l (q := 48) dX12_calls_47 rfl ⟨by rw [sJ_1]; omega, by rw [sJ_1]; omega⟩ ?_
  refine e_last (q := 49) dX12_calls_48 rfl (by first | assumption | rfl) ?_
  refine e_aload_n (q := 50) (i := 0) dX12_calls_49 rfl rfl rfl ?_
  refine e_getR (q := 53) dX12_calls_50 rfl fg_X12_65 (by first | assumption | rfl) rfl ?_
  refine e_iconst (q := 54) dX12_calls_53 rfl ?_
  refine e_iload_n (q := 55) (i := 2) dX12_calls_54 rfl rfl rfl ?_
  refine e_iconst (q := 56) dX12_calls_55 rfl ?_
  refine e_icmp_ne (q := 59) (tgt := 63) dX12_calls_56 rfl (by decide) (fun c56 => ?_) (fun c56 => by exfalso; omega)
  refine e_aload_n (q := 64) (i := 0) dX12_calls_63 rfl rfl rfl ?_
  refine e_getR (q := 67) dX12_calls_64 rfl fg_X12_90 (by first | assumption | rfl) rfl ?_
  refine e_bipush (q := 69) dX12_calls_67 rfl (by decide) ?_
  refine e_iload_n (q := 70) (i := 1) dX12_calls_69 rfl rfl rfl ?_
  refine e_imul (q := 71) dX12_calls_70 rfl ?_
  refine e_iload_n (q := 72) (i := 2) dX12_calls_71 rfl rfl rfl ?_
  refine e_iadd (q := 73) dX12_calls_72 rfl ?_
  refine e_iald (q := 74) dX12_calls_73 rfl (by first | assumption | rfl) ?_
  refine e_i2l (q := 75) dX12_calls_74 rfl ⟨by simp only [sJ_1]; omega, by simp only [sJ_1]; omega⟩ ?_
  refine e_last (q := 76) dX12_calls_75 rfl (by first | assumption | rfl) ?_
  refine e_aload_n (q := 77) (i := 0) dX12_calls_76 rfl rfl rfl ?_
  refine e_getR (q := 80) dX12_calls_77 rfl fg_X12_65 (by first | assumption | rfl) rfl ?_
  refine e_iconst (q := 81) dX12_calls_80 rfl ?_
  refine e_iload_n (q := 82) (i := 3) dX12_calls_81 rfl rfl rfl ?_
  refine e_i2l (q := 83) dX12_calls_82 rfl (by first | assumption | exact ⟨by omega, by omega⟩) ?_
  refine e_last (q := 84) dX12_calls_83 rfl (by first | assumption | rfl) ?_
  refine e_aload_n (q := 85) (i := 0) dX12_calls_84 rfl rfl rfl ?_
  refine e_getR (q := 88) dX12_calls_85 rfl fg_X12_65 (by first | assumption | rfl) rfl ?_
  refine e_iconst (q := 89) dX12_calls_88 rfl ?_
  refine e_iload (q := 91) dX12_calls_89 rfl rfl ?_
  refine e_if_eq (q := 94) (tgt := 98) dX12_calls_91 rfl (by decide) (fun c91 => ?_) (fun c91 => ?_)
  · refine e_lconst (q := 99) (z := 0) dX12_calls_98 rfl (by decide) ?_
    refine e_last (q := 100) dX12_calls_99 rfl (by first | assumption | rfl) ?_
    refine e_aload_n (q := 101) (i := 0) dX12_calls_100 rfl rfl rfl ?_
    refine e_getR (q := 104) dX12_calls_101 rfl fg_X12_65 (by first | assumption | rfl) rfl ?_
    refine e_iconst (q := 105) dX12_calls_104 rfl ?_
    refine e_iload (q := 107) dX12_calls_105 rfl rfl ?_
    refine e_i2l (q := 108) dX12_calls_107 rfl (by first | assumption | exact ⟨by omega, by omega⟩) ?_
    refine e_last (q := 109) dX12_calls_108 rfl (by first | assumption | rfl) ?_
    refine e_aload_n (q := 110) (i := 0) dX12_calls_109 rfl rfl rfl ?_
    refine e_getR (q := 113) dX12_calls_110 rfl fg_X12_65 (by first | assumption | rfl) rfl ?_
    refine e_bipush (q := 115) dX12_calls_113 rfl (by decide) ?_
    refine e_aload_n (q := 116) (i := 0) dX12_calls_115 rfl rfl rfl ?_
    refine e_getR (q := 119) dX12_calls_116 rfl fg_X12_72 (by first | assumption | rfl) rfl ?_
    refine e_iload_n (q := 120) (i := 1) dX12_calls_119 rfl rfl rfl ?_
    refine e_iald (q := 121) dX12_calls_120 rfl (by first | assumption | rfl) ?_
    refine e_i2l (q := 122) dX12_calls_121 rfl ⟨by simp only [sJ_1]; omega, by simp only [sJ_1]; omega⟩ ?_
    refine e_last (q := 123) dX12_calls_122 rfl (by first | assumption | rfl) ?_
    exact r_v dX12_calls_123 rfl ⟨rfl, (((((((Fr.rf _ σ).sJ (by decide) _ _).sJ (by decide) _ _).sJ (by decide) _ _).sJ (by decide) _ _).sJ (by decide) _ _).sJ (by decide) _ _).sJ (by decide) _ _, fun i a b => by rw [nm7m i a b]; first | rfl | (rw [show wt = 1 by omega]; rfl) | (rw [c91]; rfl)⟩
  · refine e_lconst (q := 95) (z := 1) dX12_calls_94 rfl (by decide) ?_
    refine e_goto (tgt := 99) dX12_calls_95 (by decide) ?_
    refine e_last (q := 100) dX12_calls_99 rfl (by first | assumption | rfl) ?_
    refine e_aload_n (q := 101) (i := 0) dX12_calls_100 rfl rfl rfl ?_
    refine e_getR (q := 104) dX12_calls_101 rfl fg_X12_65 (by first | assumption | rfl) rfl ?_
    refine e_iconst (q := 105) dX12_calls_104 rfl ?_
    refine e_iload (q := 107) dX12_calls_105 rfl rfl ?_
    refine e_i2l (q := 108) dX12_calls_107 rfl (by first | assumption | exact ⟨by omega, by omega⟩) ?_
    refine e_last (q := 109) dX12_calls_108 rfl (by first | assumption | rfl) ?_
    refine e_aload_n (q := 110) (i := 0) dX12_calls_109 rfl rfl rfl ?_
    refine e_getR (q := 113) dX12_calls_110 rfl fg_X12_65 (by first | assumption | rfl) rfl ?_
    refine e_bipush (q := 115) dX12_calls_113 rfl (by decide) ?_
    refine e_aload_n (q := 116) (i := 0) dX12_calls_115 rfl rfl rfl ?_
    refine e_getR (q := 119) dX12_calls_116 rfl fg_X12_72 (by first | assumption | rfl) rfl ?_
    refine e_iload_n (q := 120) (i := 1) dX12_calls_119 rfl rfl rfl ?_
    refine e_iald (q := 121) dX12_calls_120 rfl (by first | assumption | rfl) ?_
    refine e_i2l (q := 122) dX12_calls_121 rfl ⟨by simp only [sJ_1]; omega, by simp only [sJ_1]; omega⟩ ?_
    refine e_last (q := 123) dX12_calls_122 rfl (by first | assumption | rfl) ?_
    exact r_v dX12_calls_123 rfl ⟨rfl, (((((((Fr.rf _ σ).sJ (by decide) _ _).sJ (by decide) _ _).sJ (by decide) _ _).sJ (by decide) _ _).sJ (by decide) _ _).sJ (by decide) _ _).sJ (by decide) _ _, fun i a b => by rw [nm7m i a b]; first | rfl | (rw [show wt = 1 by omega]; rfl) | (rw [c91]; rfl)⟩

theorem c_X12_callsN {G : Gx} {σ : Sg} {s sw wt fa : Int} (hT : MT σ) (hI : MI σ s) (hs0 : 0 ≤ s) (hs1 : s < 23) (hsw : R32 sw) (hwt : wt = 0 ∨ wt = 1) (hfa : R32 fa) : Con G 1 mX12_calls [.ref (G.2.2.2 + 82), .int (iZ s), .int (iZ (-1)), .int (iZ sw), .int (iZ wt), .int (iZ fa)] σ (pV (fun σ' => σ'.1 = σ.1 ∧ Fr [100] σ σ' ∧ ∀ i, 0 ≤ i → i < 7 → σ'.2 100 i = nmF 0 0 0 sw wt fa (σ.1 102 s) i)) := by
  obtain ⟨hzz, hnp, hnc, hnb, hrn, hsd, hrw, hrq, hch, hbt, hck⟩ := id hT
  have hye : 0 ≤ σ.1 102 s ∧ σ.1 102 s ≤ 100000 := hI.2.2.2.1
  refine e_entry om_X12_calls (Nat.le_of_ble_eq_true rfl) (L := [some (.ref (G.2.2.2 + 82)), some (.int (iZ s)), some (.int (iZ (-1))), some (.int (iZ sw)), some (.int (iZ wt)), some (.int (iZ fa))]) rfl ?_
  refine e_aload_n (q := 1) (i := 0) dX12_calls_0 rfl rfl rfl ?_
  refine e_getR (q := 4) dX12_calls_1 rfl fg_X12_65 (by first | assumption | rfl) rfl ?_
  refine e_iconst (q := 5) dX12_calls_4 rfl ?_
  refine e_iload_n (q := 6) (i := 2) dX12_calls_5 rfl rfl rfl ?_
  refine e_iconst (q := 7) dX12_calls_6 rfl ?_
  refine e_icmp_ne (q := 10) (tgt := 14) dX12_calls_7 rfl (by decide) (fun c7 => by exfalso; omega) (fun c7 => ?_)
  refine e_lconst (q := 11) (z := 0) dX12_calls_10 rfl (by decide) ?_
  refine e_goto (tgt := 26) dX12_calls_11 (by decide) ?_
  refine e_last (q := 27) dX12_calls_26 rfl (by first | assumption | rfl) ?_
  refine e_aload_n (q := 28) (i := 0) dX12_calls_27 rfl rfl rfl ?_
  refine e_getR (q := 31) dX12_calls_28 rfl fg_X12_65 (by first | assumption | rfl) rfl ?_
  refine e_iconst (q := 32) dX12_calls_31 rfl ?_
  refine e_iload_n (q := 33) (i := 2) dX12_calls_32 rfl rfl rfl ?_
  refine e_iconst (q := 34) dX12_calls_33 rfl ?_
  refine e_icmp_ne (q := 37) (tgt := 41) dX12_calls_34 rfl (by decide) (fun c34 => by exfalso; omega) (fun c34 => ?_)
  refine e_lconst (q := 38) (z := 0) dX12_calls_37 rfl (by decide) ?_
  refine e_goto (tgt := 48) dX12_calls_38 (by decide) ?_
  refine e_last (q := 49) dX12_calls_48 rfl (by first | assumption | rfl) ?_
  refine e_aload_n (q := 50) (i := 0) dX12_calls_49 rfl rfl rfl ?_
  refine e_getR (q := 53) dX12_calls_50 rfl fg_X12_65 (by first | assumption | rfl) rfl ?_
  refine e_iconst (q := 54) dX12_calls_53 rfl ?_
  refine e_iload_n (q := 55) (i := 2) dX12_calls_54 rfl rfl rfl ?_
  refine e_iconst (q := 56) dX12_calls_55 rfl ?_
  refine e_icmp_ne (q := 59) (tgt := 63) dX12_calls_56 rfl (by decide) (fun c56 => by exfalso; omega) (fun c56 => ?_)
  refine e_lconst (q := 60) (z := 0) dX12_calls_59 rfl (by decide) ?_
  refine e_goto (tgt := 75) dX12_calls_60 (by decide) ?_
  refine e_last (q := 76) dX12_calls_75 rfl (by first | assumption | rfl) ?_
  refine e_aload_n (q := 77) (i := 0) dX12_calls_76 rfl rfl rfl ?_
  refine e_getR (q := 80) dX12_calls_77 rfl fg_X12_65 (by first | assumption | rfl) rfl ?_
  refine e_iconst (q := 81) dX12_calls_80 rfl ?_
  refine e_iload_n (q := 82) (i := 3) dX12_calls_81 rfl rfl rfl ?_
  refine e_i2l (q := 83) dX12_calls_82 rfl (by first | assumption | exact ⟨by omega, by omega⟩) ?_
  refine e_last (q := 84) dX12_calls_83 rfl (by first | assumption | rfl) ?_
  refine e_aload_n (q := 85) (i := 0) dX12_calls_84 rfl rfl rfl ?_
  refine e_getR (q := 88) dX12_calls_85 rfl fg_X12_65 (by first | assumption | rfl) rfl ?_
  refine e_iconst (q := 89) dX12_calls_88 rfl ?_
  refine e_iload (q := 91) dX12_calls_89 rfl rfl ?_
  refine e_if_eq (q := 94) (tgt := 98) dX12_calls_91 rfl (by decide) (fun c91 => ?_) (fun c91 => ?_)
  · refine e_lconst (q := 99) (z := 0) dX12_calls_98 rfl (by decide) ?_
    refine e_last (q := 100) dX12_calls_99 rfl (by first | assumption | rfl) ?_
    refine e_aload_n (q := 101) (i := 0) dX12_calls_100 rfl rfl rfl ?_
    refine e_getR (q := 104) dX12_calls_101 rfl fg_X12_65 (by first | assumption | rfl) rfl ?_
    refine e_iconst (q := 105) dX12_calls_104 rfl ?_
    refine e_iload (q := 107) dX12_calls_105 rfl rfl ?_
    refine e_i2l (q := 108) dX12_calls_107 rfl (by first | assumption | exact ⟨by omega, by omega⟩) ?_
    refine e_last (q := 109) dX12_calls_108 rfl (by first | assumption | rfl) ?_
    refine e_aload_n (q := 110) (i := 0) dX12_calls_109 rfl rfl rfl ?_
    refine e_getR (q := 113) dX12_calls_110 rfl fg_X12_65 (by first | assumption | rfl) rfl ?_
    refine e_bipush (q := 115) dX12_calls_113 rfl (by decide) ?_
    refine e_aload_n (q := 116) (i := 0) dX12_calls_115 rfl rfl rfl ?_
    refine e_getR (q := 119) dX12_calls_116 rfl fg_X12_72 (by first | assumption | rfl) rfl ?_
    refine e_iload_n (q := 120) (i := 1) dX12_calls_119 rfl rfl rfl ?_
    refine e_iald (q := 121) dX12_calls_120 rfl (by first | assumption | rfl) ?_
    refine e_i2l (q := 122) dX12_calls_121 rfl ⟨by simp only [sJ_1]; omega, by simp only [sJ_1]; omega⟩ ?_
    refine e_last (q := 123) dX12_calls_122 rfl (by first | assumption | rfl) ?_
    exact r_v dX12_calls_123 rfl ⟨rfl, (((((((Fr.rf _ σ).sJ (by decide) _ _).sJ (by decide) _ _).sJ (by decide) _ _).sJ (by decide) _ _).sJ (by decide) _ _).sJ (by decide) _ _).sJ (by decide) _ _, fun i a b => by rw [nm7m i a b]; first | rfl | (rw [show wt = 1 by omega]; rfl) | (rw [c91]; rfl)⟩
  · refine e_lconst (q := 95) (z := 1) dX12_calls_94 rfl (by decide) ?_
    refine e_goto (tgt := 99) dX12_calls_95 (by decide) ?_
    refine e_last (q := 100) dX12_calls_99 rfl (by first | assumption | rfl) ?_
    refine e_aload_n (q := 101) (i := 0) dX12_calls_100 rfl rfl rfl ?_
    refine e_getR (q := 104) dX12_calls_101 rfl fg_X12_65 (by first | assumption | rfl) rfl ?_
    refine e_iconst (q := 105) dX12_calls_104 rfl ?_
    refine e_iload (q := 107) dX12_calls_105 rfl rfl ?_
    refine e_i2l (q := 108) dX12_calls_107 rfl (by first | assumption | exact ⟨by omega, by omega⟩) ?_
    refine e_last (q := 109) dX12_calls_108 rfl (by first | assumption | rfl) ?_
    refine e_aload_n (q := 110) (i := 0) dX12_calls_109 rfl rfl rfl ?_
    refine e_getR (q := 113) dX12_calls_110 rfl fg_X12_65 (by first | assumption | rfl) rfl ?_
    refine e_bipush (q := 115) dX12_calls_113 rfl (by decide) ?_
    refine e_aload_n (q := 116) (i := 0) dX12_calls_115 rfl rfl rfl ?_
    refine e_getR (q := 119) dX12_calls_116 rfl fg_X12_72 (by first | assumption | rfl) rfl ?_
    refine e_iload_n (q := 120) (i := 1) dX12_calls_119 rfl rfl rfl ?_
    refine e_iald (q := 121) dX12_calls_120 rfl (by first | assumption | rfl) ?_
    refine e_i2l (q := 122) dX12_calls_121 rfl ⟨by simp only [sJ_1]; omega, by simp only [sJ_1]; omega⟩ ?_
    refine e_last (q := 123) dX12_calls_122 rfl (by first | assumption | rfl) ?_
    exact r_v dX12_calls_123 rfl ⟨rfl, (((((((Fr.rf _ σ).sJ (by decide) _ _).sJ (by decide) _ _).sJ (by decide) _ _).sJ (by decide) _ _).sJ (by decide) _ _).sJ (by decide) _ _).sJ (by decide) _ _, fun i a b => by rw [nm7m i a b]; first | rfl | (rw [show wt = 1 by omega]; rfl) | (rw [c91]; rfl)⟩

theorem c_X12_within {G : Gx} {σ : Sg} {r lo hi pl : Int} (hW : MW σ) (hr0 : 0 ≤ r) (hr3 : r < 3) (hn : ∀ i, 0 ≤ i → i < 7 → -1000000000000 ≤ σ.2 100 i ∧ σ.2 100 i ≤ 1000000000000) (hlo : R32 lo) (hhi : R32 hi) (hpl : R32 pl) : Con G 4 mX12_within [.ref (G.2.2.2 + 82), .int (iZ r), .int (iZ lo), .int (iZ hi), .int (iZ pl)] σ (pI (fun z σ' => z = (if mLaw σ r (σ.2 100) = -9223372036854775808 then pl else gWi (mLaw σ r (σ.2 100)) lo hi) ∧ Fm [101] [34] σ σ')) := by
  refine e_entry om_X12_within (Nat.le_of_ble_eq_true rfl) (L := [some (.ref (G.2.2.2 + 82)), some (.int (iZ r)), some (.int (iZ lo)), some (.int (iZ hi)), some (.int (iZ pl))]) rfl ?_
  refine e_aload_n (q := 1) (i := 0) dX12_within_0 rfl rfl rfl ?_
  refine e_iload_n (q := 2) (i := 1) dX12_within_1 rfl rfl rfl ?_
  refine e_Vip (q := 5) (vs := [_]) ok_X12_hasLaw ml_X12_349 dX12_within_2 rfl ⟨_, _, rfl⟩ (by first | assumption | rfl) rfl rfl (Nat.le_of_ble_eq_true rfl) (by decide) (c_X12_hasLaw hW hr0 hr3) ?_
  refine e_if_eq (q := 8) (tgt := 16) dX12_within_5 rfl (by decide) (fun c5 => ?_) (fun c5 => ?_) (hx := ⟨by split <;> omega, by split <;> omega⟩)
  · refine e_iload (q := 18) dX12_within_16 rfl rfl ?_
    exact r_i dX12_within_18 rfl ⟨by rw [if_pos (mLaw_no hW hr0 hr3 (fun q => by rw [if_pos q] at c5; omega) _)], Fm.rf _ _ _⟩
  · refine e_aload_n (q := 9) (i := 0) dX12_within_8 rfl rfl rfl ?_
    refine e_iload_n (q := 10) (i := 1) dX12_within_9 rfl rfl rfl ?_
    have hlt : σ.1 96 r < σ.1 97 r := by
      by_cases q : σ.1 96 r < σ.1 97 r
      · exact q
      · rw [if_neg q] at c5; exact absurd rfl c5
    refine e_Vi (q := 13) (vs := [_]) ok_X12_goes ml_X12_352 dX12_within_10 rfl ⟨_, _, rfl⟩ (by first | assumption | rfl) rfl rfl (Nat.le_of_ble_eq_true rfl) (by decide) (c_X12_goes hW hr0 hr3 hlt hn) (fun z10 s10 h10 => ?_)
    refine e_if_ne (q := 16) (tgt := 19) dX12_within_13 rfl (by decide) (fun c13 => ?_) (fun c13 => ?_) (hx := ⟨by omega, by omega⟩)
    · refine e_iload_n (q := 20) (i := 2) dX12_within_19 rfl rfl rfl ?_
      refine e_i2l (q := 21) dX12_within_20 rfl (by first | assumption | exact ⟨by omega, by omega⟩) ?_
      refine e_iload_n (q := 22) (i := 3) dX12_within_21 rfl rfl rfl ?_
      refine e_i2l (q := 23) dX12_within_22 rfl (by first | assumption | exact ⟨by omega, by omega⟩) ?_
      refine e_aload_n (q := 24) (i := 0) dX12_within_23 rfl rfl rfl ?_
      refine e_getR (q := 27) dX12_within_24 rfl fg_X12_69 (by first | assumption | rfl) rfl ?_
      refine e_iconst (q := 28) dX12_within_27 rfl ?_
      refine e_lald (q := 29) dX12_within_28 rfl (by first | assumption | rfl) ?_
      have e101 : s10.2 101 0 = mLaw σ r (σ.2 100) ∧ -1000000000000 ≤ mLaw σ r (σ.2 100) ∧ mLaw σ r (σ.2 100) ≤ 1000000000000 := by
        rcases h10.1 with q | q
        · exact q.2
        · omega
      rw [e101.1]
      refine e_mminL (q := 32) dX12_within_29 rfl ml_X12_355 mw_minL_s mw_minL_c mw_init (Nat.le_of_ble_eq_true rfl) (by decide) ?_ (hx := ⟨by omega, by omega⟩) (hy := ⟨by omega, by omega⟩)
      refine e_mmaxL (q := 35) dX12_within_32 rfl ml_X12_358 mw_maxL_s mw_maxL_c mw_init (Nat.le_of_ble_eq_true rfl) (by decide) ?_ (hx := ⟨by omega, by omega⟩) (hy := ⟨by omega, by omega⟩)
      refine e_l2i (q := 36) dX12_within_35 rfl (lZ_i _) ?_
      exact r_i dX12_within_36 rfl ⟨by rw [if_neg (by omega)]; rfl, h10.2⟩
    · refine e_iload (q := 18) dX12_within_16 rfl rfl ?_
      exact r_i dX12_within_18 rfl ⟨by rw [if_pos (by omega)], h10.2⟩

theorem c_X12_cakeIn {G : Gx} {σ : Sg} {s p w : Int} (hs0 : 0 ≤ s) (hs1 : s < 23) (hp : 0 ≤ p) (hp4 : p < 4) (hw0 : 0 ≤ w) (hw4 : w < 4) (hx : R32 (σ.1 82 44)) : Con G 2 mX12_cakeIn [.ref (G.2.2.2 + 82), .int (iZ s), .int (iZ p), .int (iZ w)] σ (pI (pE σ (mCk σ s (4 * p + w)))) := by
  refine e_entry om_X12_cakeIn (Nat.le_of_ble_eq_true rfl) (L := [some (.ref (G.2.2.2 + 82)), some (.int (iZ s)), some (.int (iZ p)), some (.int (iZ w))]) rfl ?_
  refine e_aload_n (q := 1) (i := 0) dX12_cakeIn_0 rfl rfl rfl ?_
  refine e_getI (q := 4) (jz := 44) dX12_cakeIn_1 rfl fg_X12_370 rfl (by first | assumption | rfl) rfl ?_
  refine e_iconst (q := 5) dX12_cakeIn_4 rfl ?_
  refine e_icmp_ne (q := 8) (tgt := 12) dX12_cakeIn_5 rfl (by decide) (fun c5 => ?_) (fun c5 => ?_) (hx := hx)
  · refine e_aload_n (q := 13) (i := 0) dX12_cakeIn_12 rfl rfl rfl ?_
    refine e_getR (q := 16) dX12_cakeIn_13 rfl fg_X12_84 (by first | assumption | rfl) rfl ?_
    refine e_iload_n (q := 17) (i := 1) dX12_cakeIn_16 rfl rfl rfl ?_
    refine e_iload_n (q := 18) (i := 2) dX12_cakeIn_17 rfl rfl rfl ?_
    refine e_iload_n (q := 19) (i := 3) dX12_cakeIn_18 rfl rfl rfl ?_
    refine e_Sip (q := 22) (vs := [_, _, _]) ok_X12_slot ml_X12_322 dX12_cakeIn_19 rfl rfl rfl (Nat.le_of_ble_eq_true rfl) (by decide) (c_X12_slot (t := 16 * s + (4 * p + w)) (by omega)) ?_
    refine e_iald (q := 23) dX12_cakeIn_22 rfl (by first | assumption | rfl) ?_
    exact r_i dX12_cakeIn_23 rfl ⟨by unfold mCk mK; rw [if_neg (by omega)], rfl⟩
  · refine e_iconst (q := 9) dX12_cakeIn_8 rfl ?_
    refine e_goto (tgt := 23) dX12_cakeIn_9 (by decide) ?_
    exact r_i dX12_cakeIn_23 rfl ⟨by unfold mCk; rw [if_pos (by omega)], rfl⟩

theorem nc_96 : ∀ a, 96 ≤ a → a ≤ 99 → a ∉ 82 :: [100, 101] := by
  intro a h1 h2 h3
  simp only [List.mem_cons, List.not_mem_nil, or_false] at h3
  omega
theorem nc_102 : ∀ a, 102 ≤ a → a ≤ 108 → a ∉ 82 :: [100, 101] := by
  intro a h1 h2 h3
  simp only [List.mem_cons, List.not_mem_nil, or_false] at h3
  omega
theorem nc_84 : ∀ a, 84 ≤ a → a ≤ 95 → a ∉ 82 :: [100, 101] := by
  intro a h1 h2 h3
  simp only [List.mem_cons, List.not_mem_nil, or_false] at h3
  omega
theorem nc_96b : ∀ a, 96 ≤ a → a ≤ 99 → a ∉ 82 :: [100, 101, 102, 104, 105, 107, 108] := by
  intro a h1 h2 h3
  simp only [List.mem_cons, List.not_mem_nil, or_false] at h3
  omega
theorem nc_84b : ∀ a, 84 ≤ a → a ≤ 95 → a ∉ 82 :: [100, 101, 102, 104, 105, 107, 108] := by
  intro a h1 h2 h3
  simp only [List.mem_cons, List.not_mem_nil, or_false] at h3
  omega

set_option maxHeartbeats 4000000 in
theorem c_X12_farBy {G : Gx} {σ : Sg} {s p c w sw wt : Int} (hT : MT σ) (hW : MW σ) (hI : MI σ s) (hs0 : 0 ≤ s) (hs1 : s < 23) (hp : 0 ≤ p) (hp4 : p < 4) (hpn : p < σ.1 84 1) (hw0 : 0 ≤ w) (hw4 : w < 4) (hc : 0 ≤ c) (hc6 : c < 6) (hsw : 0 ≤ sw ∧ sw ≤ 9) (hwt : wt = 0 ∨ wt = 1) : Con G 5 mX12_farBy [.ref (G.2.2.2 + 82), .int (iZ s), .int (iZ p), .int (iZ c), .int (iZ w), .int (iZ sw), .int (iZ wt)] σ (pI (fun z σ' => z = gStone (mLaw σ 0 (nmF (mL σ s c) (σ.1 91 c) (mD σ s c) sw wt (mF σ s (4 * p + w)) (σ.1 102 s))) (mL σ s c + sw - mD σ s c) (mEd σ (4 * p + w)) wt ∧ Fm [100, 101] [34] σ σ')) := by
  obtain ⟨hzz, hnp, hnc, hnb, hrn, hsd, hrw, hrq, hch, hbt, hck⟩ := id hT
  have h107 : 0 ≤ mL σ s c ∧ mL σ s c ≤ 30 ∧ 0 ≤ mD σ s c ∧ mD σ s c ≤ 99 := hI.2.1 c hc hc6
  have e107 : σ.1 107 (6 * s + c) = mL σ s c := rfl
  have e108 : σ.1 108 (6 * s + c) = mD σ s c := rfl
  have hmd := hch c hc hc6
  have hye : 0 ≤ σ.1 102 s ∧ σ.1 102 s ≤ 100000 := hI.2.2.2.1
  have hfa := hI.1 (4 * p + w) (by omega) (by omega)
  have e105 : σ.1 105 (16 * s + (4 * p + w)) = mF σ s (4 * p + w) := rfl
  refine e_entry om_X12_farBy (Nat.le_of_ble_eq_true rfl) (L := [some (.ref (G.2.2.2 + 82)), some (.int (iZ s)), some (.int (iZ p)), some (.int (iZ c)), some (.int (iZ w)), some (.int (iZ sw)), some (.int (iZ wt)), none]) rfl ?_
  refine e_iconst (q := 1) dX12_farBy_0 rfl ?_
  refine e_aload_n (q := 2) (i := 0) dX12_farBy_1 rfl rfl rfl ?_
  refine e_getR (q := 5) dX12_farBy_2 rfl fg_X12_87 (by first | assumption | rfl) rfl ?_
  refine e_bipush (q := 7) dX12_farBy_5 rfl (by decide) ?_
  refine e_iload_n (q := 8) (i := 1) dX12_farBy_7 rfl rfl rfl ?_
  refine e_imul (q := 9) dX12_farBy_8 rfl ?_
  refine e_iload_n (q := 10) (i := 3) dX12_farBy_9 rfl rfl rfl ?_
  refine e_iadd (q := 11) dX12_farBy_10 rfl ?_
  refine e_iald (q := 12) dX12_farBy_11 rfl (by first | assumption | rfl) ?_
  refine e_iload (q := 14) dX12_farBy_12 rfl rfl ?_
  refine e_iadd (q := 15) dX12_farBy_14 rfl ?_
  refine e_aload_n (q := 16) (i := 0) dX12_farBy_15 rfl rfl rfl ?_
  refine e_getR (q := 19) dX12_farBy_16 rfl fg_X12_90 (by first | assumption | rfl) rfl ?_
  refine e_bipush (q := 21) dX12_farBy_19 rfl (by decide) ?_
  refine e_iload_n (q := 22) (i := 1) dX12_farBy_21 rfl rfl rfl ?_
  refine e_imul (q := 23) dX12_farBy_22 rfl ?_
  refine e_iload_n (q := 24) (i := 3) dX12_farBy_23 rfl rfl rfl ?_
  refine e_iadd (q := 25) dX12_farBy_24 rfl ?_
  refine e_iald (q := 26) dX12_farBy_25 rfl (by first | assumption | rfl) ?_
  refine e_isub (q := 27) dX12_farBy_26 rfl ?_
  refine e_mmax (q := 30) dX12_farBy_27 rfl ml_X12_332 mw_max_s mw_max_c mw_init (Nat.le_of_ble_eq_true rfl) (by decide) ?_ (hx := ⟨by decide, by decide⟩) (hy := ⟨by omega, by omega⟩)
  refine e_istore (q := 32) (L' := [_, _, _, _, _, _, _, _]) dX12_farBy_30 rfl (by decide) rfl rfl ?_
  refine e_aload_n (q := 33) (i := 0) dX12_farBy_32 rfl rfl rfl ?_
  refine e_iload_n (q := 34) (i := 1) dX12_farBy_33 rfl rfl rfl ?_
  refine e_iload_n (q := 35) (i := 3) dX12_farBy_34 rfl rfl rfl ?_
  refine e_iload (q := 37) dX12_farBy_35 rfl rfl ?_
  refine e_iload (q := 39) dX12_farBy_37 rfl rfl ?_
  refine e_aload_n (q := 40) (i := 0) dX12_farBy_39 rfl rfl rfl ?_
  refine e_getR (q := 43) dX12_farBy_40 rfl fg_X12_81 (by first | assumption | rfl) rfl ?_
  refine e_iload_n (q := 44) (i := 1) dX12_farBy_43 rfl rfl rfl ?_
  refine e_iload_n (q := 45) (i := 2) dX12_farBy_44 rfl rfl rfl ?_
  refine e_iload (q := 47) dX12_farBy_45 rfl rfl ?_
  refine e_Sip (q := 50) (vs := [_, _, _]) ok_X12_slot ml_X12_322 dX12_farBy_47 rfl rfl rfl (Nat.le_of_ble_eq_true rfl) (by decide) (c_X12_slot (t := 16 * s + (4 * p + w)) (by omega)) ?_
  refine e_iald (q := 51) dX12_farBy_50 rfl (by first | assumption | rfl) ?_
  refine e_Vv (q := 54) (vs := [_, _, _, _, _]) ok_X12_calls ml_X12_360 dX12_farBy_51 rfl ⟨_, _, rfl⟩ (by first | assumption | rfl) rfl rfl (Nat.le_of_ble_eq_true rfl) (by decide) (c_X12_callsC hT hI hs0 hs1 hc hc6 ⟨by omega, by omega⟩ hwt ⟨by omega, by omega⟩) (fun s51 h51 => ?_)
  obtain ⟨hE, hFr, hNm⟩ := h51
  have hFm : Fm [100, 101] [34] σ s51 := ⟨hFr.mono (by decide), fun j _ => by rw [hE]⟩
  have hW1 := hW.fr hFm nc_96
  have hlm : ∀ i, 0 ≤ i → i < 7 → -1000000000000 ≤ s51.2 100 i ∧ s51.2 100 i ≤ 1000000000000 := by
    intro i a b
    rw [hNm i a b]
    exact nmF_lim ⟨⟨by omega, by omega⟩, ⟨by omega, by omega⟩, ⟨by omega, by omega⟩, ⟨by omega, by omega⟩, ⟨by omega, by omega⟩, ⟨by omega, by omega⟩, ⟨by omega, by omega⟩⟩ i a b
  have hlw : mLaw s51 0 (s51.2 100) = mLaw σ 0 (nmF (mL σ s c) (σ.1 91 c) (mD σ s c) sw wt (mF σ s (4 * p + w)) (σ.1 102 s)) := by rw [mLaw.fr hFm nc_96]; exact mLaw_nm hNm 0
  refine e_aload_n (q := 55) (i := 0) dX12_farBy_54 rfl rfl rfl ?_
  refine e_iload_n (q := 56) (i := 2) dX12_farBy_55 rfl rfl rfl ?_
  refine e_iload (q := 58) dX12_farBy_56 rfl rfl ?_
  refine e_Vip (q := 61) (vs := [_, _]) ok_X12_edge ml_X12_364 dX12_farBy_58 rfl ⟨_, _, rfl⟩ (by first | assumption | rfl) rfl rfl (Nat.le_of_ble_eq_true rfl) (by decide) (c_X12_edge hp hp4 hw0 hw4) ?_
  refine e_aload_n (q := 62) (i := 0) dX12_farBy_61 rfl rfl rfl ?_
  refine e_iconst (q := 63) dX12_farBy_62 rfl ?_
  refine e_iconst (q := 64) dX12_farBy_63 rfl ?_
  refine e_bipush (q := 66) dX12_farBy_64 rfl (by decide) ?_
  refine e_iload (q := 68) dX12_farBy_66 rfl rfl ?_
  refine e_if_eq (q := 71) (tgt := 78) dX12_farBy_68 rfl (by decide) (fun c68 => ?_) (fun c68 => ?_)
  · refine e_iload (q := 80) dX12_farBy_78 rfl rfl ?_
    refine e_Vi (q := 83) (vs := [_, _, _, _]) ok_X12_within ml_X12_367 dX12_farBy_80 rfl ⟨_, _, rfl⟩ (by first | assumption | rfl) rfl rfl (Nat.le_of_ble_eq_true rfl) (by decide) (c_X12_within hW1 (by decide) (by decide) hlm ⟨by decide, by decide⟩ ⟨by decide, by decide⟩ ⟨by omega, by omega⟩) (fun z80 s80 h80 => ?_)
    rw [hE]
    have hed : gEdge (σ.1 86) (σ.1 87) (σ.1 84 0) p w = mEd σ (4 * p + w) := by unfold mEd; rw [show (4 * p + w) / 4 = p by omega, show (4 * p + w) % 4 = w by omega]
    rw [hed]
    have hei := mEd_in hT (s := 4 * p + w) (by omega) (by omega)
    rw [hlw] at h80
    have hll := mLaw_lim hW (r := 0) (by decide) (by decide) (nm := (nmF (mL σ s c) (σ.1 91 c) (mD σ s c) sw wt (mF σ s (4 * p + w)) (σ.1 102 s))) (by refine nmF_lim ⟨⟨?_, ?_⟩, ⟨?_, ?_⟩, ⟨?_, ?_⟩, ⟨?_, ?_⟩, ⟨?_, ?_⟩, ⟨?_, ?_⟩, ⟨?_, ?_⟩⟩ <;> omega)
    have hz80 : R32 z80 := by rw [h80.1]; unfold gWi; split <;> exact ⟨by omega, by omega⟩
    refine e_mmin (q := 86) dX12_farBy_83 rfl ml_X12_329 mw_min_s mw_min_c mw_init (Nat.le_of_ble_eq_true rfl) (by decide) ?_ (hx := ⟨by omega, by omega⟩) (hy := hz80)
    exact r_i dX12_farBy_86 rfl ⟨by rw [h80.1]; unfold gStone; rw [if_pos (show wt = 0 by omega), Int.max_comm 0, Int.min_comm]; rfl, hFm.tr (h80.2.mono (by decide) (by decide))⟩
  · refine e_iload (q := 73) dX12_farBy_71 rfl rfl ?_
    refine e_iconst (q := 74) dX12_farBy_73 rfl ?_
    refine e_idiv (q := 75) dX12_farBy_74 rfl (by decide) (iZ_div (by omega) (by omega) (by omega) (by omega)) ?_
    refine e_goto (tgt := 80) dX12_farBy_75 (by decide) ?_
    refine e_Vi (q := 83) (vs := [_, _, _, _]) ok_X12_within ml_X12_367 dX12_farBy_80 rfl ⟨_, _, rfl⟩ (by first | assumption | rfl) rfl rfl (Nat.le_of_ble_eq_true rfl) (by decide) (c_X12_within hW1 (by decide) (by decide) hlm ⟨by decide, by decide⟩ ⟨by decide, by decide⟩ ⟨by omega, by omega⟩) (fun z80 s80 h80 => ?_)
    rw [hE]
    have hed : gEdge (σ.1 86) (σ.1 87) (σ.1 84 0) p w = mEd σ (4 * p + w) := by unfold mEd; rw [show (4 * p + w) / 4 = p by omega, show (4 * p + w) % 4 = w by omega]
    rw [hed]
    have hei := mEd_in hT (s := 4 * p + w) (by omega) (by omega)
    rw [hlw] at h80
    have hll := mLaw_lim hW (r := 0) (by decide) (by decide) (nm := (nmF (mL σ s c) (σ.1 91 c) (mD σ s c) sw wt (mF σ s (4 * p + w)) (σ.1 102 s))) (by refine nmF_lim ⟨⟨?_, ?_⟩, ⟨?_, ?_⟩, ⟨?_, ?_⟩, ⟨?_, ?_⟩, ⟨?_, ?_⟩, ⟨?_, ?_⟩, ⟨?_, ?_⟩⟩ <;> omega)
    have hz80 : R32 z80 := by rw [h80.1]; unfold gWi; split <;> exact ⟨by omega, by omega⟩
    refine e_mmin (q := 86) dX12_farBy_83 rfl ml_X12_329 mw_min_s mw_min_c mw_init (Nat.le_of_ble_eq_true rfl) (by decide) ?_ (hx := ⟨by omega, by omega⟩) (hy := hz80)
    exact r_i dX12_farBy_86 rfl ⟨by rw [h80.1]; unfold gStone; rw [if_neg (show ¬ wt = 0 by omega), Int.max_comm 0, Int.min_comm]; rfl, hFm.tr (h80.2.mono (by decide) (by decide))⟩

