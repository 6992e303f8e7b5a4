/-! ===== what an E leaves are knots ===== -/
def KOk (K : Kn) : Prop := 0 ≤ K.1 ∧ ∀ i, 0 ≤ i → i < K.1 → isKnot (K.2 i)
theorem KOk.put {K : Kn} (h : KOk K) {v : Int} (hv : isKnot v) : KOk (kput K v) := by
  refine ⟨by show 0 ≤ K.1 + 1; have := h.1; omega, fun i a b => ?_⟩
  have b : i < K.1 + 1 := b
  show isKnot (uf K.2 K.1 v i)
  unfold uf
  by_cases q : i = K.1
  · rw [if_pos q]; exact hv
  · rw [if_neg q]; exact h.2 i a (by omega)
theorem rk_knot {s : Int} (h : 1 ≤ rk s) : isKnot (-s) := by
  unfold isKnot isOp
  rw [Int.neg_neg]
  unfold rk at h
  split at h
  · omega
  split at h
  · omega
  split at h
  · omega
  split at h
  · omega
  split at h
  · omega
  split at h <;> omega
theorem KOk.set {l : Int} (hl : 1 ≤ l) : ∀ (S : List Int) (K : Kn), KOk K → KOk (sySet l S K).2 ∧ K.1 ≤ (sySet l S K).2.1
  | [], K, h => ⟨h, Int.le_refl _⟩
  | s :: S, K, h => by
    simp only [sySet]
    by_cases q : l ≤ rk s
    · rw [if_pos q]
      have := KOk.set hl S _ (h.put (rk_knot (s := s) (by omega)))
      exact ⟨this.1, by have h2 : K.1 + 1 ≤ _ := this.2; omega⟩
    · rw [if_neg q]; exact ⟨h, Int.le_refl _⟩
theorem sy_K {t : Tk} {w : Int} {S : List Int} {o c : Int} {K : Kn} {s' : Sy} (hg : tkG t) (hK : KOk K) (h : sy1 t (w, S, o, c, K) = .inr s') : KOk s'.2.2.2.2 ∧ K.1 ≤ s'.2.2.2.2.1 := by
  unfold sy1 at h
  by_cases e : (w, S, o, c, K).1 = 1
  · rw [if_pos e] at h
    by_cases a1 : t.1 = 22
    · rw [if_pos a1] at h
      by_cases a2 : 9999 < t.2.2
      · rw [if_pos a2] at h; cases h
      rw [if_neg a2] at h
      by_cases a3 : 64 ≤ (w, S, o, c, K).2.2.2.1
      · rw [if_pos a3] at h; cases h
      rw [if_neg a3] at h
      cases h
      exact ⟨hK.put (Or.inl ⟨(hg.2 a1).1, by omega⟩), by show K.1 ≤ K.1 + 1; omega⟩
    rw [if_neg a1] at h
    by_cases a2 : 14 ≤ t.1 ∧ t.1 ≤ 20
    · rw [if_pos a2] at h
      by_cases a3 : 64 ≤ (w, S, o, c, K).2.2.2.1
      · rw [if_pos a3] at h; cases h
      rw [if_neg a3] at h
      cases h
      exact ⟨hK.put (Or.inr (Or.inl ⟨by omega, by omega⟩)), by show K.1 ≤ K.1 + 1; omega⟩
    rw [if_neg a2] at h
    by_cases a3 : t.1 = 13
    · rw [if_pos a3] at h
      by_cases a4 : 3 < syTr (w, S, o, c, K).2.1
      · rw [if_pos a4] at h; cases h
      rw [if_neg a4] at h
      by_cases a5 : 64 ≤ (w, S, o, c, K).2.2.2.1
      · rw [if_pos a5] at h; cases h
      rw [if_neg a5] at h
      cases h
      exact ⟨hK, Int.le_refl _⟩
    rw [if_neg a3] at h
    by_cases a4 : t.1 = 24
    · rw [if_pos a4] at h
      by_cases a5 : 8 ≤ (w, S, o, c, K).2.2.1
      · rw [if_pos a5] at h; cases h
      rw [if_neg a5] at h
      cases h
      exact ⟨hK, Int.le_refl _⟩
    rw [if_neg a4] at h
    cases h
  · rw [if_neg e] at h
    by_cases a1 : t.1 = 25 ∧ 0 < (w, S, o, c, K).2.2.1
    · rw [if_pos a1] at h
      cases h
      exact KOk.set (Int.le_refl 1) S K hK
    rw [if_neg a1] at h
    by_cases a2 : rk t.1 = 0 ∨ t.1 = 13
    · rw [if_pos a2] at h; cases h
    rw [if_neg a2] at h
    have hr := rk_in t.1
    have hl : 1 ≤ (if rk t.1 = 4 then 5 else rk t.1) := by split <;> omega
    by_cases a3 : rk t.1 = 4 ∧ syTr (sySet (if rk t.1 = 4 then 5 else rk t.1) (w, S, o, c, K).2.1 (w, S, o, c, K).2.2.2.2).1 = 4
    · rw [if_pos a3] at h; cases h
    rw [if_neg a3] at h
    by_cases a4 : 64 ≤ (w, S, o, c, K).2.2.2.1
    · rw [if_pos a4] at h; cases h
    rw [if_neg a4] at h
    cases h
    exact KOk.set hl S K hK
theorem syRun_ok : ∀ (ts : List Tk) (w : Int) (S : List Int) (o c : Int) (K : Kn) (q : List Tk × Kn), (w = 0 ∨ w = 1) → (∀ t ∈ ts, tkG t) → SyI S o c K → KOk K → syRun ts (w, S, o, c, K) = .inr q → KOk q.2 ∧ K.1 ≤ q.2.1 ∧ q.2.1 ≤ 64 ∧ ∃ p, ts = p ++ q.1
  | [], _, _, _, _, _, _, _, _, _, _, h => by cases h
  | t :: ts, w, S, o, c, K, q, hw, hg, hI, hK, h => by
    by_cases e : (w, S, o, c, K).1 ≠ 1 ∧ t.1 = 23 ∧ (w, S, o, c, K).2.2.1 = 0
    · rw [syRun_end e] at h
      cases h
      have h1 := KOk.set (Int.le_refl 1) S K hK
      have h2 := sySet_I (Int.le_refl 1) S o c K hI
      obtain ⟨-, j2, -, -, j5, -⟩ := h2
      have hl := sg_len (sySet 1 S K).1
      exact ⟨h1.1, h1.2, by show (sySet 1 S K).2.1 ≤ 64; omega, [], rfl⟩
    · rw [syRun_go e] at h
      cases hs : sy1 t (w, S, o, c, K) with
      | inl f => rw [hs] at h; cases h
      | inr s' =>
        rw [hs] at h
        have h1 := sy_I hw hI hs
        have h2 := sy_K (hg t List.mem_cons_self) hK hs
        obtain ⟨w', S', o', c', K'⟩ := s'
        have hw' : w' = 0 ∨ w' = 1 := by
          have := h1.2
          have this : w' = _ := this
          rw [this]
          split
          · exact Or.inl rfl
          · exact Or.inr rfl
        have h3 := syRun_ok ts w' S' o' c' K' q hw' (fun x hx => hg x (List.mem_cons_of_mem _ hx)) h1.1 h2.1 h
        obtain ⟨p, hp⟩ := h3.2.2.2
        have h22 : K.1 ≤ K'.1 := h2.2
        exact ⟨h3.1, by have := h3.2.1; omega, h3.2.2.1, t :: p, by rw [hp]; rfl⟩

theorem DOk_mk {δ δ' : Dl} (hO : DOk δ) (h23 : ∀ j, 0 ≤ j → j ≤ 7 → j ≠ 1 → δ' 23 j = δ 23 j) (h1 : δ' 23 1 = δ 23 1 + 1) (hl : δ 23 1 + 1 ≤ 701) (hr : ∀ a, (24 ≤ a ∧ a ≤ 37) ∨ a = 18 → δ' a = δ a) : DOk δ' := by
  obtain ⟨o0, o1, o2, o3, o4, o5, o6, o7, o8, o9, oc, ob, ok, og, ou, ow, ox, ot, oz, oy⟩ := hO
  unfold DOk
  rw [h1, h23 0 (by decide) (by decide) (by decide), h23 2 (by decide) (by decide) (by decide), h23 3 (by decide) (by decide) (by decide), h23 4 (by decide) (by decide) (by decide), h23 5 (by decide) (by decide) (by decide), h23 6 (by decide) (by decide) (by decide), h23 7 (by decide) (by decide) (by decide), hr 24 (by decide), hr 25 (by decide), hr 26 (by decide), hr 27 (by decide), hr 28 (by decide), hr 29 (by decide), hr 30 (by decide), hr 31 (by decide), hr 32 (by decide), hr 33 (by decide), hr 34 (by decide), hr 35 (by decide), hr 36 (by decide), hr 37 (by decide), hr 18 (by decide)]
  exact ⟨o0, ⟨by omega, hl⟩, o2, o3, o4, o5, o6, o7, o8, o9, oc, ob, ok, og, ou, ow, ox, ot, fun q => by omega, oy⟩

theorem DOk_land {δ : Dl} (hO : DOk δ) (hl : δ 23 1 + 1 ≤ 701) {v : Int} (h5 : 5 ≤ v) (h40 : v ≤ 40) (h0 : ¬ 0 < δ 23 1) : DOk (u2 (u2 δ 23 0 v) 23 1 (δ 23 1 + 1)) := by
  obtain ⟨o0, o1, o2, o3, o4, o5, o6, o7, o8, o9, oc, ob, ok, og, ou, ow, ox, ot, oz, oy⟩ := hO
  unfold DOk
  unfold R32 at o8 oc ⊢
  simp only [u2_1, Nat.reduceEqDiff, Int.reduceEq, false_and, true_and, and_true, and_false, if_false, if_true, reduceIte, reduceCtorEq]
  refine ⟨?_, ?_, ?_, ?_, ?_, ?_, ?_, ?_, ?_, ?_, ?_, ?_, ?_, ?_, ?_, ?_, ?_, ?_, ?_, ?_⟩
  · exact ⟨h5, h40⟩
  · omega
  · exact o2
  · exact o3
  · exact o4
  · exact o5
  · exact o6
  · exact o7
  · exact o8
  · intro i a b
    have := oz (by omega)
    omega
  · exact oc
  · exact ob
  · exact ok
  · exact og
  · exact ou
  · exact ow
  · exact ox
  · exact ot
  · intro q; omega
  · exact oy

theorem DOk_par {δ : Dl} (hO : DOk δ) (hl : δ 23 1 + 1 ≤ 701) {l r c : Int} (hl1 : 1 ≤ l) (hl2 : l < 1073741824) (hr0 : 0 ≤ r) (hr1 : r ≤ δ 23 0 - 1) (hc0 : 0 ≤ c) (hc1 : c ≤ δ 23 0 - 1) (h4 : ¬ 4 ≤ δ 23 2) : DOk (u2 (u2 (u2 (u2 (u2 δ 26 (δ 23 2) l) 24 (δ 23 2) r) 25 (δ 23 2) c) 23 2 (δ 23 2 + 1)) 23 1 (δ 23 1 + 1)) := by
  obtain ⟨o0, o1, o2, o3, o4, o5, o6, o7, o8, o9, oc, ob, ok, og, ou, ow, ox, ot, oz, oy⟩ := hO
  unfold DOk
  unfold R32 at o8 oc ⊢
  simp only [u2_1, Nat.reduceEqDiff, Int.reduceEq, false_and, true_and, and_true, and_false, if_false, if_true, reduceIte, reduceCtorEq]
  refine ⟨?_, ?_, ?_, ?_, ?_, ?_, ?_, ?_, ?_, ?_, ?_, ?_, ?_, ?_, ?_, ?_, ?_, ?_, ?_, ?_⟩
  · exact o0
  · omega
  · omega
  · exact o3
  · exact o4
  · exact o5
  · exact o6
  · exact o7
  · intro i a b
    have h := o8 i a b
    by_cases q : i = δ 23 2
    · simp only [if_pos q]; omega
    · simp only [if_neg q]; omega
  · intro i a b
    by_cases q : i = δ 23 2
    · simp only [if_pos q]; omega
    · simp only [if_neg q]; exact o9 i a (by omega)
  · exact oc
  · exact ob
  · exact ok
  · intro i a b
    have h := og i a b
    omega
  · exact ou
  · exact ow
  · exact ox
  · exact ot
  · intro q; omega
  · exact oy

theorem DOk_chi {δ : Dl} (hO : DOk δ) (hl : δ 23 1 + 1 ≤ 701) {l g m : Int} (hl1 : 1 ≤ l) (hl2 : l < 1073741824) (hg0 : 1 ≤ g) (hg1 : g ≤ 30) (hm0 : 0 ≤ m) (hm1 : m ≤ 9) (h4 : ¬ 6 ≤ δ 23 3) : DOk (u2 (u2 (u2 (u2 (u2 δ 29 (δ 23 3) l) 27 (δ 23 3) g) 28 (δ 23 3) m) 23 3 (δ 23 3 + 1)) 23 1 (δ 23 1 + 1)) := by
  obtain ⟨o0, o1, o2, o3, o4, o5, o6, o7, o8, o9, oc, ob, ok, og, ou, ow, ox, ot, oz, oy⟩ := hO
  unfold DOk
  unfold R32 at o8 oc ⊢
  simp only [u2_1, Nat.reduceEqDiff, Int.reduceEq, false_and, true_and, and_true, and_false, if_false, if_true, reduceIte, reduceCtorEq]
  refine ⟨?_, ?_, ?_, ?_, ?_, ?_, ?_, ?_, ?_, ?_, ?_, ?_, ?_, ?_, ?_, ?_, ?_, ?_, ?_, ?_⟩
  · exact o0
  · omega
  · exact o2
  · omega
  · exact o4
  · exact o5
  · exact o6
  · exact o7
  · exact o8
  · exact o9
  · intro i a b
    have h := oc i a b
    by_cases q : i = δ 23 3
    · simp only [if_pos q]; omega
    · simp only [if_neg q]; omega
  · exact ob
  · exact ok
  · intro i a b
    have h := og i a b
    omega
  · exact ou
  · exact ow
  · exact ox
  · exact ot
  · intro q; omega
  · exact oy

theorem DOk_beat {δ : Dl} (hO : DOk δ) (hl : δ 23 1 + 1 ≤ 701) {p c w y : Int} (hp0 : 0 ≤ p) (hp1 : p < δ 23 2) (hc0 : 0 ≤ c) (hc1 : c < δ 23 3) (hw0 : 0 ≤ w) (hw1 : w ≤ 3) (hy0 : 0 ≤ y) (hy1 : y ≤ 99) (h4 : ¬ 12 ≤ δ 23 4) : DOk (u2 (u2 (u2 (u2 (u2 (u2 δ 30 (δ 23 4) (4 * p + w)) 31 (δ 23 4) c) 32 (δ 23 4) y) 23 5 (max (δ 23 5) y)) 23 4 (δ 23 4 + 1)) 23 1 (δ 23 1 + 1)) := by
  obtain ⟨o0, o1, o2, o3, o4, o5, o6, o7, o8, o9, oc, ob, ok, og, ou, ow, ox, ot, oz, oy⟩ := hO
  unfold DOk
  unfold R32 at o8 oc ⊢
  simp only [u2_1, Nat.reduceEqDiff, Int.reduceEq, false_and, true_and, and_true, and_false, if_false, if_true, reduceIte, reduceCtorEq]
  refine ⟨?_, ?_, ?_, ?_, ?_, ?_, ?_, ?_, ?_, ?_, ?_, ?_, ?_, ?_, ?_, ?_, ?_, ?_, ?_, ?_⟩
  · exact o0
  · omega
  · exact o2
  · exact o3
  · omega
  · omega
  · exact o6
  · exact o7
  · exact o8
  · exact o9
  · exact oc
  · intro i a b
    have h := ob i a b
    by_cases q : i = δ 23 4
    · simp only [if_pos q]; omega
    · simp only [if_neg q]; omega
  · exact ok
  · intro i a b
    by_cases q : i = δ 23 4
    · simp only [if_pos q]; omega
    · simp only [if_neg q]; exact og i a (by omega)
  · exact ou
  · exact ow
  · exact ox
  · exact ot
  · intro q; omega
  · intro i a b
    by_cases q : i = δ 23 4
    · simp only [if_pos q]; omega
    · simp only [if_neg q]; have := oy i a (by omega); omega

theorem DOk_cake {δ : Dl} (hO : DOk δ) (hl : δ 23 1 + 1 ≤ 701) {j v : Int} (hv0 : 1 ≤ v) (hv1 : v ≤ 9) : DOk (u2 (u2 δ 33 j v) 23 1 (δ 23 1 + 1)) := by
  obtain ⟨o0, o1, o2, o3, o4, o5, o6, o7, o8, o9, oc, ob, ok, og, ou, ow, ox, ot, oz, oy⟩ := hO
  unfold DOk
  unfold R32 at o8 oc ⊢
  simp only [u2_1, Nat.reduceEqDiff, Int.reduceEq, false_and, true_and, and_true, and_false, if_false, if_true, reduceIte, reduceCtorEq]
  refine ⟨?_, ?_, ?_, ?_, ?_, ?_, ?_, ?_, ?_, ?_, ?_, ?_, ?_, ?_, ?_, ?_, ?_, ?_, ?_, ?_⟩
  · exact o0
  · omega
  · exact o2
  · exact o3
  · exact o4
  · exact o5
  · exact o6
  · exact o7
  · exact o8
  · exact o9
  · exact oc
  · exact ob
  · intro i a b
    have h := ok i a b
    by_cases q : i = j
    · simp only [if_pos q]; omega
    · simp only [if_neg q]; omega
  · exact og
  · exact ou
  · exact ow
  · exact ox
  · exact ot
  · intro q; omega
  · exact oy

theorem DOk_rain {δ : Dl} (hO : DOk δ) (hl : δ 23 1 + 1 ≤ 701) {v : Int} (hv0 : 0 ≤ v) (hv1 : v ≤ 100) : DOk (u2 (u2 (u2 δ 23 6 v) 18 3 1) 23 1 (δ 23 1 + 1)) := by
  obtain ⟨o0, o1, o2, o3, o4, o5, o6, o7, o8, o9, oc, ob, ok, og, ou, ow, ox, ot, oz, oy⟩ := hO
  unfold DOk
  unfold R32 at o8 oc ⊢
  simp only [u2_1, Nat.reduceEqDiff, Int.reduceEq, false_and, true_and, and_true, and_false, if_false, if_true, reduceIte, reduceCtorEq]
  refine ⟨?_, ?_, ?_, ?_, ?_, ?_, ?_, ?_, ?_, ?_, ?_, ?_, ?_, ?_, ?_, ?_, ?_, ?_, ?_, ?_⟩
  · exact o0
  · omega
  · exact o2
  · exact o3
  · exact o4
  · exact o5
  · omega
  · exact o7
  · exact o8
  · exact o9
  · exact oc
  · exact ob
  · exact ok
  · exact og
  · exact ou
  · exact ow
  · exact ox
  · exact ⟨by first | exact Or.inr trivial | exact Or.inr rfl | simp, ot.2⟩
  · intro q; omega
  · exact oy

theorem DOk_seed {δ : Dl} (hO : DOk δ) (hl : δ 23 1 + 1 ≤ 701) {v : Int} (hv0 : 0 ≤ v) (hv1 : v ≤ 99999) : DOk (u2 (u2 (u2 δ 23 7 v) 18 4 1) 23 1 (δ 23 1 + 1)) := by
  obtain ⟨o0, o1, o2, o3, o4, o5, o6, o7, o8, o9, oc, ob, ok, og, ou, ow, ox, ot, oz, oy⟩ := hO
  unfold DOk
  unfold R32 at o8 oc ⊢
  simp only [u2_1, Nat.reduceEqDiff, Int.reduceEq, false_and, true_and, and_true, and_false, if_false, if_true, reduceIte, reduceCtorEq]
  refine ⟨?_, ?_, ?_, ?_, ?_, ?_, ?_, ?_, ?_, ?_, ?_, ?_, ?_, ?_, ?_, ?_, ?_, ?_, ?_, ?_⟩
  · exact o0
  · omega
  · exact o2
  · exact o3
  · exact o4
  · exact o5
  · exact o6
  · omega
  · exact o8
  · exact o9
  · exact oc
  · exact ob
  · exact ok
  · exact og
  · exact ou
  · exact ow
  · exact ox
  · exact ⟨ot.1, by first | exact Or.inr trivial | exact Or.inr rfl | simp⟩
  · intro q; omega
  · exact oy

theorem DOk_law {δ : Dl} (hO : DOk δ) (hl : δ 23 1 + 1 ≤ 701) {k : Int} {K : Kn} (hk0 : 0 ≤ k) (hk3 : k < 3) (hK : KOk K) (h1 : δ 34 4 ≤ K.1) (h2 : K.1 ≤ 64) : DOk (u2 (dLaw δ k K) 23 1 (δ 23 1 + 1)) := by
  obtain ⟨o0, o1, o2, o3, o4, o5, o6, o7, o8, o9, oc, ob, ok, og, ou, ow, ox, ot, oz, oy⟩ := hO
  have e23 : ∀ j, dLaw δ k K 23 j = δ 23 j := fun j => rfl
  have hq : ∀ a : Nat, a ≠ 23 → u2 (dLaw δ k K) 23 1 (δ 23 1 + 1) a = dLaw δ k K a := fun a ha => u2_ne _ ha _ _
  unfold DOk
  rw [hq 24 (by decide), hq 25 (by decide), hq 26 (by decide), hq 27 (by decide), hq 28 (by decide), hq 29 (by decide), hq 30 (by decide), hq 31 (by decide), hq 32 (by decide), hq 33 (by decide), hq 34 (by decide), hq 35 (by decide), hq 36 (by decide), hq 37 (by decide), hq 18 (by decide)]
  have u4 : dLaw δ k K 34 4 = K.1 := by show uf (δ 34) 4 K.1 4 = K.1; unfold uf; rw [if_pos rfl]
  have u23 : ∀ j, j ≠ 1 → u2 (dLaw δ k K) 23 1 (δ 23 1 + 1) 23 j = δ 23 j := fun j hj => by rw [u2_1, if_neg (fun q => hj q.2)]; rfl
  have u231 : u2 (dLaw δ k K) 23 1 (δ 23 1 + 1) 23 1 = δ 23 1 + 1 := by rw [u2_1, if_pos ⟨rfl, rfl⟩]
  rw [u4, u231, u23 0 (by decide), u23 2 (by decide), u23 3 (by decide), u23 4 (by decide), u23 5 (by decide), u23 6 (by decide), u23 7 (by decide)]
  refine ⟨o0, ⟨by omega, hl⟩, o2, o3, o4, o5, o6, o7, o8, o9, oc, ob, ok, og, ⟨hK.1, h2⟩, ?_, fun i a b => hK.2 i a b, ot, fun q => by omega, oy⟩
  intro i a b
  have h := ow i a b
  show 0 ≤ uf (δ 36) k (δ 34 4) i ∧ uf (δ 36) k (δ 34 4) i ≤ uf (δ 37) k K.1 i ∧ uf (δ 37) k K.1 i ≤ K.1
  unfold uf
  by_cases q : i = k
  · rw [if_pos q, if_pos q]; omega
  · rw [if_neg q, if_neg q]; omega

