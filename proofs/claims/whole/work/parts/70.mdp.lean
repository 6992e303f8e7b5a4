/-! ===== an E leaves one value ===== -/
def bnS : List Int → Nat
  | [] => 0
  | s :: S => bnS S + (if s = 24 ∨ s = 13 then 0 else 1)
def dpK (u : Int) (K : Kn) (d : Nat) : Prop := u ≤ K.1 ∧ dpRun K.2 (K.1 - u).toNat u 0 = some d
theorem dpRun_c {f g : Int → Int} : ∀ (n : Nat) (k : Int) (d : Nat), (∀ j, k ≤ j → j < k + n → f j = g j) → dpRun f n k d = dpRun g n k d
  | 0, _, _, _ => rfl
  | n + 1, k, d, h => by
    simp only [dpRun]
    rw [h k (by omega) (by omega)]
    cases dpStep d (g k) with
    | none => rfl
    | some d' => exact dpRun_c n (k + 1) d' (fun j a b => h j (by omega) (by omega))
theorem dpK.put {u : Int} {K : Kn} {d d' : Nat} (h : dpK u K d) {v : Int} (hv : dpStep d v = some d') : dpK u (kput K v) d' := by
  obtain ⟨h1, h2⟩ := h
  refine ⟨by show u ≤ K.1 + 1; omega, ?_⟩
  show dpRun (uf K.2 K.1 v) (K.1 + 1 - u).toNat u 0 = some d'
  rw [show (K.1 + 1 - u).toNat = (K.1 - u).toNat + 1 by omega, dpRun_add, dpRun_c (g := K.2) _ _ _ (fun j a b => by unfold uf; rw [if_neg (by omega)]), h2]
  show dpRun (uf K.2 K.1 v) 1 (u + ((K.1 - u).toNat : Nat)) d = some d'
  simp only [dpRun]
  rw [show u + (((K.1 - u).toNat : Nat) : Int) = K.1 by omega, show uf K.2 K.1 v K.1 = v from if_pos rfl, hv]
theorem dpK.pop {u : Int} {K : Kn} {s : Int} {S : List Int} (hs : 1 ≤ rk s) (h : dpK u K (bnS (s :: S) + 1)) : dpK u (kput K (-s)) (bnS S + 1) := by
  have hr := (rk_in s).2.2 hs
  refine h.put ?_
  unfold dpStep
  have hk := rk_knot hs
  unfold isKnot isOp at hk
  rw [Int.neg_neg] at hk
  rw [Int.neg_neg, if_neg (by
    rintro (q | q)
    · omega
    · unfold rk at hs
      rw [if_neg (by omega), if_neg (by omega), if_neg (by omega), if_neg (by omega), if_neg (by omega), if_neg (by omega)] at hs
      omega)]
  by_cases q : s = 13
  · rw [if_pos q, if_pos (by omega)]
    show some (bnS S + (if s = 24 ∨ s = 13 then 0 else 1) + 1) = _
    rw [if_pos (Or.inr q)]
  · rw [if_neg q]
    have e : bnS (s :: S) = bnS S + 1 := by show bnS S + (if s = 24 ∨ s = 13 then 0 else 1) = _; rw [if_neg (by omega)]
    rw [e, if_pos (by omega)]
    rfl
theorem dpK.set {u l : Int} (hl : 1 ≤ l) : ∀ (S : List Int) (K : Kn), dpK u K (bnS S + 1) → dpK u (sySet l S K).2 (bnS (sySet l S K).1 + 1)
  | [], K, h => h
  | s :: S, K, h => by
    simp only [sySet]
    by_cases q : l ≤ rk s
    · rw [if_pos q]
      exact dpK.set hl S _ (h.pop (by omega))
    · rw [if_neg q]; exact h
theorem sy_dp {u : Int} {t : Tk} {w : Int} {S : List Int} {o c : Int} {K : Kn} {s' : Sy} (hw : w = 0 ∨ w = 1) (hg : tkG t) (hI : SyI S o c K) (hD : dpK u K (bnS S + (if w = 1 then 0 else 1))) (h : sy1 t (w, S, o, c, K) = .inr s') : dpK u s'.2.2.2.2 (bnS s'.2.1 + (if s'.1 = 1 then 0 else 1)) := by
  rcases hw with rfl | rfl
  · have hD : dpK u K (bnS S + 1) := hD
    by_cases q1 : t.1 = 25 ∧ 0 < o
    · rw [sy_cls q1.1 q1.2] at h
      cases h
      have h1 := dpK.set (Int.le_refl 1) S K hD
      obtain ⟨j1, -⟩ := sySet_I (Int.le_refl 1) S o c K hI
      have htop := sySet_top (l := 1) S K
      show dpK u (sySet 1 S K).2 (bnS (sySet 1 S K).1.tail + 1)
      obtain ⟨R, hR⟩ : ∃ R, R = sySet 1 S K := ⟨_, rfl⟩
      rw [← hR] at h1 j1 htop ⊢
      obtain ⟨R1, R2⟩ := R
      match R1, h1, j1, htop with
      | [], h1, _, _ => exact h1
      | s :: R1, h1, j1, htop =>
        have hs : s = 24 := by
          rcases j1 s List.mem_cons_self with q | q
          · exact q
          · rcases htop with r | r
            · have r : rk s < 1 := r
              omega
            · cases r
        have e : bnS (s :: R1) = bnS R1 := by show bnS R1 + (if s = 24 ∨ s = 13 then 0 else 1) = _; rw [if_pos (Or.inl hs)]; omega
        have h1 : dpK u R2 (bnS (s :: R1) + 1) := h1
        rw [e] at h1
        exact h1
    · by_cases q2 : rk t.1 = 0 ∨ t.1 = 13
      · rw [sy_no q1 q2] at h; cases h
      · have hr := rk_in t.1
        have hr2 := hr.2.2 (by omega)
        have e : ∀ R : List Int, bnS (t.1 :: R) = bnS R + 1 := fun R => by show bnS R + (if t.1 = 24 ∨ t.1 = 13 then 0 else 1) = _; rw [if_neg (by omega)]
        by_cases q4 : rk t.1 = 4
        · rw [sy_cmp q4] at h
          by_cases a : syTr (sySet 5 S K).1 = 4
          · rw [if_pos a] at h; cases h
          rw [if_neg a] at h
          by_cases b : 64 ≤ c
          · rw [if_pos b] at h; cases h
          rw [if_neg b] at h
          cases h
          show dpK u (sySet 5 S K).2 (bnS (t.1 :: (sySet 5 S K).1) + 0)
          rw [e]
          exact dpK.set (by decide) S K hD
        · rw [sy_op (by omega) q4 (fun q => q2 (Or.inr q))] at h
          by_cases b : 64 ≤ c
          · rw [if_pos b] at h; cases h
          rw [if_neg b] at h
          cases h
          show dpK u (sySet (rk t.1) S K).2 (bnS (t.1 :: (sySet (rk t.1) S K).1) + 0)
          rw [e]
          exact dpK.set (by omega) S K hD
  · have hD : dpK u K (bnS S + 0) := hD
    by_cases q22 : t.1 = 22
    · rw [sy_num q22] at h
      by_cases a : 9999 < t.2.2
      · rw [if_pos a] at h; cases h
      rw [if_neg a] at h
      by_cases b : 64 ≤ c
      · rw [if_pos b] at h; cases h
      rw [if_neg b] at h
      cases h
      have := (hg.2 q22).1
      exact hD.put (by unfold dpStep; rw [if_pos (Or.inl this)]; rfl)
    by_cases q14 : 14 ≤ t.1 ∧ t.1 ≤ 20
    · rw [sy_nam q14] at h
      by_cases b : 64 ≤ c
      · rw [if_pos b] at h; cases h
      rw [if_neg b] at h
      cases h
      exact hD.put (by unfold dpStep; rw [Int.neg_neg, if_pos (Or.inr q14)]; rfl)
    by_cases q13 : t.1 = 13
    · rw [sy_not q13] at h
      by_cases a : 3 < syTr S
      · rw [if_pos a] at h; cases h
      rw [if_neg a] at h
      by_cases b : 64 ≤ c
      · rw [if_pos b] at h; cases h
      rw [if_neg b] at h
      cases h
      exact hD
    by_cases q24 : t.1 = 24
    · rw [sy_opn q24] at h
      by_cases a : 8 ≤ o
      · rw [if_pos a] at h; cases h
      rw [if_neg a] at h
      cases h
      exact hD
    rw [sy_bad q22 q14 q13 q24] at h
    cases h
theorem syRun_dp {u : Int} : ∀ (ts : List Tk) (w : Int) (S : List Int) (o c : Int) (K : Kn) (q : List Tk × Kn), (w = 0 ∨ w = 1) → (∀ t ∈ ts, tkG t) → SyI S o c K → dpK u K (bnS S + (if w = 1 then 0 else 1)) → syRun ts (w, S, o, c, K) = .inr q → dpK u q.2 1
  | [], _, _, _, _, _, _, _, _, _, _, h => by cases h
  | t :: ts, w, S, o, c, K, q, hw, hg, hI, hD, h => by
    by_cases e : (w, S, o, c, K).1 ≠ 1 ∧ t.1 = 23 ∧ (w, S, o, c, K).2.2.1 = 0
    · rw [syRun_end e] at h
      cases h
      have e1 : w ≠ 1 := e.1
      have e3 : o = 0 := e.2.2
      rw [if_neg e1] at hD
      have h1 := dpK.set (Int.le_refl 1) S K hD
      obtain ⟨j1, -, j3, -⟩ := sySet_I (Int.le_refl 1) S o c K hI
      have htop := sySet_top (l := 1) S K
      show dpK u (sySet 1 S K).2 1
      obtain ⟨R, hR⟩ : ∃ R, R = sySet 1 S K := ⟨_, rfl⟩
      rw [← hR] at h1 j1 j3 htop ⊢
      obtain ⟨R1, R2⟩ := R
      match R1, h1, j1, j3, htop with
      | [], h1, _, _, _ => exact h1
      | s :: R1, h1, j1, j3, htop =>
        have hs : s = 24 := by
          rcases j1 s List.mem_cons_self with q | q
          · exact q
          · rcases htop with r | r
            · have r : rk s < 1 := r
              omega
            · cases r
        have j3 : opn R1 + (if s = 24 then 1 else 0) = o := j3
        rw [if_pos hs] at j3
        have := (sg_len R1).2.2
        omega
    · rw [syRun_go e] at h
      cases hs : sy1 t (w, S, o, c, K) with
      | inl f => rw [hs] at h; cases h
      | inr s' =>
        rw [hs] at h
        have h1 := sy_I hw hI hs
        have h2 := sy_dp hw (hg t List.mem_cons_self) hI hD hs
        obtain ⟨w', S', o', c', K'⟩ := s'
        have hw' : w' = 0 ∨ w' = 1 := by
          have := h1.2
          have this : w' = _ := this
          rw [this]
          split
          · exact Or.inl rfl
          · exact Or.inr rfl
        exact syRun_dp ts w' S' o' c' K' q hw' (fun x hx => hg x (List.mem_cons_of_mem _ hx)) h1.1 h2 h
theorem law_dp {u : Int} {f : Int → Int} {ts : List Tk} {q : List Tk × Kn} (hg : ∀ t ∈ ts, tkG t) (hu : 0 ≤ u) (hu1 : u ≤ 64) (h : syRun ts (1, [], 0, u, (u, f)) = .inr q) : dpRun q.2.2 (q.2.1 - u).toNat u 0 = some 1 ∧ u < q.2.1 := by
  have h1 := syRun_dp (u := u) ts 1 [] 0 u (u, f) q (Or.inr rfl) hg ⟨fun s hs => (nomatch hs), by show u + 0 = u; omega, rfl, hu, hu1, by decide⟩ ⟨Int.le_refl u, by show dpRun f (u - u).toNat u 0 = some 0; rw [show (u - u).toNat = 0 by omega]; rfl⟩ h
  refine ⟨h1.2, ?_⟩
  have h2 := h1.1
  have h3 := h1.2
  rcases (show u = q.2.1 ∨ u < q.2.1 by omega) with e | e
  · rw [show (q.2.1 - u).toNat = 0 by omega] at h3
    cases h3
  · exact e

