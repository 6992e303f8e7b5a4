/-! ===== knots that were put stay; each law leaves one value ===== -/
def KL (K K' : Kn) : Prop := K.1 ≤ K'.1 ∧ ∀ i, i < K.1 → K'.2 i = K.2 i
theorem KL.rf (K : Kn) : KL K K := ⟨Int.le_refl _, fun _ _ => rfl⟩
theorem KL.tr {K K' K'' : Kn} (h : KL K K') (h' : KL K' K'') : KL K K'' := ⟨Int.le_trans h.1 h'.1, fun i q => (h'.2 i (Int.lt_of_lt_of_le q h.1)).trans (h.2 i q)⟩
theorem KL.put (K : Kn) (v : Int) : KL K (kput K v) := ⟨by show K.1 ≤ K.1 + 1; omega, fun i q => by show uf K.2 K.1 v i = _; unfold uf; rw [if_neg (by omega)]⟩
theorem KL.set {l : Int} : ∀ (S : List Int) (K : Kn), KL K (sySet l S K).2
  | [], K => KL.rf K
  | s :: S, K => by
    simp only [sySet]
    by_cases q : l ≤ rk s
    · rw [if_pos q]; exact (KL.put K _).tr (KL.set S _)
    · rw [if_neg q]; exact KL.rf K
theorem sy_KL {t : Tk} {s s' : Sy} (h : sy1 t s = .inr s') : KL s.2.2.2.2 s'.2.2.2.2 := by
  unfold sy1 at h
  split at h
  · split at h
    · split at h
      · cases h
      split at h
      · cases h
      cases h; exact KL.put _ _
    split at h
    · split at h
      · cases h
      cases h; exact KL.put _ _
    split at h
    · split at h
      · cases h
      split at h
      · cases h
      cases h; exact KL.rf _
    split at h
    · split at h
      · cases h
      cases h; exact KL.rf _
    cases h
  · split at h
    · cases h; exact KL.set _ _
    split at h
    · cases h
    by_cases a3 : rk t.1 = 4 ∧ syTr (sySet (if rk t.1 = 4 then 5 else rk t.1) s.2.1 s.2.2.2.2).1 = 4
    · rw [if_pos a3] at h; cases h
    rw [if_neg a3] at h
    by_cases a4 : 64 ≤ s.2.2.2.1
    · rw [if_pos a4] at h; cases h
    rw [if_neg a4] at h
    cases h; exact KL.set _ _
theorem syRun_KL : ∀ (ts : List Tk) (s : Sy) (q : List Tk × Kn), syRun ts s = .inr q → KL s.2.2.2.2 q.2
  | [], _, _, h => by cases h
  | t :: ts, s, q, h => by
    by_cases e : s.1 ≠ 1 ∧ t.1 = 23 ∧ s.2.2.1 = 0
    · rw [syRun_end e] at h
      cases h
      exact KL.set _ _
    · rw [syRun_go e] at h
      cases hs : sy1 t s with
      | inl f => rw [hs] at h; cases h
      | inr s' =>
        rw [hs] at h
        exact (sy_KL hs).tr (syRun_KL ts s' q h)
def DPi (δ : Dl) : Prop := ∀ k, 0 ≤ k → k < 3 → δ 36 k < δ 37 k → dpRun (δ 35) (δ 37 k - δ 36 k).toNat (δ 36 k) 0 = some 1
theorem DPi.cg {δ δ' : Dl} (h : DPi δ) (h35 : δ' 35 = δ 35) (h36 : δ' 36 = δ 36) (h37 : δ' 37 = δ 37) : DPi δ' := by
  unfold DPi
  rw [h35, h36, h37]
  exact h
theorem lLine_dp {δ : Dl} {ts : List Tk} {q : Dl × List Tk} (hO : DOk δ) (hP : DPi δ) (hG : ∀ x ∈ ts, tkG x) (h : lLine δ ts = .inr q) : DPi q.1 := by
  match ts, hG, h with
  | [], _, h => cases h
  | t :: r, hG, h =>
    simp only [lLine] at h
    by_cases e0 : t.1 = 0
    · rw [if_pos e0] at h
      unfold lLand at h
      split at h
      · cases h
      obtain ⟨v1, t1, -, h⟩ := bnd_ok h
      cases h; exact hP.cg rfl rfl rfl
    rw [if_neg e0] at h
    by_cases e1 : t.1 = 1
    · rw [if_pos e1] at h
      unfold lPar at h
      split at h
      · cases h
      obtain ⟨v1, t1, -, h⟩ := bnd_ok h
      obtain ⟨v2, t2, -, h⟩ := bnd_ok h
      obtain ⟨v3, t3, -, h⟩ := bnd_ok h
      by_cases hc : hasCh δ v2 v3
      · rw [@if_pos _ (Classical.propDecidable _) hc] at h; cases h
      · rw [@if_neg _ (Classical.propDecidable _) hc] at h
        cases h; exact hP.cg rfl rfl rfl
    rw [if_neg e1] at h
    by_cases e2 : t.1 = 2
    · rw [if_pos e2] at h
      unfold lChi at h
      split at h
      · cases h
      obtain ⟨v1, t1, -, h⟩ := bnd_ok h
      obtain ⟨v2, t2, -, h⟩ := bnd_ok h
      obtain ⟨v3, t3, -, h⟩ := bnd_ok h
      cases h; exact hP.cg rfl rfl rfl
    rw [if_neg e2] at h
    by_cases e3 : t.1 = 3
    · rw [if_pos e3] at h
      unfold lBeat at h
      split at h
      · cases h
      obtain ⟨v1, t1, -, h⟩ := bnd_ok h
      obtain ⟨v2, t2, -, h⟩ := bnd_ok h
      obtain ⟨v3, t3, -, h⟩ := bnd_ok h
      obtain ⟨v4, t4, -, h⟩ := bnd_ok h
      cases h; exact hP.cg rfl rfl rfl
    rw [if_neg e3] at h
    by_cases e4 : t.1 = 4
    · rw [if_pos e4] at h
      unfold lCake at h
      obtain ⟨v1, t1, -, h⟩ := bnd_ok h
      obtain ⟨v2, t2, -, h⟩ := bnd_ok h
      split at h
      · cases h
      obtain ⟨v3, t3, -, h⟩ := bnd_ok h
      cases h; exact hP.cg rfl rfl rfl
    rw [if_neg e4] at h
    by_cases e5 : t.1 = 5
    · rw [if_pos e5] at h
      unfold lRain at h
      split at h
      · cases h
      obtain ⟨v1, t1, -, h⟩ := bnd_ok h
      cases h; exact hP.cg rfl rfl rfl
    rw [if_neg e5] at h
    by_cases e6 : t.1 = 6
    · rw [if_pos e6] at h
      unfold lSeed at h
      split at h
      · cases h
      obtain ⟨v1, t1, -, h⟩ := bnd_ok h
      cases h; exact hP.cg rfl rfl rfl
    rw [if_neg e6] at h
    by_cases e7 : t.1 = 7
    · rw [if_pos e7] at h
      obtain ⟨o0, o1, o2, o3, o4, o5, o6, o7, o8, o9, oc, ob, ok, og, ou, ow, ox, ot, oz, oy⟩ := id hO
      match r, hG, h with
      | [], _, h => cases h
      | t1 :: r1, hG, h =>
        simp only [lLaw] at h
        by_cases f1 : t1.1 < 8 ∨ 10 < t1.1
        · rw [if_pos f1] at h; cases h
        rw [if_neg f1] at h
        by_cases f2 : δ 36 (t1.1 - 8) < δ 37 (t1.1 - 8)
        · rw [if_pos f2] at h; cases h
        rw [if_neg f2] at h
        cases hs : syRun r1 (1, [], 0, δ 34 4, (δ 34 4, δ 35)) with
        | inl e => rw [hs] at h; cases h
        | inr q1 =>
          rw [hs] at h
          cases h
          have hl := syRun_KL _ _ _ hs
          have hd := law_dp (fun x hx => hG x (List.mem_cons_of_mem _ (List.mem_cons_of_mem _ hx))) ou.1 ou.2 hs
          intro k k0 k3
          show uf (δ 36) (t1.1 - 8) (δ 34 4) k < uf (δ 37) (t1.1 - 8) q1.2.1 k → dpRun q1.2.2 (uf (δ 37) (t1.1 - 8) q1.2.1 k - uf (δ 36) (t1.1 - 8) (δ 34 4) k).toNat (uf (δ 36) (t1.1 - 8) (δ 34 4) k) 0 = some 1
          unfold uf
          by_cases g : k = t1.1 - 8
          · rw [if_pos g, if_pos g]
            exact fun _ => hd.1
          · rw [if_neg g, if_neg g]
            intro hlt
            have h3 := ow k k0 k3
            rw [dpRun_c (g := δ 35) _ _ _ (fun j a b => hl.2 j (by show j < δ 34 4; omega))]
            exact hP k k0 k3 hlt
    rw [if_neg e7] at h
    cases h
theorem lLE_ok {δ : Dl} {t : Tk} {r : List Tk} {q : Dl × List Tk} (hO : DOk δ) (hP : DPi δ) (hG : ∀ x ∈ t :: r, tkG x) (hl : δ 23 1 + 1 ≤ 701) (h : lLE δ (t :: r) = .inr q) : DOk q.1 ∧ DPi q.1 ∧ q.1 23 1 = δ 23 1 + 1 ∧ q.2.length < (t :: r).length ∧ ∀ x ∈ q.2, tkG x := by
  unfold lLE at h
  cases hq : lLine δ (t :: r) with
  | inl e => rw [hq] at h; cases h
  | inr q1 =>
    rw [hq] at h
    obtain ⟨h1, h2, p, h3⟩ := lLine_ok hO hG hl hq
    have h4 := lLine_dp hO hP hG hq
    obtain ⟨h5, t', h6, h7⟩ := lEnds_ok h
    have e1 : q1.1 23 1 + 1 = δ 23 1 + 1 := by rw [h2]
    refine ⟨by rw [h5, e1]; exact h1, by rw [h5]; exact h4.cg rfl rfl rfl, by rw [h5]; exact e1, ?_, ?_⟩
    · rw [h3, h6]
      simp only [List.length_cons, List.length_append]
      omega
    · intro x hx
      apply hG
      rw [h3, h6]
      exact List.mem_cons_of_mem _ (List.mem_append_right _ (List.mem_cons_of_mem _ hx))
theorem lText_0 {k : Nat} {δ : Dl} {ts : List Tk} (h : hkd ts = 37) : lText (k + 1) δ ts = .inr (δ, ts) := by
  simp only [lText]
  exact if_pos h
theorem lText_l {k : Nat} {δ : Dl} {ts : List Tk} {e : Int × Int} (h : hkd ts ≠ 37) (hl : lLE δ ts = .inl e) : lText (k + 1) δ ts = .inl e := by
  simp only [lText]
  rw [if_neg h]
  unfold lLE at hl
  cases hq : lLine δ ts with
  | inl e' => rw [hq] at hl; cases hl; rfl
  | inr q => rw [hq] at hl; show (match lEnds q.1 q.2 with | .inl e => Sum.inl e | .inr q' => lText k q'.1 q'.2) = _; rw [show lEnds q.1 q.2 = .inl e from hl]
theorem lText_r {k : Nat} {δ : Dl} {ts : List Tk} {q : Dl × List Tk} (h : hkd ts ≠ 37) (hl : lLE δ ts = .inr q) : lText (k + 1) δ ts = lText k q.1 q.2 := by
  simp only [lText]
  rw [if_neg h]
  unfold lLE at hl
  cases hq : lLine δ ts with
  | inl e' => rw [hq] at hl; cases hl
  | inr q1 => rw [hq] at hl; show (match lEnds q1.1 q1.2 with | .inl e => Sum.inl e | .inr q' => lText k q'.1 q'.2) = _; rw [show lEnds q1.1 q1.2 = .inr q from hl]
/-! ===== a row filled in part; the upper half laid over the lower one; a number by another of the same int ===== -/
def flA (σ : Sg) (k : Nat) (lo n : Int) (f : Int → Int) : Sg := (fun a i => if a = k ∧ lo ≤ i ∧ i < lo + n then f i else σ.1 a i, σ.2)
theorem flA_1 (σ : Sg) (k : Nat) (lo n : Int) (f : Int → Int) (a : Nat) (i : Int) : (flA σ k lo n f).1 a i = if a = k ∧ lo ≤ i ∧ i < lo + n then f i else σ.1 a i := rfl
theorem flA_ne (σ : Sg) {k a : Nat} (h : a ≠ k) (lo n : Int) (f : Int → Int) : (flA σ k lo n f).1 a = σ.1 a := by
  funext i
  exact if_neg (fun q => h q.1)
theorem flA_0 (σ : Sg) (k : Nat) (lo : Int) (f : Int → Int) : flA σ k lo 0 f = σ := by
  apply Prod.ext
  · funext a i
    exact if_neg (by omega)
  · rfl
theorem flA_s (σ : Sg) (k : Nat) {lo n j v : Int} {f : Int → Int} (hn : 0 ≤ n) (hj : j = lo + n) (hv : v = f j) : sI (flA σ k lo n f) k j v = flA σ k lo (n + 1) f := by
  apply Prod.ext
  · funext a i
    rw [sI_1, flA_1, flA_1]
    by_cases q : a = k
    · by_cases r : i = j
      · rw [if_pos ⟨q, r⟩, if_pos ⟨q, by omega, by omega⟩, hv, r]
      · rw [if_neg (fun w => r w.2)]
        by_cases w : lo ≤ i ∧ i < lo + n
        · rw [if_pos ⟨q, w⟩, if_pos ⟨q, w.1, by omega⟩]
        · rw [if_neg (fun u => w u.2), if_neg (fun u => w ⟨u.2.1, by omega⟩)]
    · rw [if_neg (fun w => q w.1), if_neg (fun w => q w.1), if_neg (fun w => q w.1)]
  · rfl
theorem flA_c (σ : Sg) {k k' : Nat} (h : k ≠ k') (lo n : Int) (f : Int → Int) (j v : Int) : sI (flA σ k lo n f) k' j v = flA (sI σ k' j v) k lo n f := by
  apply Prod.ext
  · funext a i
    rw [sI_1, flA_1, flA_1, sI_1]
    by_cases q : a = k
    · have q' : ¬ (a = k' ∧ i = j) := fun w => h (q.symm.trans w.1)
      rw [if_neg q', if_neg q']
    · have q' : ¬ (a = k ∧ lo ≤ i ∧ i < lo + n) := fun w => q w.1
      rw [if_neg q', if_neg q']
  · rfl
theorem J_nm {G : Gx} {d : Nat} {M : Mt} {Post : Option Value → Sg → Prop} {σ : Sg} {pc : Nat} {L : List (Option Value)} {st : List Value} {v : Int} (hv : iZ v = iZ (σ.1 82 25)) (h : J G d M Post (sI σ 82 25 v) pc L st) : J G d M Post σ pc L st := by
  have e : ∀ a c, ent G.2.2.1 G.2.2.2 (sI σ 82 25 v) a c = ent G.2.2.1 G.2.2.2 σ a c := by
    intro a c
    have h0 : ∀ i, iZ ((sI σ 82 25 v).1 a i) = iZ (σ.1 a i) := fun i => by
      rw [sI_1]
      by_cases q : a = 82 ∧ i = 25
      · rw [if_pos q, q.1, q.2]; exact hv
      · rw [if_neg q]
    cases c with
    | inl c =>
      obtain ⟨t, n⟩ := c
      unfold ent avl
      match t with
      | 1 => rfl
      | 0 => simp only [h0]
      | t + 2 => simp only [h0]
    | inr c =>
      obtain ⟨ci, fl⟩ := c
      have h1 : ∀ j f, fvl G.2.2.2 (sI σ 82 25 v) a j f = fvl G.2.2.2 σ a j f := fun j f => by
        unfold fvl
        match f with
        | 0 => simp only [h0]
        | 1 => rfl
        | t + 2 => rfl
      unfold ent
      simp only [h1]
  have ew : gW G (sI σ 82 25 v) = gW G σ := by
    unfold gW wsOf
    simp only [e]
  intro p e' s m args below meth c H locs ls h1 h2 h3 h4 h5 h6 h7 h8 h9 h10 h11
  refine h p e' s m args below meth c H locs ls h1 h2 h3 h4 h5 h6 h7 h8 ?_ h10 h11
  unfold gP at h9 ⊢
  rw [ew]
  exact h9

