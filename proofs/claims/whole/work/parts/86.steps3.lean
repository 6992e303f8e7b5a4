/-! ===== deeds ===== -/
theorem Rel.nu {σ τ : Sg} (h : Rel σ) (hF : Fr [17, 39, 40, 41, 42, 43, 55, 56, 57, 58, 59, 60, 61, 82, 100, 101, 102, 103, 104, 105, 106, 107, 108] σ τ) (hf : ∀ j, j ∈ ([2, 28, 29, 42, 44, 45, 53, 54] : List Int) → τ.1 82 j = σ.1 82 j) (hl2 : ldm τ 2 = ldm σ 2) (hN : RN τ) (hU : RU τ) : Rel τ := by
  obtain ⟨hA, -, hG, -, hS, hX⟩ := id h
  have hc : ∀ a : Nat, a ∉ [17, 39, 40, 41, 42, 43, 55, 56, 57, 58, 59, 60, 61, 82, 100, 101, 102, 103, 104, 105, 106, 107, 108] → τ.1 a = σ.1 a := fun a q => (hF a q).1
  exact ⟨hA.cg (fun a q => hc a (by simp only [List.mem_cons, List.not_mem_nil, or_false]; omega)), hN, hG.cg h.n4 h.n6 (hc 2 (by decide)) (by rw [hc 0 (by decide)]) (hf 42 (by decide)) (fun a p q => hc a (by simp only [List.mem_cons, List.not_mem_nil, or_false]; omega)) (by rw [(hF 49 (by decide)).2]) hl2, hU, hS.cg (fun a q => hc a (by simp only [List.mem_cons, List.not_mem_nil, or_false]; omega)) (hf 53 (by decide)) (hf 54 (by decide)) (fun k a b => by rw [hc 69 (by decide)]; exact (h.si.2.2.1 k a b).2.2.2.2.2.2) (fun k a b => by rw [hc 118 (by decide)]; exact (h.mn.2.2.1 k a b).2.2.2.2.2.2), hX.cg (fun a q => hc a (by simp only [List.mem_cons, List.not_mem_nil, or_false]; omega)) (by rw [hc 0 (by decide)]) (by rw [hc 19 (by decide)]; exact ⟨rfl, rfl⟩) (fun j q => hf j (by simp only [List.mem_cons, List.not_mem_nil, or_false] at q ⊢; omega))⟩
theorem uf_back (f : Int → Int) (s v : Int) : uf (uf f s v) s (f s) = f := by
  funext i
  unfold uf
  by_cases q : i = s
  · rw [if_pos q, q]
  · rw [if_neg q, if_neg q]
theorem uf_at (f : Int → Int) (s v : Int) : uf f s v s = v := if_pos rfl
theorem uf_ne (f : Int → Int) {s i : Int} (h : i ≠ s) (v : Int) : uf f s v i = f i := if_neg h
theorem RU_note {σ σ2 : Sg} (hR : Rel σ) {s c a b t : Int} (hs0 : 0 ≤ s) (hs1 : s < 16) (hc0 : -1 ≤ c) (hc6 : c < 6) (h2 : σ2.1 2 = σ.1 2) (e40 : σ2.1 40 = uf (σ.1 40) s a) (e41 : σ2.1 41 = uf (σ.1 41) s b) (e43 : σ2.1 43 = if c = -1 then σ.1 43 else uf (σ.1 43) c t) (e42 : σ2.1 42 = σ.1 42) (e39 : σ2.1 39 5 = σ.1 39 5 ∧ σ2.1 39 6 = σ.1 39 6) (e7 : σ2.2 39 7 = σ.2 39 7)
    (e57 : σ2.1 57 = uf (σ.1 57) (dK σ) s) (e58 : σ2.1 58 = uf (σ.1 58) (dK σ) (σ.1 40 s)) (e59 : σ2.1 59 = uf (σ.1 59) (dK σ) (σ.1 41 s)) (e60 : σ2.1 60 = uf (σ.1 60) (dK σ) c) (e61 : σ2.1 61 = uf (σ.1 61) (dK σ) (if c = -1 then 0 else σ.1 43 c)) (e6 : σ2.1 56 6 = min (σ.1 56 6 + 1) 20) (e5 : σ2.1 56 5 = if σ.1 56 6 < 20 then σ.1 56 5 else (σ.1 56 5 + 1) % 20)
    (m43 : σ2.1 82 43 = min (σ.1 56 6 + 1) 20) (mL : ∀ j, 0 ≤ j → j < min (σ.1 56 6 + 1) 20 - 1 → ldm σ2 (3 + j) = ldm σ (3 + j + (σ.1 56 6 + 1 - min (σ.1 56 6 + 1) 20))) (m0 : ldm σ2 (3 + (min (σ.1 56 6 + 1) 20 - 1)) = ldm σ 0) : RU σ2 := by
  obtain ⟨d1, d2, d3, d4⟩ := hR.2.2.2.1
  obtain ⟨⟨do0, do1⟩, ⟨dh0, dh1⟩, dk⟩ := id d1
  have hLI := hR.li
  obtain ⟨h, hh⟩ : ∃ h, σ.1 56 6 = h := ⟨_, rfl⟩
  obtain ⟨q, hq⟩ : ∃ q, σ.1 56 5 = q := ⟨_, rfl⟩
  have hdK : dK σ = (q + h) % 20 := by unfold dK; rw [hh, hq]
  rw [hh] at dh0 dh1 e6 e5 m43 mL m0 d2 d3 d4
  rw [hq] at do0 do1 e5
  have hkey : ∀ j : Nat, (j : Int) + 1 ≤ min (h + 1) 20 → ubk σ2 (j + 1) = ubk σ j := by
    intro j
    induction j with
    | zero =>
      intro _
      have hx : (σ2.1 56 5 + (σ2.1 56 6 - 1 - ((0 : Nat) : Int))) % 20 = dK σ := by
        rw [hdK, e5, e6]
        by_cases w : h < 20
        · rw [if_pos w]; congr 1; omega
        · rw [if_neg w]; omega
      simp only [ubk]
      rw [hx]
      unfold un1
      dsimp only
      rw [e57, e58, e59, e60, e61, uf_at, uf_at, uf_at, uf_at, uf_at, e40, e41, e43, uf_back, uf_back]
      by_cases w : c = -1
      · rw [if_pos w, if_pos w]
      · rw [if_neg w, if_neg w, if_neg w, uf_back]
    | succ j ih =>
      intro hj
      have hj2 : (j : Int) + 1 + 1 ≤ min (h + 1) 20 := by
        have : ((j + 1 : Nat) : Int) = (j : Int) + 1 := by omega
        omega
      have hx : (σ2.1 56 5 + (σ2.1 56 6 - 1 - ((j + 1 : Nat) : Int))) % 20 = (q + (h - 1 - j)) % 20 := by
        rw [e5, e6]
        by_cases w : h < 20
        · rw [if_pos w]; congr 1; omega
        · rw [if_neg w]; omega
      have hne : (q + (h - 1 - j)) % 20 ≠ dK σ := by rw [hdK]; omega
      have hun : ubk σ2 (j + 1 + 1) = un1 σ2 ((σ2.1 56 5 + (σ2.1 56 6 - 1 - ((j + 1 : Nat) : Int))) % 20) (ubk σ2 (j + 1)) := rfl
      rw [hun, hx, ih (by omega)]
      have hun' : ubk σ (j + 1) = un1 σ ((q + (h - 1 - j)) % 20) (ubk σ j) := by
        rw [← hq, ← hh]
        rfl
      rw [hun']
      unfold un1
      rw [e57, e58, e59, e60, e61, uf_ne _ hne, uf_ne _ hne, uf_ne _ hne, uf_ne _ hne, uf_ne _ hne]
  refine ⟨?_, ?_, fun u a b => ?_, fun j a b => ?_⟩
  · unfold DI
    rw [e5, e6, e57, e58, e59, e60, e61]
    refine ⟨?_, by omega, fun k a b => ?_⟩
    · split <;> omega
    · have hs := hLI.1 s hs0 hs1
      by_cases w : k = dK σ
      · rw [w, uf_at, uf_at, uf_at, uf_at, uf_at]
        refine ⟨⟨hs0, hs1⟩, ⟨hs.1, hs.2.1⟩, ⟨hs.2.2.1, hs.2.2.2⟩, ⟨hc0, hc6⟩, ?_⟩
        by_cases w2 : c = -1
        · rw [if_pos w2]; decide
        · rw [if_neg w2]
          have ht := hLI.2.1 c (by omega) hc6
          exact ⟨ht.2.2.1, ht.2.2.2⟩
      · rw [uf_ne _ w, uf_ne _ w, uf_ne _ w, uf_ne _ w, uf_ne _ w]
        exact dk k a b
  · rw [m43, e6]
  · rw [e6] at b
    by_cases w : u = 3 + (min (h + 1) 20 - 1)
    · rw [w]; exact hR.mi.ld m0
    · have hm := mL (u - 3) (by omega) (by omega)
      rw [show 3 + (u - 3) = u by omega] at hm
      exact (d3 _ (by omega) (by omega)).ld hm
  · rw [e6] at b ⊢
    by_cases w : j = 1
    · subst w
      rw [hkey 0 (by omega)]
      refine UDj.cg (σ := σ) (u := 0) ⟨fun i p q => ⟨(hR.far p q).symm, (hR.cak p q).symm⟩, fun i p q => ⟨(hR.leg p q).symm, (hR.tir p q).symm⟩, hR.qua.symm, hR.yea.symm, hR.num.symm⟩ hR.n4 hR.n6 h2 e39 (fun i _ _ => by rw [e42]) e7 m0
    · obtain ⟨i, rfl⟩ : ∃ i, j = i + 1 := ⟨j - 1, by omega⟩
      rw [hkey i (by omega)]
      have hm := mL (min (h + 1) 20 - ((i + 1 : Nat) : Int)) (by omega) (by omega)
      rw [show 3 + (min (h + 1) 20 - ((i + 1 : Nat) : Int)) + (h + 1 - min (h + 1) 20) = 3 + (h - (i : Int)) by omega] at hm
      exact (d4 i (by omega) (by omega)).cg hR.n4 hR.n6 h2 e39 (fun i _ _ => by rw [e42]) e7 hm
/-- what a note leaves -/
theorem nF_c (σ : Sg) (s c : Int) : Fr [56, 57, 58, 59, 60, 61] σ (nF σ s c) ∧ (nF σ s c).1 57 = uf (σ.1 57) (dK σ) s ∧ (nF σ s c).1 58 = uf (σ.1 58) (dK σ) (σ.1 40 s) ∧ (nF σ s c).1 59 = uf (σ.1 59) (dK σ) (σ.1 41 s) ∧ (nF σ s c).1 60 = uf (σ.1 60) (dK σ) c ∧ (nF σ s c).1 61 = uf (σ.1 61) (dK σ) (if c = -1 then 0 else σ.1 43 c) := by
  have h0 : Fr [56, 57, 58, 59, 60, 61] σ (nF0 σ s c) := by
    unfold nF0
    exact (((((Fr.rf _ _).sI (by decide) _ _).sI (by decide) _ _).sI (by decide) _ _).sI (by decide) _ _).sI (by decide) _ _
  have g : ∀ k : Nat, k ≠ 56 → (nF σ s c).1 k = (nF0 σ s c).1 k := fun k hk => by
    unfold nF
    split
    · rw [sI_ne _ hk]
    · rw [sI_ne _ hk]
  refine ⟨?_, ?_, ?_, ?_, ?_, ?_⟩
  · unfold nF
    split
    · exact h0.sI (by decide) _ _
    · exact h0.sI (by decide) _ _
  · rw [g 57 (by decide)]; unfold nF0; rw [sI_ne _ (by decide), sI_ne _ (by decide), sI_ne _ (by decide), sI_ne _ (by decide), sI_uf]
  · rw [g 58 (by decide)]; unfold nF0; rw [sI_ne _ (by decide), sI_ne _ (by decide), sI_ne _ (by decide), sI_uf, sI_ne _ (by decide)]
  · rw [g 59 (by decide)]; unfold nF0; rw [sI_ne _ (by decide), sI_ne _ (by decide), sI_uf, sI_ne _ (by decide), sI_ne _ (by decide)]
  · rw [g 60 (by decide)]; unfold nF0; rw [sI_ne _ (by decide), sI_uf, sI_ne _ (by decide), sI_ne _ (by decide), sI_ne _ (by decide)]
  · rw [g 61 (by decide)]; unfold nF0; rw [sI_uf, sI_ne _ (by decide), sI_ne _ (by decide), sI_ne _ (by decide), sI_ne _ (by decide)]
theorem nF_56 (σ : Sg) (s c : Int) (h : σ.1 56 6 ≤ 20) : (nF σ s c).1 56 6 = min (σ.1 56 6 + 1) 20 ∧ (nF σ s c).1 56 5 = if σ.1 56 6 < 20 then σ.1 56 5 else (σ.1 56 5 + 1) % 20 := by
  have h0 : (nF0 σ s c).1 56 = σ.1 56 := by unfold nF0; rw [sI_ne _ (by decide), sI_ne _ (by decide), sI_ne _ (by decide), sI_ne _ (by decide), sI_ne _ (by decide)]
  unfold nF
  by_cases w : σ.1 56 6 < 20
  · rw [if_pos w, if_pos w, sI_1, if_pos ⟨rfl, rfl⟩, sI_1, if_neg (by decide), h0]
    exact ⟨by omega, rfl⟩
  · rw [if_neg w, if_neg w, sI_1, if_neg (by decide), sI_1, if_pos ⟨rfl, rfl⟩, h0]
    exact ⟨by omega, rfl⟩
set_option maxHeartbeats 2000000 in
theorem st_undo {G : Gx} {σ : Sg} (hR : Rel σ) : Con G 2 mX11_undo [.ref (G.2.2.2 + 0)] σ (pI (fun z σ1 => Con G 2 mX12_undo [.ref (G.2.2.2 + 82)] σ1 (pI (fun z' σ2 => z' = z ∧ Rel σ2)))) := by
  refine Con_mono (c_X11_undo hR.di) (fun ro σ1 hq => ?_)
  obtain ⟨z, er, hq⟩ := hq
  refine ⟨z, er, ?_⟩
  have hb0 : Fr [40, 41, 43, 56] σ (tB σ) := by
    unfold tB tB0
    split
    · exact (((Fr.rf _ _).sI (by decide) _ _).sI (by decide) _ _).sI (by decide) _ _
    · exact ((((Fr.rf _ _).sI (by decide) _ _).sI (by decide) _ _).sI (by decide) _ _).sI (by decide) _ _
  have hs : SM σ (sI σ1 82 0 0) := by
    rcases hq with ⟨_, _, e⟩ | ⟨_, _, e⟩
    · rw [e]; exact SM.rf σ
    · rw [e]; exact SM.of hb0 (by decide)
  have e43 := hs.2 43 (by decide)
  have h43 := hR.h43
  obtain ⟨d1, d2, d3, d4⟩ := hR.2.2.2.1
  obtain ⟨⟨do0, do1⟩, ⟨dh0, dh1⟩, dk⟩ := id d1
  refine Con_mono (c_X12_undo rfl (by omega) (by omega)) (fun ro' σ2 hq' => ?_)
  obtain ⟨z', er', hq'⟩ := hq'
  refine ⟨z', er', ?_⟩
  rw [e43, h43] at hq'
  rcases hq with ⟨k, ez, e⟩ | ⟨k, ez, e1⟩
  · rcases hq' with ⟨_, ez', e'⟩ | ⟨k', _⟩
    · rw [e', e, ez, ez']; exact ⟨rfl, hR.th⟩
    · exact absurd k k'
  rcases hq' with ⟨k', _⟩ | ⟨_, ez', hC⟩
  · exact absurd k' k
  refine ⟨by rw [ez', ez], ?_⟩
  subst e1
  have hbK : (σ.1 56 5 + (σ.1 56 6 - 1 - ((0 : Nat) : Int))) % 20 = bK σ := by
    unfold bK
    rw [show σ.1 56 6 - 1 - ((0 : Nat) : Int) = σ.1 56 6 - 1 by omega]
  have hu1 : ubk σ 1 = un1 σ (bK σ) (σ.1 40, σ.1 41, σ.1 43) := by rw [← hbK]; rfl
  have hbk0 : 0 ≤ bK σ ∧ bK σ < 20 := by unfold bK; omega
  obtain ⟨k1, k2, k3, k4, k5⟩ := dk (bK σ) hbk0.1 hbk0.2
  have t40 : (tB σ).1 40 = (ubk σ 1).1 := by
    rw [hu1]
    unfold tB tB0 un1
    split
    · rw [sI_ne _ (by decide), sI_uf, sI_ne _ (by decide)]
    · rw [sI_ne _ (by decide), sI_ne _ (by decide), sI_uf, sI_ne _ (by decide)]
  have t41 : (tB σ).1 41 = (ubk σ 1).2.1 := by
    rw [hu1]
    unfold tB tB0 un1
    split
    · rw [sI_uf, sI_ne _ (by decide), sI_ne _ (by decide)]
    · rw [sI_ne _ (by decide), sI_uf, sI_ne _ (by decide), sI_ne _ (by decide)]
  have t43 : (tB σ).1 43 = (ubk σ 1).2.2 := by
    rw [hu1]
    unfold tB tB0 un1
    dsimp only
    split
    · rw [sI_ne _ (by decide), sI_ne _ (by decide), sI_ne _ (by decide)]
    · rw [sI_uf, sI_ne _ (by decide), sI_ne _ (by decide), sI_ne _ (by decide)]
  have t56 : ∀ j, (tB σ).1 56 j = if j = 6 then σ.1 56 6 - 1 else σ.1 56 j := fun j => by
    unfold tB tB0
    split
    · rw [sI_ne _ (by decide), sI_ne _ (by decide), sI_uf]; rfl
    · rw [sI_ne _ (by decide), sI_ne _ (by decide), sI_ne _ (by decide), sI_uf]; rfl
  have hub : ∀ j : Nat, ubk (tB σ) j = ubk σ (j + 1) := by
    intro j
    induction j with
    | zero =>
      show ((tB σ).1 40, (tB σ).1 41, (tB σ).1 43) = ubk σ 1
      rw [t40, t41, t43]
    | succ j ih =>
      show un1 (tB σ) (((tB σ).1 56 5 + ((tB σ).1 56 6 - 1 - (j : Int))) % 20) (ubk (tB σ) j) = un1 σ ((σ.1 56 5 + (σ.1 56 6 - 1 - ((j + 1 : Nat) : Int))) % 20) (ubk σ (j + 1))
      rw [ih, t56, t56, if_neg (by decide), if_pos rfl, show σ.1 56 6 - 1 - 1 - (j : Int) = σ.1 56 6 - 1 - ((j + 1 : Nat) : Int) by omega]
      unfold un1
      rw [(hb0 57 (by decide)).1, (hb0 58 (by decide)).1, (hb0 59 (by decide)).1, (hb0 60 (by decide)).1, (hb0 61 (by decide)).1]
  have hC1 : ∀ a : Nat, a < 82 → σ2.1 a = (tB σ).1 a := fun a q => by
    rw [hC.1.c (a := a) (by simp only [List.mem_cons, List.not_mem_nil, or_false]; omega), sI_ne _ (by omega), sI_ne _ (by omega)]
  have hC2 : ∀ a : Nat, a < 82 → σ2.2 a = σ.2 a := fun a q => by
    rw [(hC.1.1 a (by simp only [List.mem_cons, List.not_mem_nil, or_false]; omega)).2]
    show (tB σ).2 a = _
    unfold tB tB0
    split <;> rfl
  have hcc : ∀ a : Nat, a < 82 → a ∉ [40, 41, 43, 56] → σ2.1 a = σ.1 a := fun a q w => by rw [hC1 a q, (hb0 a w).1]
  have hf : ∀ j, j ≠ 0 → j ≠ 43 → σ2.1 82 j = σ.1 82 j := fun j a b => by
    rw [hC.1.2 j (by simp), sI_1, if_neg (fun q => b q.2), hs.2 j a]
  have hl : ∀ u, u ≠ 0 → ldm σ2 u = ldm σ u := fun u q => by rw [hC.2.1.ld q, ldm_82, hs.ld]
  have hl0 : ldm σ2 0 = ldm σ (3 + (σ.1 56 6 - 1)) := by rw [hC.ld, ldm_82, hs.ld]
  have hU1 := d4 1 (by decide) (by omega)
  have hU0 : UDj σ2 0 (ubk σ 1) := hU1.cg hR.n4 hR.n6 (hcc 2 (by decide) (by decide)) (by rw [hcc 39 (by decide) (by decide)]; exact ⟨rfl, rfl⟩) (fun i _ _ => by rw [hcc 42 (by decide) (by decide)]) (by rw [hC2 39 (by decide)]) hl0
  have hI0 := hR.li
  refine hR.nu ?_ (fun j hj => ?_) (hl 2 (by decide)) ⟨?_, ?_, ?_, ?_, ?_⟩ ⟨?_, ?_, fun u a b => ?_, fun j a b => ?_⟩
  · exact ((hb0.mono (by decide)).sI (by decide) _ _).sI (by decide) _ _ |>.tr (hC.1.1.mono (by decide))
  · simp only [List.mem_cons, List.not_mem_nil, or_false] at hj
    exact hf j (by omega) (by omega)
  · -- LI
    obtain ⟨i1, i2, i3⟩ := hI0
    unfold LI
    rw [hcc 39 (by decide) (by decide), hC1 (39 + 1) (by decide), hC1 (39 + 2) (by decide), hcc (39 + 3) (by decide) (by decide), hC1 (39 + 4) (by decide), show (tB σ).1 (39 + 1) = (ubk σ 1).1 from t40, show (tB σ).1 (39 + 2) = (ubk σ 1).2.1 from t41, show (tB σ).1 (39 + 4) = (ubk σ 1).2.2 from t43, hu1, hC2 39 (by decide)]
    refine ⟨fun i p q => ?_, fun i p q => ?_, i3⟩
    · have g := i1 i p q
      show 0 ≤ uf (σ.1 40) _ _ i ∧ uf (σ.1 40) _ _ i ≤ 39 ∧ 0 ≤ uf (σ.1 41) _ _ i ∧ uf (σ.1 41) _ _ i ≤ 9
      unfold uf
      by_cases w : i = σ.1 57 (bK σ)
      · rw [if_pos w, if_pos w]; exact ⟨k2.1, k2.2, k3.1, k3.2⟩
      · rw [if_neg w, if_neg w]; exact g
    · have g := i2 i p q
      refine ⟨g.1, g.2.1, ?_⟩
      show 0 ≤ (if σ.1 60 (bK σ) = -1 then σ.1 43 else uf (σ.1 43) (σ.1 60 (bK σ)) (σ.1 61 (bK σ))) i ∧ (if σ.1 60 (bK σ) = -1 then σ.1 43 else uf (σ.1 43) (σ.1 60 (bK σ)) (σ.1 61 (bK σ))) i ≤ 99
      by_cases w : σ.1 60 (bK σ) = -1
      · rw [if_pos w]; exact g.2.2
      · rw [if_neg w]
        unfold uf
        by_cases w2 : i = σ.1 60 (bK σ)
        · rw [if_pos w2]; exact k5
        · rw [if_neg w2]; exact g.2.2
  · exact (d3 _ (by omega) (by omega)).ld hl0
  · rw [hcc 39 (by decide) (by decide)]; exact hR.y98
  · rw [hcc 39 (by decide) (by decide)]; exact hR.2.1.2.2.2.1
  · obtain ⟨u1, u2, u3, u4, u5⟩ := hU0
    refine ⟨⟨fun i p q => ?_, fun i p q => ?_, u3.symm, u4.symm⟩, fun i p q => ?_, u5.symm⟩
    · show σ2.1 40 i = mF σ2 0 i
      rw [(u1 i p q).1, hC1 40 (by decide), t40]
    · show σ2.1 42 i = mL σ2 0 i ∧ σ2.1 43 i = mD σ2 0 i
      rw [(u2 i p q).1, (u2 i p q).2, hC1 43 (by decide), t43]
      exact ⟨rfl, rfl⟩
    · show σ2.1 41 i = mK σ2 0 i
      rw [(u1 i p q).2, hC1 41 (by decide), t41]
  · unfold DI
    rw [hcc 57 (by decide) (by decide), hcc 58 (by decide) (by decide), hcc 59 (by decide) (by decide), hcc 60 (by decide) (by decide), hcc 61 (by decide) (by decide), hC1 56 (by decide), t56, t56, if_neg (by decide), if_pos rfl]
    exact ⟨⟨do0, do1⟩, by omega, dk⟩
  · rw [hC.1.2 43 (by simp), sI_1, if_pos ⟨rfl, rfl⟩, hC1 56 (by decide), t56, if_pos rfl]
  · rw [hC1 56 (by decide), t56, if_pos rfl] at b
    exact (d3 u a (by omega)).ld (hl u (by omega))
  · rw [hC1 56 (by decide), t56, if_pos rfl] at b ⊢
    have hub2 : ubk σ2 j = ubk σ (j + 1) := by
      rw [← hub j]
      exact ubk_cg (fun a q => hC1 a (by omega)) j
    rw [hub2]
    have h4 := d4 (j + 1) (by omega) (by omega)
    rw [show 3 + (σ.1 56 6 - ((j + 1 : Nat) : Int)) = 3 + (σ.1 56 6 - 1 - (j : Int)) by omega] at h4
    exact h4.cg hR.n4 hR.n6 (hcc 2 (by decide) (by decide)) (by rw [hcc 39 (by decide) (by decide)]; exact ⟨rfl, rfl⟩) (fun i _ _ => by rw [hcc 42 (by decide) (by decide)]) (by rw [hC2 39 (by decide)]) (hl _ (by omega))

