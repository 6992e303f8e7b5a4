/-! ===== parts of what is alike ===== -/
section RP
variable {σ : Sg}
theorem Rel.ti (h : Rel σ) : TI σ := h.1.1
theorem Rel.tb (h : Rel σ) : TB σ := h.1.2.1
theorem Rel.lw (h : Rel σ) : LW σ := h.1.2.2.1
theorem Rel.mt (h : Rel σ) : MT σ := h.1.2.2.2.1
theorem Rel.mb (h : Rel σ) : MB σ := h.1.2.2.2.2.1
theorem Rel.mw (h : Rel σ) : MW σ := h.1.2.2.2.2.2.1
theorem Rel.tc (h : Rel σ) : TC σ := h.1.2.2.2.2.2.2
theorem Rel.li (h : Rel σ) : LI σ 39 := h.2.1.1
theorem Rel.mi (h : Rel σ) : MI σ 0 := h.2.1.2.1
theorem Rel.y98 (h : Rel σ) : σ.1 39 6 ≤ 9800 := h.2.1.2.2.1
theorem Rel.ld (h : Rel σ) : LdR σ 39 0 := h.2.1.2.2.2.2
theorem Rel.n4 (h : Rel σ) : σ.1 2 2 ≤ 4 := h.ti.2.2.1.2
theorem Rel.n6 (h : Rel σ) : σ.1 2 3 ≤ 6 := h.ti.2.2.2.1.2
theorem Rel.m98 (h : Rel σ) : σ.1 102 0 ≤ 9800 := by
  have h1 : σ.1 39 6 = σ.1 102 0 := h.ld.1.2.2.2
  have := h.y98
  omega
theorem Rel.x44 (h : Rel σ) : σ.1 82 44 = 0 := h.2.2.2.2.2.2.2.2.2.2.2.2.2.2.1
theorem Rel.x45 (h : Rel σ) : σ.1 82 45 = -1 := h.2.2.2.2.2.2.2.2.2.2.2.2.2.2.2
theorem Rel.si (h : Rel σ) : SI σ := h.2.2.2.2.1.1
theorem Rel.mn (h : Rel σ) : MN σ := h.2.2.2.2.1.2.1
theorem Rel.sc (h : Rel σ) : SC σ := h.2.2.2.2.1.2.2
theorem Rel.di (h : Rel σ) : DI σ := h.2.2.2.1.1
theorem Rel.h43 (h : Rel σ) : σ.1 82 43 = σ.1 56 6 := h.2.2.2.1.2.1
theorem Rel.c0 (h : Rel σ) : σ.1 84 0 = σ.1 2 0 := h.tc.1.1
theorem Rel.c1 (h : Rel σ) : σ.1 84 1 = σ.1 2 2 := h.tc.1.2.1
theorem Rel.c2 (h : Rel σ) : σ.1 84 2 = σ.1 2 3 := h.tc.1.2.2.1
theorem Rel.c4 (h : Rel σ) : σ.1 84 4 = σ.1 2 6 := h.tc.1.2.2.2.2.1
theorem Rel.rc (h : Rel σ) {p : Int} (p0 : 0 ≤ p) (p1 : p < σ.1 2 2) : σ.1 3 p = σ.1 86 p ∧ σ.1 4 p = σ.1 87 p := ⟨(h.tc.2.1 p p0 p1).2.1.symm, (h.tc.2.1 p p0 p1).2.2.symm⟩
theorem Rel.far (h : Rel σ) {i : Int} (i0 : 0 ≤ i) (i1 : i < 4 * σ.1 2 2) : σ.1 40 i = mF σ 0 i := h.ld.1.1 i i0 i1
theorem Rel.cak (h : Rel σ) {i : Int} (i0 : 0 ≤ i) (i1 : i < 4 * σ.1 2 2) : σ.1 41 i = mK σ 0 i := h.ld.2.1 i i0 i1
theorem Rel.leg (h : Rel σ) {i : Int} (i0 : 0 ≤ i) (i1 : i < σ.1 2 3) : σ.1 42 i = mL σ 0 i := (h.ld.1.2.1 i i0 i1).1
theorem Rel.tir (h : Rel σ) {i : Int} (i0 : 0 ≤ i) (i1 : i < σ.1 2 3) : σ.1 43 i = mD σ 0 i := (h.ld.1.2.1 i i0 i1).2
theorem Rel.mod (h : Rel σ) {i : Int} (i0 : 0 ≤ i) (i1 : i < σ.1 2 3) : σ.1 7 i = σ.1 91 i := (h.tc.2.2.2.1 i i0 i1).2.2.symm
theorem Rel.qua (h : Rel σ) : σ.1 39 5 = σ.1 104 0 := h.ld.1.2.2.1
theorem Rel.yea (h : Rel σ) : σ.1 39 6 = σ.1 102 0 := h.ld.1.2.2.2
theorem Rel.num (h : Rel σ) : σ.2 39 7 = σ.1 103 0 := h.ld.2.2
/-- what a question leaves alike -/
theorem Rel.th (h : Rel σ) : Rel (sI σ 82 0 0) := by
  refine h.fr ((Fr.rf _ _).sI (by decide) _ _) (fun j hj => ?_) (fun u _ => ldm_82 _ _ _ _) (fun k a b => ?_) (fun k a b => ?_)
  · rw [sI_1, if_neg (fun q => by have := q.2; subst this; exact absurd hj (by decide))]
  · rw [sI_ne _ (by decide)]; exact (h.si.2.2.1 k a b).2.2.2.2.2.2
  · rw [sI_ne _ (by decide)]; exact (h.mn.2.2.1 k a b).2.2.2.2.2.2
theorem Rel.cq {τ : Sg} {C : List Nat} (h : Rel σ) (hF : Fr C σ τ) (hC : ∀ a, a ∈ C → a ∈ ([17, 44, 45, 46, 47, 48, 55, 70, 71, 72, 73, 74, 75, 76, 77, 78, 79, 80, 81] : List Nat)) : Rel τ := by
  have hn : ∀ a : Nat, 82 ≤ a → a ∉ C := fun a q r => by
    have := hC a r
    simp only [List.mem_cons, List.not_mem_nil, or_false] at this
    omega
  have hn9 : 69 ∉ C := fun r => absurd (hC 69 r) (by decide)
  refine h.fr (hF.mono (fun a q => ?_)) (fun j _ => by rw [(hF 82 (hn 82 (by decide))).1]) (fun u _ => ?_) (fun k a b => ?_) (fun k a b => ?_)
  · have := hC a q
    simp only [SCR, List.mem_cons, List.not_mem_nil, or_false] at this ⊢
    omega
  · refine ldm_ext (fun i _ _ => ?_) (fun i _ _ => ?_) ?_ ?_ ?_
    · unfold mF mK; rw [(hF 105 (hn _ (by decide))).1, (hF 106 (hn _ (by decide))).1]; exact ⟨rfl, rfl⟩
    · unfold mL mD; rw [(hF 107 (hn _ (by decide))).1, (hF 108 (hn _ (by decide))).1]; exact ⟨rfl, rfl⟩
    · rw [(hF 104 (hn _ (by decide))).1]
    · rw [(hF 102 (hn _ (by decide))).1]
    · rw [(hF 103 (hn _ (by decide))).1]
  · rw [(hF 69 hn9).1]; exact (h.si.2.2.1 k a b).2.2.2.2.2.2
  · rw [(hF 118 (hn _ (by decide))).1]; exact (h.mn.2.2.1 k a b).2.2.2.2.2.2
theorem Rel.cg9 {τ : Sg} (h : Rel σ) (hF : Fr [17, 55, 69, 70, 71, 72, 73, 74, 75, 76, 77] σ τ) (h9 : ∀ k, 0 ≤ k → k < 24 → τ.1 69 k = 0 ∨ τ.1 69 k = 1) : Rel τ := by
  refine h.fr (hF.mono (by decide)) (fun j _ => by rw [(hF 82 (by decide)).1]) (fun u _ => ?_) h9 (fun k a b => ?_)
  · refine ldm_ext (fun i _ _ => ?_) (fun i _ _ => ?_) ?_ ?_ ?_
    · unfold mF mK; rw [(hF 105 (by decide)).1, (hF 106 (by decide)).1]; exact ⟨rfl, rfl⟩
    · unfold mL mD; rw [(hF 107 (by decide)).1, (hF 108 (by decide)).1]; exact ⟨rfl, rfl⟩
    · rw [(hF 104 (by decide)).1]
    · rw [(hF 102 (by decide)).1]
    · rw [(hF 103 (by decide)).1]
  · rw [(hF 118 (by decide)).1]; exact (h.mn.2.2.1 k a b).2.2.2.2.2.2
theorem Rel.qm {τ : Sg} (h : Rel σ) (hQ : Qm σ τ) : Rel τ := by
  refine h.fr (hQ.1.1.mono (by decide)) (fun j hj => hQ.1.2 j (fun q => ?_)) hQ.2 (fun k a b => ?_) (fun k a b => ?_)
  · simp only [List.mem_cons, List.not_mem_nil, or_false] at hj q
    omega
  · rw [hQ.1.c (a := 69) (by decide)]; exact (h.si.2.2.1 k a b).2.2.2.2.2.2
  · rw [hQ.1.c (a := 118) (by decide)]; exact (h.mn.2.2.1 k a b).2.2.2.2.2.2
theorem Rel.qn {τ : Sg} (h : Rel σ) (hQ : Qn σ τ) (h8 : ∀ k, 0 ≤ k → k < 24 → τ.1 118 k = 0 ∨ τ.1 118 k = 1) : Rel τ := by
  refine h.fr (hQ.1.1.mono (by decide)) (fun j hj => hQ.1.2 j (fun q => ?_)) hQ.2 (fun k a b => ?_) h8
  · simp only [List.mem_cons, List.not_mem_nil, or_false] at hj q
    omega
  · rw [hQ.1.c (a := 69) (by decide)]; exact (h.si.2.2.1 k a b).2.2.2.2.2.2
end RP
/-! ===== the model's cells are the same ===== -/
def SM (σ ρ : Sg) : Prop := (∀ a : Nat, 83 ≤ a → ρ.1 a = σ.1 a) ∧ ∀ j, j ≠ 0 → ρ.1 82 j = σ.1 82 j
theorem SM.rf (σ : Sg) : SM σ (sI σ 82 0 0) := ⟨fun a h => by rw [sI_ne _ (by omega)], fun j h => by rw [sI_1, if_neg (fun q => h q.2)]⟩
theorem SM.of {σ τ : Sg} {C : List Nat} (hF : Fr C σ τ) (hC : ∀ a, a ∈ C → a < 82) : SM σ (sI τ 82 0 0) := by
  have hn : ∀ a : Nat, 82 ≤ a → a ∉ C := fun a q r => by have := hC a r; omega
  exact ⟨fun a h => by rw [sI_ne _ (by omega), (hF a (hn a (by omega))).1], fun j h => by rw [sI_1, if_neg (fun q => h q.2), (hF 82 (hn 82 (by omega))).1]⟩
section SMs
variable {σ ρ : Sg}
theorem SM.mF (h : SM σ ρ) (s : Int) : mF ρ s = mF σ s := by show (fun i => ρ.1 105 (16 * s + i)) = fun i => σ.1 105 (16 * s + i); rw [h.1 105 (by decide)]
theorem SM.mK (h : SM σ ρ) (s : Int) : mK ρ s = mK σ s := by show (fun i => ρ.1 106 (16 * s + i)) = fun i => σ.1 106 (16 * s + i); rw [h.1 106 (by decide)]
theorem SM.mL (h : SM σ ρ) (s : Int) : mL ρ s = mL σ s := by show (fun i => ρ.1 107 (6 * s + i)) = fun i => σ.1 107 (6 * s + i); rw [h.1 107 (by decide)]
theorem SM.mD (h : SM σ ρ) (s : Int) : mD ρ s = mD σ s := by show (fun i => ρ.1 108 (6 * s + i)) = fun i => σ.1 108 (6 * s + i); rw [h.1 108 (by decide)]
theorem SM.yd (h : SM σ ρ) (s : Int) : ydm ρ s = ydm σ s := by unfold ydm; rw [h.mF, h.mL, h.mD, h.1 104 (by decide), h.1 102 (by decide)]
theorem SM.lw (h : SM σ ρ) : mLaw ρ = mLaw σ := by
  funext r nm
  unfold mLaw mCode
  rw [h.1 96 (by decide), h.1 97 (by decide), h.1 98 (by decide), h.1 99 (by decide)]
theorem SM.ed (h : SM σ ρ) : mEd ρ = mEd σ := by unfold mEd; rw [h.1 84 (by decide), h.1 86 (by decide), h.1 87 (by decide)]
theorem SM.bs (h : SM σ ρ) : mBs ρ = mBs σ := by unfold mBs; rw [h.1 92 (by decide), h.1 94 (by decide)]
theorem SM.rn (h : SM σ ρ) (ck : Int → Int) (un tl w : Int) (k : Nat) (x : Yd × Int) : mRn ρ ck un tl w k x = mRn σ ck un tl w k x := by
  unfold mRn
  rw [h.lw, h.ed, h.bs, h.1 84 (by decide), h.1 86 (by decide), h.1 87 (by decide), h.1 91 (by decide), h.1 93 (by decide), h.1 95 (by decide)]
theorem SM.ah (h : SM σ ρ) (m x i : Int) : mAh ρ m x i = mAh σ m x i := by
  unfold mAh
  simp only [h.rn, h.mK, h.yd, h.1 84 (by decide), h.1 86 (by decide), h.1 87 (by decide), h.1 103 (by decide), h.1 104 (by decide)]
theorem SM.wk (h : SM σ ρ) (wt c s sw : Int) : mWk ρ wt c s sw = mWk σ wt c s sw := by
  unfold mWk
  rw [h.lw, h.ed, h.mF, h.mL, h.mD, h.1 91 (by decide), h.1 102 (by decide)]
theorem SM.fr (h : SM σ ρ) (p w c : Int) : mFr ρ p w c = mFr σ p w c := by
  unfold mFr
  rw [h.wk, h.mF, h.mK, h.1 84 (by decide)]
theorem SM.ch (h : SM σ ρ) (m p ar : Int) (s : Int × Int) : ∀ k : Nat, mCh ρ m p ar k s = mCh σ m p ar k s
  | 0 => rfl
  | k + 1 => by
    simp only [mCh]
    rw [SM.ch h m p ar s k]
    simp only [h.rn, h.mK, h.yd, h.1 86 (by decide), h.1 87 (by decide)]
theorem SM.tr (h : SM σ ρ) (x i m : Int) : mTr ρ x i m = mTr σ x i m := by
  unfold mTr
  simp only [h.rn, h.mK, h.mF, h.mL, h.mD, h.1 102 (by decide), h.1 103 (by decide), h.1 104 (by decide)]
theorem SM.gn (h : SM σ ρ) (c g : Int) (t : Nat) : mGn ρ c g t = mGn σ c g t := by
  unfold mGn mYS
  rw [h.rn, h.1 84 (by decide), h.1 88 (by decide), h.1 90 (by decide)]
theorem SM.km (h : SM σ ρ) : mKm ρ = mKm σ := by unfold mKm; rw [h.2 53 (by decide), h.2 54 (by decide)]
theorem SM.fit (h : SM σ ρ) (c g : Int) : fitM ρ c g = fitM σ c g := by
  unfold fitM mctS mhoS mcn
  simp only [h.km, h.gn, h.1 86 (by decide), h.1 87 (by decide), h.1 112 (by decide), h.1 113 (by decide), h.1 114 (by decide), h.1 115 (by decide), h.1 116 (by decide), h.1 117 (by decide)]
theorem SM.m20 (h : SM σ ρ) (c g : Int) : m20 ρ c g = m20 σ c g := by show (mGn ρ c g 20).1.1 = (mGn σ c g 20).1.1; rw [h.gn]
end SMs

