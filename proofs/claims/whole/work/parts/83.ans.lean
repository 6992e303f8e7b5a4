/-! ===== the answers alike ===== -/
theorem fh_un {f g : Int → Int} {N z z' : Int} (hfg : ∀ k, 0 ≤ k → k ≤ N → f k = g k) (h : (z = -2 ∧ ∀ k : Int, 0 ≤ k → k ≤ N → f k = 0) ∨ (0 ≤ z ∧ z ≤ N ∧ f z = 1 ∧ ∀ k : Int, 0 ≤ k → k < z → f k = 0)) (h' : (z' = -2 ∧ ∀ k : Int, 0 ≤ k → k ≤ N → g k = 0) ∨ (0 ≤ z' ∧ z' ≤ N ∧ g z' = 1 ∧ ∀ k : Int, 0 ≤ k → k < z' → g k = 0)) : z' = z := by
  rcases h with ⟨a1, a2⟩ | ⟨a1, a2, a3, a4⟩ <;> rcases h' with ⟨b1, b2⟩ | ⟨b1, b2, b3, b4⟩
  · omega
  · have := a2 z' b1 b2
    rw [hfg z' b1 b2] at this
    omega
  · have := b2 z a1 a2
    rw [← hfg z a1 a2] at this
    omega
  · rcases (show z < z' ∨ z' < z ∨ z' = z by omega) with q | q | q
    · have := b4 z a1 q
      rw [← hfg z a1 a2] at this
      omega
    · have := a4 z' b1 q
      rw [hfg z' b1 b2] at this
      omega
    · exact q
section AN
variable {σ : Sg}
theorem an_fault (h : Rel σ) (x : Int) : (if x = 0 then σ.1 82 28 else if x = 1 then σ.1 82 29 else -1) = (if x = 0 then σ.1 19 7 else if x = 1 then σ.1 19 8 else -1) := by
  rw [h.2.2.2.2.2.2.2.2.2.2.2.2.1, h.2.2.2.2.2.2.2.2.2.2.2.2.2.1]
theorem an_named (h : Rel σ) (x l : Int) : (if x = 0 then fd (σ.1 85) l (σ.1 84 1) else if x = 1 then fd (σ.1 89) l (σ.1 84 2) else -1) = (if x = 0 then fd (σ.1 5) l (σ.1 2 2) else if x = 1 then fd (σ.1 8) l (σ.1 2 3) else -1) := by
  rw [h.c1, h.c2, fd_cgz (f := σ.1 85) (g := σ.1 5) h.ti.2.2.1.1 (fun i a b => (h.tc.2.1 i a b).1), fd_cgz (f := σ.1 89) (g := σ.1 8) h.ti.2.2.2.1.1 (fun i a b => (h.tc.2.2.2.1 i a b).1)]
theorem an_child (h : Rel σ) (c x : Int) : (if (0 ≤ c ∧ c < σ.1 84 2) then (if x = 0 then mL σ 0 c else if x = 1 then σ.1 91 c else if x = 2 then mD σ 0 c else -1) else -1) = (if (0 ≤ c ∧ c < σ.1 2 3) then (if x = 0 then σ.1 42 c else if x = 1 then σ.1 7 c else if x = 2 then σ.1 43 c else -1) else -1) := by
  rw [h.c2]
  by_cases q : 0 ≤ c ∧ c < σ.1 2 3
  · rw [if_pos q, if_pos q, h.leg q.1 q.2, h.mod q.1 q.2, h.tir q.1 q.2]
  · rw [if_neg q, if_neg q]
theorem an_cake (h : Rel σ) (p x : Int) : (if (0 ≤ p ∧ p < σ.1 84 1) ∧ (0 ≤ x ∧ x < 4) then mK σ 0 (4 * p + x) else -1) = (if (0 ≤ p ∧ p < σ.1 2 2) ∧ (0 ≤ x ∧ x < 4) then σ.1 41 (4 * p + x) else -1) := by
  rw [h.c1]
  by_cases q : (0 ≤ p ∧ p < σ.1 2 2) ∧ (0 ≤ x ∧ x < 4)
  · rw [if_pos q, if_pos q, h.cak (by omega) (by omega)]
  · rw [if_neg q, if_neg q]
theorem an_hold (h : Rel σ) (r c : Int) : zb (fun p => gHold (σ.1 86) (σ.1 87) (mF σ 0) p r c) (σ.1 2 2) = zb (fun p => gHold (σ.1 3) (σ.1 4) (σ.1 40) p r c) (σ.1 2 2) := by
  refine zb_congr (fun p a b => ?_)
  have q := h.rc a b
  exact gHold_c ⟨q.1.symm, q.2.symm⟩ (fun i c d => (h.far (by omega) (by omega)).symm) _ _
theorem an_owners (h : Rel σ) (r c : Int) : (if (0 ≤ r ∧ r < σ.1 84 0 ∧ 0 ≤ c ∧ c < σ.1 84 0) then zb (fun p => gHold (σ.1 86) (σ.1 87) (mF σ 0) p r c) (σ.1 84 1) else -1) = (if (0 ≤ r ∧ r < σ.1 2 0 ∧ 0 ≤ c ∧ c < σ.1 2 0) then zb (fun p => gHold (σ.1 3) (σ.1 4) (σ.1 40) p r c) (σ.1 2 2) else -1) := by
  rw [h.c0, h.c1, an_hold h]
theorem an_ov (h : Rel σ) {p q : Int} (p0 : 0 ≤ p) (p1 : p < σ.1 2 2) (q0 : 0 ≤ q) (q1 : q < σ.1 2 2) : gOv (σ.1 86) (σ.1 87) (mF σ 0) p q = gOv (σ.1 3) (σ.1 4) (σ.1 40) p q := gOv_c (np := σ.1 2 2) (fun p a b => ⟨(h.rc a b).1.symm, (h.rc a b).2.symm⟩) (fun i a b => (h.far a b).symm) p0 p1 q0 q1
theorem an_ar (h : Rel σ) {p : Int} (p0 : 0 ≤ p) (p1 : p < σ.1 2 2) : gArea (σ.1 86) (σ.1 87) (mF σ 0) p = gArea (σ.1 3) (σ.1 4) (σ.1 40) p := gArea_c ⟨(h.rc p0 p1).1.symm, (h.rc p0 p1).2.symm⟩ (fun i a b => (h.far (by omega) (by omega)).symm)
theorem an_overlap (h : Rel σ) (a b : Int) : (if ((0 ≤ a ∧ a < σ.1 84 1) ∧ (0 ≤ b ∧ b < σ.1 84 1) ∧ a ≠ b) then gOv (σ.1 86) (σ.1 87) (mF σ 0) a b else -1) = (if ((0 ≤ a ∧ a < σ.1 2 2) ∧ (0 ≤ b ∧ b < σ.1 2 2) ∧ a ≠ b) then gOv (σ.1 3) (σ.1 4) (σ.1 40) a b else -1) := by
  rw [h.c1]
  by_cases q : (0 ≤ a ∧ a < σ.1 2 2) ∧ (0 ≤ b ∧ b < σ.1 2 2) ∧ a ≠ b
  · rw [if_pos q, if_pos q, an_ov h q.1.1 q.1.2 q.2.1.1 q.2.1.2]
  · rw [if_neg q, if_neg q]
theorem an_cells (h : Rel σ) (l : Int) : mCells (σ.1 86) (σ.1 87) (mF σ 0) (σ.1 84 1) (σ.1 84 0) l = gCells (σ.1 3) (σ.1 4) (σ.1 40) (σ.1 2 2) (σ.1 2 0) l := by
  unfold mCells gCells
  rw [h.c0, h.c1]
  refine zs_congr (fun r _ _ => zs_congr (fun c _ _ => ?_))
  rw [an_hold h]
  have hz := zb_lt (fun p => gHold (σ.1 3) (σ.1 4) (σ.1 40) p r c) (i := σ.1 2 2)
  have hp := (p2_le (k := (σ.1 2 2).toNat) (by have := h.n4; omega)).1
  rw [bcF_bts hz.1 (by
    have h16 : ∀ k : Nat, k ≤ 4 → (2 : Int) ^ k ≤ 16 := by decide
    have := h16 (σ.1 2 2).toNat (by have := h.n4; omega)
    omega)]
theorem an_lw (h : Rel σ) {r : Int} (r0 : 0 ≤ r) (r3 : r < 3) {nm nm' : Int → Int} (hn : nm = nm') : mLaw σ r nm' = lawV σ r nm := (TC_lv h.tc r nm nm' r0 r3 (fun i _ _ => by rw [hn])).symm
theorem an_law (h : Rel σ) (x a b w : Int) : (if (x = 0 ∧ (0 ≤ a ∧ a < σ.1 84 2) ∧ (0 ≤ b ∧ b < σ.1 84 1) ∧ (0 ≤ w ∧ w < 4)) then mLaw σ 0 (nmF (mL σ 0 a) (σ.1 91 a) (mD σ 0 a) (mK σ 0 (4 * b + w)) (if 50 ≤ σ.1 84 4 then 1 else 0) (mF σ 0 (4 * b + w)) (σ.1 102 0)) else if (x = 1 ∧ ((0 ≤ a ∧ a < σ.1 84 1) ∧ (0 ≤ b ∧ b < σ.1 84 1) ∧ a ≠ b)) then mLaw σ 1 (nmF 0 0 0 0 (if 50 ≤ σ.1 84 4 then 1 else 0) (gOv (σ.1 86) (σ.1 87) (mF σ 0) a b) (σ.1 102 0)) else if (x = 2 ∧ (0 ≤ a ∧ a < σ.1 84 2)) then mLaw σ 2 (nmF (mL σ 0 a) (σ.1 91 a) (mD σ 0 a) 0 (if 50 ≤ σ.1 84 4 then 1 else 0) 0 (σ.1 102 0)) else -9223372036854775808) = (if (x = 0 ∧ (0 ≤ a ∧ a < σ.1 2 3) ∧ (0 ≤ b ∧ b < σ.1 2 2) ∧ (0 ≤ w ∧ w < 4)) then lawV σ 0 (nmF (σ.1 42 a) (σ.1 7 a) (σ.1 43 a) (σ.1 41 (4 * b + w)) (if 50 ≤ σ.1 2 6 then 1 else 0) (σ.1 40 (4 * b + w)) (σ.1 39 6)) else if (x = 1 ∧ ((0 ≤ a ∧ a < σ.1 2 2) ∧ (0 ≤ b ∧ b < σ.1 2 2) ∧ a ≠ b)) then lawV σ 1 (nmF 0 0 0 0 (if 50 ≤ σ.1 2 6 then 1 else 0) (gOv (σ.1 3) (σ.1 4) (σ.1 40) a b) (σ.1 39 6)) else if (x = 2 ∧ (0 ≤ a ∧ a < σ.1 2 3)) then lawV σ 2 (nmF (σ.1 42 a) (σ.1 7 a) (σ.1 43 a) 0 (if 50 ≤ σ.1 2 6 then 1 else 0) 0 (σ.1 39 6)) else -9223372036854775808) := by
  rw [h.c1, h.c2, h.c4, ← h.yea]
  by_cases q : x = 0 ∧ (0 ≤ a ∧ a < σ.1 2 3) ∧ (0 ≤ b ∧ b < σ.1 2 2) ∧ (0 ≤ w ∧ w < 4)
  · rw [if_pos q, if_pos q]
    exact an_lw h (by decide) (by decide) (by rw [h.leg q.2.1.1 q.2.1.2, h.mod q.2.1.1 q.2.1.2, h.tir q.2.1.1 q.2.1.2, h.cak (by omega) (by omega), h.far (by omega) (by omega)])
  rw [if_neg q, if_neg q]
  by_cases q1 : x = 1 ∧ ((0 ≤ a ∧ a < σ.1 2 2) ∧ (0 ≤ b ∧ b < σ.1 2 2) ∧ a ≠ b)
  · rw [if_pos q1, if_pos q1, an_ov h q1.2.1.1 q1.2.1.2 q1.2.2.1.1 q1.2.2.1.2]
    exact an_lw h (by decide) (by decide) rfl
  rw [if_neg q1, if_neg q1]
  by_cases q2 : x = 2 ∧ (0 ≤ a ∧ a < σ.1 2 3)
  · rw [if_pos q2, if_pos q2]
    exact an_lw h (by decide) (by decide) (by rw [h.leg q2.2.1 q2.2.2, h.mod q2.2.1 q2.2.2, h.tir q2.2.1 q2.2.2])
  rw [if_neg q2, if_neg q2]
theorem an_m0 (h : Rel σ) (un tl w : Int) (n : Nat) : YR (σ.1 2 2) (σ.1 2 3) (paR σ (σ.1 41) un tl 0 w n (ydv σ 39, σ.2 39 7)).1 (mRn σ (mK σ 0) un tl w n (ydm σ 0, σ.2 39 7)).1 ∧ (paR σ (σ.1 41) un tl 0 w n (ydv σ 39, σ.2 39 7)).2 = (mRn σ (mK σ 0) un tl w n (ydm σ 0, σ.2 39 7)).2 := paR_m0 h.ti h.tb h.tc (ck := σ.1 41) (ck' := mK σ 0) (fun s a b => h.cak a b) un tl w (n := σ.2 39 7) h.ld.1 n
theorem an_m1 (h : Rel σ) (un tl w x : Int) (n : Nat) : (∀ i, 0 ≤ i → i < 4 * σ.1 2 2 → (paR σ (σ.1 41) un tl 1 w n (ydv σ 39, x)).1.1 i = (mRn σ (mK σ 0) un tl w n (ydm σ 0, x)).1.1 i) ∧ (paR σ (σ.1 41) un tl 1 w n (ydv σ 39, x)).2 = (mRn σ (mK σ 0) un tl w n (ydm σ 0, x)).2 := paR_m1 h.ti h.tb h.tc (ck := σ.1 41) (ck' := mK σ 0) (fun s a b => h.cak a b) un tl w (n := x) h.ld.1 n
theorem an_ahead (h : Rel σ) {m x i : Int} (hx : x = 1 ∨ x = 3 ∨ (x = 0 ∧ (0 ≤ i ∧ i < σ.1 2 2)) ∨ (x = 2 ∧ (0 ≤ i ∧ i < σ.1 2 3))) : mAh σ m x i = ahV σ m x i := by
  have m0 := an_m0 h (-1) 0 0 m.toNat
  have m1 := an_m1 h (-1) 0 0 (σ.2 39 7) m.toNat
  unfold mAh ahV
  rw [← h.num]
  by_cases q0 : x = 0
  · rw [if_pos q0, if_pos q0]
    have qi : 0 ≤ i ∧ i < σ.1 2 2 := by omega
    exact gArea_c ⟨(h.rc qi.1 qi.2).1.symm, (h.rc qi.1 qi.2).2.symm⟩ (fun j a b => (m1.1 j (by omega) (by omega)).symm)
  rw [if_neg q0, if_neg q0]
  by_cases q1 : x = 1
  · rw [if_pos q1, if_pos q1, ← m0.1.2.2.1, h.qua]
  rw [if_neg q1, if_neg q1]
  by_cases q2 : x = 2
  · rw [if_pos q2, if_pos q2]
    exact (m0.1.2.1 i (by omega) (by omega)).1.symm
  rw [if_neg q2, if_neg q2, h.c1]
  unfold shAll
  refine zs_congr (fun p p0 p1 => zs_congr (fun q q0 q1 => ?_))
  by_cases r : p < q
  · rw [if_pos r, if_pos r]
    exact gOv_c (np := σ.1 2 2) (fun p a b => ⟨(h.rc a b).1.symm, (h.rc a b).2.symm⟩) (fun i a b => (m1.1 i a b).symm) p0 p1 q0 q1
  · rw [if_neg r, if_neg r]
theorem an_when (h : Rel σ) {p : Int} (p0 : 0 ≤ p) (p1 : p < σ.1 2 2) (r c k : Int) : gHold (σ.1 3) (σ.1 4) (paR σ (σ.1 41) (-1) 0 1 0 k.toNat (ydv σ 39, σ.2 39 7)).1.1 p r c = gHold (σ.1 86) (σ.1 87) (mRn σ (mK σ 0) (-1) 0 0 k.toNat (ydm σ 0, σ.1 103 0)).1.1 p r c := by
  have m1 := an_m1 h (-1) 0 0 (σ.2 39 7) k.toNat
  rw [← h.num]
  exact gHold_c (h.rc p0 p1) (fun i a b => m1.1 i (by omega) (by omega)) _ _
theorem an_wk (h : Rel σ) {c s : Int} (c0 : 0 ≤ c) (c1 : c < σ.1 2 3) (s0 : 0 ≤ s) (s1 : s < 4 * σ.1 2 2) (sw : Int) : mWk σ (if 50 ≤ σ.1 84 4 then 1 else 0) c s sw = wkF σ c s sw := by
  unfold mWk wkF
  rw [h.c4, ← TC_ed h.tc s0 s1, ← h.leg c0 c1, ← h.mod c0 c1, ← h.tir c0 c1, ← h.far s0 s1, ← h.yea, an_lw h (by decide) (by decide) rfl]
theorem an_cf (h : Rel σ) {p c w : Int} (p0 : 0 ≤ p) (p1 : p < σ.1 2 2) (c0 : 0 ≤ c) (c1 : c < σ.1 2 3) (w0 : 0 ≤ w) (w1 : w < 4) (r l k : Int) : gHold (σ.1 3) (σ.1 4) (uf (σ.1 40) (4 * p + w) (wkF σ c (4 * p + w) k)) p r l = gHold (σ.1 86) (σ.1 87) (uf (mF σ 0) (4 * p + w) (mWk σ (if 50 ≤ σ.1 84 4 then 1 else 0) c (4 * p + w) k)) p r l := by
  rw [an_wk h c0 c1 (by omega) (by omega)]
  exact gHold_c (h.rc p0 p1) (fun i a b => uf_eq (h.far (by omega) (by omega)) rfl) _ _
theorem an_fr (h : Rel σ) {p w c : Int} (p0 : 0 ≤ p) (p1 : p < σ.1 2 2) (w0 : 0 ≤ w) (w1 : w < 4) (c0 : 0 ≤ c) : mFr σ p w c = cFr σ p w c := by
  unfold mFr cFr
  rw [h.c2]
  by_cases q : c < σ.1 2 3
  · rw [if_pos q, if_pos q, an_wk h c0 q (by omega) (by omega), h.cak (by omega) (by omega)]
  · rw [if_neg q, if_neg q, h.far (by omega) (by omega)]
theorem lyB_c {F F' : Int → Int → Int} {n K b : Int} (hn : 1 ≤ n) (hF : ∀ w c, 0 ≤ w → w < 4 → 0 ≤ c → F w c = F' w c) (h : lyB F n K b) : lyB F' n K b := by
  have e : ∀ x, lyA F (dg n x) = lyA F' (dg n x) := fun x => lyA_c (fun w a b => hF w _ a b (dg_in hn).1)
  obtain ⟨a0, a1, a2, a3, a4⟩ := h
  exact ⟨a0, a1, a2, fun c p q r => by rw [← e, ← e]; exact a3 c p q r, fun c p q r => by rw [← e, ← e]; exact a4 c p q r⟩
theorem an_cut (h : Rel σ) (p q x : Int) : (if (((0 ≤ p ∧ p < σ.1 84 1) ∧ (0 ≤ q ∧ q < σ.1 84 1) ∧ p ≠ q) ∧ 0 ≤ x ∧ x ≤ 2) then (if gOv (σ.1 86) (σ.1 87) (mF σ 0) p q < 2 then -2 else cutV (gCR (σ.1 86) (mF σ 0) p q) (gCC (σ.1 87) (mF σ 0) p q) x) else -1) = (if (((0 ≤ p ∧ p < σ.1 2 2) ∧ (0 ≤ q ∧ q < σ.1 2 2) ∧ p ≠ q) ∧ 0 ≤ x ∧ x ≤ 2) then (if gOv (σ.1 3) (σ.1 4) (σ.1 40) p q < 2 then -2 else cutV (gCR (σ.1 3) (σ.1 40) p q) (gCC (σ.1 4) (σ.1 40) p q) x) else -1) := by
  rw [h.c1]
  by_cases k : ((0 ≤ p ∧ p < σ.1 2 2) ∧ (0 ≤ q ∧ q < σ.1 2 2) ∧ p ≠ q) ∧ 0 ≤ x ∧ x ≤ 2
  · rw [if_pos k, if_pos k]
    unfold gOv gCR gCC gTop gBot gLft gRgt
    have rp := h.rc k.1.1.1 k.1.1.2
    have rq := h.rc k.1.2.1.1 k.1.2.1.2
    rw [rp.1, rp.2, rq.1, rq.2, h.far (i := 4 * p) (by omega) (by omega), h.far (i := 4 * p + 1) (by omega) (by omega), h.far (i := 4 * p + 2) (by omega) (by omega), h.far (i := 4 * p + 3) (by omega) (by omega), h.far (i := 4 * q) (by omega) (by omega), h.far (i := 4 * q + 1) (by omega) (by omega), h.far (i := 4 * q + 2) (by omega) (by omega), h.far (i := 4 * q + 3) (by omega) (by omega)]
  · rw [if_neg k, if_neg k]
theorem an_tch (h : Rel σ) {p q : Int} (p0 : 0 ≤ p) (p1 : p < σ.1 2 2) (q0 : 0 ≤ q) (q1 : q < σ.1 2 2) : gTouch (σ.1 86) (σ.1 87) (mF σ 0) p q = gTouch (σ.1 3) (σ.1 4) (σ.1 40) p q := by
  unfold gTouch gCR gCC gTop gBot gLft gRgt
  have rp := h.rc p0 p1
  have rq := h.rc q0 q1
  rw [rp.1, rp.2, rq.1, rq.2, h.far (i := 4 * p) (by omega) (by omega), h.far (i := 4 * p + 1) (by omega) (by omega), h.far (i := 4 * p + 2) (by omega) (by omega), h.far (i := 4 * p + 3) (by omega) (by omega), h.far (i := 4 * q) (by omega) (by omega), h.far (i := 4 * q + 1) (by omega) (by omega), h.far (i := 4 * q + 2) (by omega) (by omega), h.far (i := 4 * q + 3) (by omega) (by omega)]
theorem an_td (h : Rel σ) {p : Int} (p0 : 0 ≤ p) (p1 : p < σ.1 2 2) : gTd (σ.1 86) (σ.1 87) (mF σ 0) (σ.1 84 1) p = gTd (σ.1 3) (σ.1 4) (σ.1 40) (σ.1 2 2) p := by
  unfold gTd
  rw [h.c1]
  refine zb_congr (fun q a b => ?_)
  rw [an_tch h p0 p1 a b]
theorem an_realms (h : Rel σ) : mRl (gTd (σ.1 86) (σ.1 87) (mF σ 0) (σ.1 84 1)) (σ.1 84 1) 15 (2 ^ (σ.1 84 1).toNat - 1) = gSets (σ.1 3) (σ.1 4) (σ.1 40) (σ.1 2 2) := by
  rw [rl_eq _ _ _ h.ti.2.2.1.1 h.n4, mRl_c (T' := gTd (σ.1 3) (σ.1 4) (σ.1 40) (σ.1 2 2)) (by rw [h.c1]; exact h.ti.2.2.1.1) (fun k a b => an_td h a (by rw [← h.c1]; exact b)), h.c1]
theorem mOk_c {t t' : Int → Int → Int} {x c n : Int} (ht : ∀ p q, 0 ≤ p → p < n → 0 ≤ q → q < n → t p q = t' p q) (h : mOk t x c n) : mOk t' x c n := fun i j a b d e => by rw [← ht i j a (by omega) (by omega) d]; exact h i j a b d e
theorem an_colours (h : Rel σ) {z z' : Int} (hz : 0 ≤ z ∧ z ≤ (σ.1 2 2) ∧ (z < (σ.1 2 2) → ∃ x, 0 ≤ x ∧ x < 2 ^ (2 * (σ.1 2 2)).toNat ∧ pOk (gTouch (σ.1 3) (σ.1 4) (σ.1 40)) x z (σ.1 2 2)) ∧ ∀ c, 0 ≤ c → c < z → ∀ x, 0 ≤ x → x < 2 ^ (2 * (σ.1 2 2)).toNat → ¬ pOk (gTouch (σ.1 3) (σ.1 4) (σ.1 40)) x c (σ.1 2 2)) (hz' : ((σ.1 84 1) = 0 ∧ z' = 0) ∨ ((σ.1 84 1) ≠ 0 ∧ 1 ≤ z' ∧ z' ≤ 4 ∧ (z' < 4 → (∃ x, 0 ≤ x ∧ x < z' ^ ((σ.1 84 1)).toNat ∧ mOk (gTouch (σ.1 86) (σ.1 87) (mF σ 0)) x z' (σ.1 84 1))) ∧ ∀ c, 1 ≤ c → c < z' → ¬ (∃ x, 0 ≤ x ∧ x < c ^ ((σ.1 84 1)).toNat ∧ mOk (gTouch (σ.1 86) (σ.1 87) (mF σ 0)) x c (σ.1 84 1)))) : z' = z := by
  rw [h.c1] at hz'
  have et : ∀ p q, 0 ≤ p → p < σ.1 2 2 → 0 ≤ q → q < σ.1 2 2 → gTouch (σ.1 86) (σ.1 87) (mF σ 0) p q = gTouch (σ.1 3) (σ.1 4) (σ.1 40) p q := fun p q a b c d => an_tch h a b c d
  refine col_eq (gTouch_s (σ.1 3) (σ.1 4) (σ.1 40)) h.ti.2.2.1.1 h.n4 hz ?_
  rcases hz' with q | ⟨q0, q1, q2, q3, q4⟩
  · exact Or.inl q
  · refine Or.inr ⟨q0, q1, q2, fun w => ?_, fun c a b w => q4 c a b ?_⟩
    · obtain ⟨x, x0, x1, x2⟩ := q3 w
      exact ⟨x, x0, x1, mOk_c et x2⟩
    · obtain ⟨x, x0, x1, x2⟩ := w
      exact ⟨x, x0, x1, mOk_c (fun p q a b c d => (et p q a b c d).symm) x2⟩
theorem gRest_01 (sh ar oa f s : Int) : gRest sh ar oa f s = 0 ∨ gRest sh ar oa f s = 1 := by
  unfold gRest
  split
  · exact Or.inr rfl
  · exact Or.inl rfl
theorem an_rf (h : Rel σ) {p q : Int} (p0 : 0 ≤ p) (p1 : p < σ.1 2 2) (q0 : 0 ≤ q) (q1 : q < σ.1 2 2) : mRf σ p q = gRf σ p q := by
  funext i
  unfold mRf gRf
  rw [an_ov h p0 p1 q0 q1, an_ar h p0 p1, an_ar h q0 q1]
theorem an_rests (h : Rel σ) (a b : Int) : (if ((0 ≤ a ∧ a < σ.1 84 1) ∧ (0 ≤ b ∧ b < σ.1 84 1) ∧ a ≠ b) then zs (mRf σ a b) 4 else -1) = (if ((0 ≤ a ∧ a < σ.1 2 2) ∧ (0 ≤ b ∧ b < σ.1 2 2) ∧ a ≠ b) then (bcF (iZ (zb (fun i => gRest (gOv (σ.1 3) (σ.1 4) (σ.1 40) a b) (gArea (σ.1 3) (σ.1 4) (σ.1 40) a) (gArea (σ.1 3) (σ.1 4) (σ.1 40) b) (i / 2) (i % 2)) 4))).toInt else -1) := by
  rw [h.c1]
  by_cases q : (0 ≤ a ∧ a < σ.1 2 2) ∧ (0 ≤ b ∧ b < σ.1 2 2) ∧ a ≠ b
  · rw [if_pos q, if_pos q, an_rf h q.1.1 q.1.2 q.2.1.1 q.2.1.2]
    have hz := zb_lt (gRf σ a b) (i := 4)
    rw [show (2 : Int) ^ (4 : Int).toNat = 16 by decide] at hz
    show zs (gRf σ a b) 4 = (bcF (iZ (zb (gRf σ a b) 4))).toInt
    rw [bcF_bts hz.1 (by omega), bts_z4 (f := gRf σ a b) (fun i => gRest_01 _ _ _ _ _)]
  · rw [if_neg q, if_neg q]
theorem an_chance (h : Rel σ) {p : Int} (p0 : 0 ≤ p) (p1 : p < σ.1 2 2) (m a : Int) (s : Int × Int) : ∀ k : Nat, mCh σ m p a k s = chF σ m p a k s
  | 0 => rfl
  | k + 1 => by
    simp only [mCh, chF]
    rw [an_chance h p0 p1 m a s k]
    have m1 := an_m1 h (-1) 0 1 (chF σ m p a k s).2 m.toNat
    rw [m1.2, gArea_c (rw := σ.1 86) (rw' := σ.1 3) (cl := σ.1 87) (cl' := σ.1 4) (f' := (paR σ (σ.1 41) (-1) 0 1 1 m.toNat (ydv σ 39, (chF σ m p a k s).2)).1.1) ⟨(h.rc p0 p1).1.symm, (h.rc p0 p1).2.symm⟩ (fun i a b => (m1.1 i (by omega) (by omega)).symm)]
theorem an_tried (h : Rel σ) {x i_ m : Int} (hx : 0 ≤ x ∧ x ≤ 4 ∧ 0 ≤ m ∧ m ≤ 200 ∧ ((x = 2 ∧ (0 ≤ i_ ∧ i_ < σ.1 2 3)) ∨ (x ≠ 2 ∧ i_ = 0))) : arAll (σ.1 86) (σ.1 87) (mTr σ x i_ m).1.1 (σ.1 84 1) = arAll (σ.1 3) (σ.1 4) (trR σ x i_ m).1.1 (σ.1 2 2) := by
  have key : ∀ i, 0 ≤ i → i < 4 * σ.1 2 2 → (trR σ x i_ m).1.1 i = (mTr σ x i_ m).1.1 i := by
    intro j a b
    unfold trR mTr
    rw [← h.num]
    by_cases q0 : x = 0
    · subst q0
      exact (an_m1 h (-1) 0 2 (σ.2 39 7) m.toNat).1 j a b
    rw [if_neg q0, if_neg q0]
    by_cases q1 : x = 1
    · subst q1
      exact (an_m1 h (-1) 0 3 (σ.2 39 7) m.toNat).1 j a b
    rw [if_neg q1, if_neg q1]
    by_cases q2 : x = 2
    · subst q2
      exact (an_m1 h i_ 0 0 (σ.2 39 7) m.toNat).1 j a b
    rw [if_neg q2, if_neg q2]
    by_cases q3 : x = 3
    · subst q3
      exact (paR_m1 h.ti h.tb h.tc (ck := fun _ => 0) (ck' := fun _ => 0) (fun s _ _ => rfl) (-1) 0 0 (n := σ.2 39 7) h.ld.1 m.toNat).1 j a b
    obtain rfl : x = 4 := by omega
    have hy := h.ld.1
    exact (paR_m1 h.ti h.tb h.tc (ck := σ.1 41) (ck' := mK σ 0) (fun s a b => h.cak a b) (-1) 1 0 (n := σ.2 39 7) (y := (σ.1 40, σ.1 42, (fun _ => 0), σ.1 39 5, σ.1 39 6)) (y' := (mF σ 0, mL σ 0, (fun _ => 0), σ.1 104 0, σ.1 102 0)) ⟨hy.1, fun k c d => ⟨(hy.2.1 k c d).1, rfl⟩, hy.2.2.1, hy.2.2.2⟩ m.toNat).1 j a b
  unfold arAll
  rw [h.c1]
  exact zs_congr (fun p a b => gArea_c ⟨(h.rc a b).1.symm, (h.rc a b).2.symm⟩ (fun j c d => (key j (by omega) (by omega)).symm))
theorem an_count (h : Rel σ) (x : Int) : mCnt σ x = cntC σ x := by
  have hsc := h.sc
  have e1 : zs (fun p => gArea (σ.1 86) (σ.1 87) (mF σ 0) p) (σ.1 2 2) = zs (fun p => gArea (σ.1 3) (σ.1 4) (σ.1 40) p) (σ.1 2 2) := zs_congr (fun p a b => an_ar h a b)
  have e2 : zs (fun p => zs (fun q => if p < q then gOv (σ.1 86) (σ.1 87) (mF σ 0) p q else 0) (σ.1 2 2)) (σ.1 2 2) = zs (fun p => zs (fun q => if p < q then gOv (σ.1 3) (σ.1 4) (σ.1 40) p q else 0) (σ.1 2 2)) (σ.1 2 2) := zs_congr (fun p a b => zs_congr (fun q c d => by rw [an_ov h a b c d]))
  have e3 : zs (mL σ 0) (σ.1 2 3) = zs (σ.1 42) (σ.1 2 3) := zs_congr (fun c a b => (h.leg a b).symm)
  have e4 : mKm σ = knE σ := by unfold mKm knE; rw [hsc.1, hsc.2.1]
  unfold mCnt cntC
  rw [h.c1, h.c2, h.c0, h.tc.1.2.2.2.1, h.tc.1.2.2.2.2.2.2, ← h.yea, ← h.qua, e1, e2, e3, e4, hsc.1, h.h43]
end AN

