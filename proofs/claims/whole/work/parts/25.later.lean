/-! ===== later, run from now ===== -/
/-- later k years on, by cakes ck, who isn't led, who doesn't tire, stones only, the weather w, from y and the number n -/
def LR (σ : Sg) (ck : Int → Int) (un tl so w : Int) (y : Yd) (n : Int) (k : Nat) (τ : Sg) : Prop := Fr [44, 45, 46, 47, 48, 17, 55] σ τ ∧ (∀ s, 0 ≤ s → s < 4 * σ.1 2 2 → τ.1 46 s = ck s) ∧ (τ.1 44 8 = un ∧ τ.1 44 9 = tl ∧ τ.1 44 10 = so) ∧ YR (σ.1 2 2) (σ.1 2 3) (ydv τ 44) (paR σ ck un tl so w k (y, n)).1 ∧ τ.2 44 7 = (paR σ ck un tl so w k (y, n)).2 ∧ LI τ 44 ∧ τ.1 44 6 = y.2.2.2.2 + k
theorem LR.TI {σ τ : Sg} {ck : Int → Int} {un tl so w : Int} {y : Yd} {n : Int} {k : Nat} (h : LR σ ck un tl so w y n k τ) (hT : TI σ) : TI τ := hT.fr h.1 (fun a h1 h2 => nc_lb a h1 (by omega))
theorem LR.TB {σ τ : Sg} {ck : Int → Int} {un tl so w : Int} {y : Yd} {n : Int} {k : Nat} (h : LR σ ck un tl so w y n k τ) (hT : TB σ) : TB τ := hT.fr h.1 (fun a h1 h2 => nc_lb a h1 (by omega))
theorem LR.LW {σ τ : Sg} {ck : Int → Int} {un tl so w : Int} {y : Yd} {n : Int} {k : Nat} (h : LR σ ck un tl so w y n k τ) (hT : LW σ) : LW τ := hT.fr h.1 (nc_lb 14 (by decide) (by decide)) (nc_lb 15 (by decide) (by decide)) (nc_lb 16 (by decide) (by decide))
theorem LR.c {σ τ : Sg} {ck : Int → Int} {un tl so w : Int} {y : Yd} {n : Int} {k : Nat} (h : LR σ ck un tl so w y n k τ) {a : Nat} (h1 : 2 ≤ a) (h2 : a ≤ 16) : τ.1 a = σ.1 a := (h.1 a (nc_lb a h1 h2)).1
theorem LR_step {σ τ τ' : Sg} (hT : TI σ) (hB : TB σ) {ck : Int → Int} {un tl so w : Int} {y : Yd} {n : Int} {k m : Nat} (h : LR σ ck un tl so w y n k τ)
    (h3 : Ln τ τ' 44 (yPass (lawV τ) (τ.1 7) (τ.1 46) (edS τ) (τ.1 9) (τ.1 10) (τ.1 11) (gOv (τ.1 3) (τ.1 4)) (τ.1 2 4) (τ.1 2 2) (τ.1 2 3) (τ.1 44 8) (τ.1 44 9) (τ.1 44 10) (τ.1 2 5) (τ.1 2 6) w m (ydv τ 44, τ.2 44 7))) : LR σ ck un tl so w y n (k + m) τ' := by
  obtain ⟨hF, hck, ⟨h8, h9, h10⟩, hy, hn, hI, hY⟩ := h
  have e : yPass (lawV τ) (τ.1 7) (τ.1 46) (edS τ) (τ.1 9) (τ.1 10) (τ.1 11) (gOv (τ.1 3) (τ.1 4)) (τ.1 2 4) (τ.1 2 2) (τ.1 2 3) (τ.1 44 8) (τ.1 44 9) (τ.1 44 10) (τ.1 2 5) (τ.1 2 6) w m (ydv τ 44, τ.2 44 7) = paR σ (τ.1 46) un tl so w m (ydv τ 44, (paR σ ck un tl so w k (y, n)).2) := by
    rw [← hn, ← paR_fr hF nc_lb, ← h8, ← h9, ← h10]
    rfl
  have hYe : (paR σ (τ.1 46) un tl so w m (ydv τ 44, (paR σ ck un tl so w k (y, n)).2)).1.2.2.2.2 = τ.1 44 6 + m := by
    unfold paR
    rw [yPass_ye]
    rfl
  rw [e] at h3
  have q := paR_c hT hB hck un tl so w (n := (paR σ ck un tl so w k (y, n)).2) hy m
  have ad : paR σ ck un tl so w (k + m) (y, n) = paR σ ck un tl so w m ((paR σ ck un tl so w k (y, n)).1, (paR σ ck un tl so w k (y, n)).2) := by
    unfold paR
    exact yPass_add _ _ _ _ _ _ _ _ _ _ _ _ _ _ _ _ _ _ _ _
  obtain ⟨f1, f2, f3, f4, f5⟩ := h3
  refine ⟨hF.tr (f1.mono (by decide)), fun s a b => ?_, ⟨?_, ?_, ?_⟩, ?_, ?_, f5, ?_⟩
  · rw [(f1 46 (by decide)).1]; exact hck s a b
  · rw [f3 8 (by decide) (by decide)]; exact h8
  · rw [f3 9 (by decide) (by decide)]; exact h9
  · rw [f3 10 (by decide) (by decide)]; exact h10
  · rw [f2, ad]; exact q.1
  · rw [f4, ad]; exact q.2
  · have g : τ'.1 44 6 = (ydv τ' 44).2.2.2.2 := rfl
    rw [g, f2, hYe, hY]
    omega
theorem LI.s8 {σ : Sg} {L : Nat} (h : LI σ L) {v : Int} (hv : -1 ≤ v ∧ v ≤ 5) : LI (sI σ L 8 v) L := by
  obtain ⟨a, b, c, d, e, f, g, i⟩ := h
  refine ⟨?_, ?_, ?_, ?_, e, ?_, ?_, ?_⟩
  · rw [sI_ne _ (by omega), sI_ne _ (by omega)]; exact a
  · rw [sI_ne _ (by omega), sI_ne _ (by omega)]; exact b
  all_goals simp only [sI_1]
  · exact c
  · exact d
  · exact hv
  · exact g
  · exact i
theorem LI.s9 {σ : Sg} {L : Nat} (h : LI σ L) {v : Int} (hv : v = 0 ∨ v = 1) : LI (sI σ L 9 v) L := by
  obtain ⟨a, b, c, d, e, f, g, i⟩ := h
  refine ⟨?_, ?_, ?_, ?_, e, ?_, ?_, ?_⟩
  · rw [sI_ne _ (by omega), sI_ne _ (by omega)]; exact a
  · rw [sI_ne _ (by omega), sI_ne _ (by omega)]; exact b
  all_goals simp only [sI_1]
  · exact c
  · exact d
  · exact f
  · exact hv
  · exact i
theorem LI.s10 {σ : Sg} {L : Nat} (h : LI σ L) {v : Int} (hv : v = 0 ∨ v = 1) : LI (sI σ L 10 v) L := by
  obtain ⟨a, b, c, d, e, f, g, i⟩ := h
  refine ⟨?_, ?_, ?_, ?_, e, ?_, ?_, ?_⟩
  · rw [sI_ne _ (by omega), sI_ne _ (by omega)]; exact a
  · rw [sI_ne _ (by omega), sI_ne _ (by omega)]; exact b
  all_goals simp only [sI_1]
  · exact c
  · exact d
  · exact f
  · exact g
  · exact hv
theorem LI.s7 {σ : Sg} {L : Nat} (h : LI σ L) {v : Int} (hv : 0 ≤ v ∧ v ≤ 2147483647) : LI (sJ σ L 7 v) L := by
  obtain ⟨a, b, c, d, e, f, g, i⟩ := h
  exact ⟨a, b, c, d, by rw [sJ_2, if_pos ⟨rfl, rfl⟩]; exact hv, f, g, i⟩
/-- later as now is, with stones only or not -/
theorem LR_0 {σ s : Sg} (hT : TI σ) (hI : LI σ 39) (h : LC σ 44 39 s) {v : Int} (hv : v = 0 ∨ v = 1) (w : Int) : LR σ (σ.1 41) (-1) 0 v w (ydv σ 39) (σ.2 39 7) 0 (sI s 44 10 v) := by
  have hl := LC_LI h hI
  obtain ⟨-, -, hnp, hnc, -⟩ := hT
  obtain ⟨hF, hd, h8, h9, h10⟩ := h
  have q := ldv_YR (np := σ.1 2 2) (nc := σ.1 2 3) hd hnp.2 hnc.2
  have hF' : Fr [44, 45, 46, 47, 48] σ s := hF
  refine ⟨(hF'.mono (by decide)).sI (by decide) _ _, fun i a b => ?_, ⟨?_, ?_, ?_⟩, ?_, ?_, hl.s10 hv, ?_⟩
  · rw [sI_ne _ (by decide)]
    exact q.2.1 i a (by omega)
  · rw [sI_1, if_neg (by decide)]; exact h8
  · rw [sI_1, if_neg (by decide)]; exact h9
  · rw [sI_1, if_pos ⟨rfl, rfl⟩]
  · exact q.1
  · exact q.2.2
  · have g := q.1.2.2.2
    show s.1 44 6 = σ.1 39 6 + ((0 : Nat) : Int)
    have g2 : s.1 44 6 = σ.1 39 6 := g
    omega
