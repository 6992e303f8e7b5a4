/-! ===== years run aside ===== -/
theorem yPass_c {lv lv' : Int → (Int → Int) → Int} {mo mo' ck ck' ed ed' bs bs' bc bc' by_ by_' : Int → Int} {ov ov' : (Int → Int) → Int → Int → Int} {np nc nb : Int} (hlv : LvR lv lv') (hmo : ∀ c, 0 ≤ c → c < nc → mo c = mo' c) (hck : ∀ s, 0 ≤ s → s < 4 * np → ck s = ck' s) (hed : ∀ s, 0 ≤ s → s < 4 * np → ed s = ed' s) (hb : ∀ k, 0 ≤ k → k < nb → bs k = bs' k ∧ bc k = bc' k ∧ by_ k = by_' k ∧ 0 ≤ bs k ∧ bs k < 4 * np ∧ 0 ≤ bc k ∧ bc k < nc) (hov : ∀ f f', (∀ i, 0 ≤ i → i < 4 * np → f i = f' i) → ∀ p q, 0 ≤ p → p < np → 0 ≤ q → q < np → ov f p q = ov' f' p q) (h0 : 0 ≤ nb) (h1 : 0 ≤ np) (h2 : 0 ≤ nc) (un tl so lb rain w : Int) {y y' : Yd} {n : Int} (h : YR np nc y y') : ∀ k : Nat, YR np nc (yPass lv mo ck ed bs bc by_ ov nb np nc un tl so lb rain w k (y, n)).1 (yPass lv' mo' ck' ed' bs' bc' by_' ov' nb np nc un tl so lb rain w k (y', n)).1 ∧ (yPass lv mo ck ed bs bc by_ ov nb np nc un tl so lb rain w k (y, n)).2 = (yPass lv' mo' ck' ed' bs' bc' by_' ov' nb np nc un tl so lb rain w k (y', n)).2
  | 0 => ⟨h, rfl⟩
  | k + 1 => by
    have ih := yPass_c hlv hmo hck hed hb hov h0 h1 h2 un tl so lb rain w (n := n) h k
    simp only [yPass]
    rw [ih.2]
    exact ⟨yYear_c hlv hmo hck hed hb hov h0 h1 h2 un tl so lb _ ih.1, rfl⟩
theorem yPass_add (lv : Int → (Int → Int) → Int) (mo ck ed bs bc by_ : Int → Int) (ov : (Int → Int) → Int → Int → Int) (nb np nc un tl so lb rain w : Int) (s : Yd × Int) (a : Nat) : ∀ b : Nat, yPass lv mo ck ed bs bc by_ ov nb np nc un tl so lb rain w (a + b) s = yPass lv mo ck ed bs bc by_ ov nb np nc un tl so lb rain w b (yPass lv mo ck ed bs bc by_ ov nb np nc un tl so lb rain w a s)
  | 0 => rfl
  | b + 1 => by
    show yPass lv mo ck ed bs bc by_ ov nb np nc un tl so lb rain w (a + b + 1) s = _
    simp only [yPass]
    rw [yPass_add lv mo ck ed bs bc by_ ov nb np nc un tl so lb rain w s a b]
/-- years by what is told: cakes, who isn't led, who doesn't tire, stones only, the weather -/
def paR (σ : Sg) (ck : Int → Int) (un tl so w : Int) (k : Nat) (s : Yd × Int) : Yd × Int := yPass (lawV σ) (σ.1 7) ck (edS σ) (σ.1 9) (σ.1 10) (σ.1 11) (gOv (σ.1 3) (σ.1 4)) (σ.1 2 4) (σ.1 2 2) (σ.1 2 3) un tl so (σ.1 2 5) (σ.1 2 6) w k s
theorem LvR_lawV (σ : Sg) : LvR (lawV σ) (lawV σ) := fun _ _ _ _ _ h => evLaw_nm h _ _ _
theorem paR_c {σ : Sg} (hT : TI σ) (hB : TB σ) {ck ck' : Int → Int} (hck : ∀ s, 0 ≤ s → s < 4 * σ.1 2 2 → ck s = ck' s) (un tl so w : Int) {y y' : Yd} {n : Int} (h : YR (σ.1 2 2) (σ.1 2 3) y y') (k : Nat) : YR (σ.1 2 2) (σ.1 2 3) (paR σ ck un tl so w k (y, n)).1 (paR σ ck' un tl so w k (y', n)).1 ∧ (paR σ ck un tl so w k (y, n)).2 = (paR σ ck' un tl so w k (y', n)).2 := by
  obtain ⟨-, -, hnp, hnc, hnb, -, -, -, -, -, -, hbt, -⟩ := hT
  have hb : ∀ j, 0 ≤ j → j < σ.1 2 4 → σ.1 9 j = σ.1 9 j ∧ σ.1 10 j = σ.1 10 j ∧ σ.1 11 j = σ.1 11 j ∧ 0 ≤ σ.1 9 j ∧ σ.1 9 j < 4 * σ.1 2 2 ∧ 0 ≤ σ.1 10 j ∧ σ.1 10 j < σ.1 2 3 := fun j a b => by
    have q1 := hbt j a (by omega)
    have q2 := hB j a b
    exact ⟨rfl, rfl, rfl, by omega, by omega, by omega, by omega⟩
  have hov : ∀ f f' : Int → Int, (∀ i, 0 ≤ i → i < 4 * σ.1 2 2 → f i = f' i) → ∀ p q, 0 ≤ p → p < σ.1 2 2 → 0 ≤ q → q < σ.1 2 2 → gOv (σ.1 3) (σ.1 4) f p q = gOv (σ.1 3) (σ.1 4) f' p q := fun f f' hf p q a b c d => gOv_c (fun _ _ _ => ⟨rfl, rfl⟩) hf a b c d
  unfold paR
  exact yPass_c (lv := lawV σ) (lv' := lawV σ) (mo := σ.1 7) (mo' := σ.1 7) (ck := ck) (ck' := ck') (ed := edS σ) (ed' := edS σ) (bs := σ.1 9) (bs' := σ.1 9) (bc := σ.1 10) (bc' := σ.1 10) (by_ := σ.1 11) (by_' := σ.1 11) (ov := gOv (σ.1 3) (σ.1 4)) (ov' := gOv (σ.1 3) (σ.1 4)) (np := σ.1 2 2) (nc := σ.1 2 3) (nb := σ.1 2 4) (LvR_lawV σ) (fun _ _ _ => rfl) hck (fun _ _ _ => rfl) hb hov hnb.1 hnp.1 hnc.1 un tl so (σ.1 2 5) (σ.1 2 6) w h k
/-- the same told, the same years -/
theorem paR_fr {C : List Nat} {σ σ' : Sg} (hF : Fr C σ σ') (hC : ∀ a, 2 ≤ a → a ≤ 16 → a ∉ C) (ck : Int → Int) (un tl so w : Int) (k : Nat) (s : Yd × Int) : paR σ' ck un tl so w k s = paR σ ck un tl so w k s := by
  have hV : lawV σ' = lawV σ := by
    funext r nm
    exact lawV.fr hF (hC 14 (by decide) (by decide)) (hC 15 (by decide) (by decide)) (hC 16 (by decide) (by decide)) r nm
  have hE : edS σ' = edS σ := by
    funext s
    exact edS.fr hF (fun a h1 h2 => hC a h1 (by omega)) s
  unfold paR
  rw [hV, hE, (hF 2 (hC 2 (by decide) (by decide))).1, (hF 3 (hC 3 (by decide) (by decide))).1, (hF 4 (hC 4 (by decide) (by decide))).1, (hF 7 (hC 7 (by decide) (by decide))).1, (hF 9 (hC 9 (by decide) (by decide))).1, (hF 10 (hC 10 (by decide) (by decide))).1, (hF 11 (hC 11 (by decide) (by decide))).1]
theorem nc_la : ∀ a, 2 ≤ a → a ≤ 16 → a ∉ [44, 45, 46, 47, 48] := by
  intro a h1 h2 h3
  simp only [List.mem_cons, List.not_mem_nil, or_false] at h3
  omega
theorem nc_lb : ∀ a, 2 ≤ a → a ≤ 16 → a ∉ [44, 45, 46, 47, 48, 17, 55] := by
  intro a h1 h2 h3
  simp only [List.mem_cons, List.not_mem_nil, or_false] at h3
  omega
theorem nc_lc : ∀ a, 39 ≤ a → a ≤ 39 + 4 → a ∉ [44, 45, 46, 47, 48, 17, 55] := by
  intro a h1 h2 h3
  simp only [List.mem_cons, List.not_mem_nil, or_false] at h3
  omega
/-- a land that has become another is like it -/
theorem ldv_YR {σ σ' : Sg} {L K : Nat} {np nc : Int} (h : ldv σ' L = ldv σ K) (h1 : np ≤ 4) (h2 : nc ≤ 6) : YR np nc (ydv σ' L) (ydv σ K) ∧ (∀ i, 0 ≤ i → i < 16 → σ'.1 (L + 2) i = σ.1 (K + 2) i) ∧ σ'.2 L 7 = σ.2 K 7 := by
  unfold ldv at h
  have a1 := congrArg (fun x : Ld => x.1) h
  have a2 := congrArg (fun x : Ld => x.2.1) h
  have a3 := congrArg (fun x : Ld => x.2.2.1) h
  have a4 := congrArg (fun x : Ld => x.2.2.2.1) h
  have a5 := congrArg (fun x : Ld => x.2.2.2.2.1) h
  have a6 := congrArg (fun x : Ld => x.2.2.2.2.2.1) h
  have a7 := congrArg (fun x : Ld => x.2.2.2.2.2.2) h
  refine ⟨⟨fun i p q => msk_eq a1 p (by omega), fun i p q => ⟨msk_eq a3 p (by omega), msk_eq a4 p (by omega)⟩, a5, a6⟩, fun i p q => msk_eq a2 p q, a7⟩
theorem LC_LI {σ σ' : Sg} {L K : Nat} (h : LC σ L K σ') (hI : LI σ K) : LI σ' L := by
  obtain ⟨hF, hl, h8, h9, h10⟩ := h
  unfold ldv at hl
  have a1 := congrArg (fun x : Ld => x.1) hl
  have a2 := congrArg (fun x : Ld => x.2.1) hl
  have a3 := congrArg (fun x : Ld => x.2.2.1) hl
  have a4 := congrArg (fun x : Ld => x.2.2.2.1) hl
  have a5 : σ'.1 L 5 = σ.1 K 5 := congrArg (fun x : Ld => x.2.2.2.2.1) hl
  have a6 : σ'.1 L 6 = σ.1 K 6 := congrArg (fun x : Ld => x.2.2.2.2.2.1) hl
  have a7 : σ'.2 L 7 = σ.2 K 7 := congrArg (fun x : Ld => x.2.2.2.2.2.2) hl
  refine ⟨fun i p q => ?_, fun i p q => ?_, ?_, ?_, ?_, ?_, ?_, ?_⟩
  · rw [msk_eq a1 p q, msk_eq a2 p q]; exact hI.1 i p q
  · rw [msk_eq a3 p q, msk_eq a4 p q]; exact hI.2.1 i p q
  · rw [a5]; exact hI.2.2.1
  · rw [a6]; exact hI.2.2.2.1
  · rw [a7]; exact hI.2.2.2.2.1
  · omega
  · omega
  · omega
/-- later has run: what comes, by what is told and what it began with -/
theorem later_run {σ s2 s3 : Sg} (hT : TI σ) (hB : TB σ) (hF : Fr [44, 45, 46, 47, 48] σ s2) {ck : Int → Int} {un tl so w : Int} {y : Yd} {n : Int} (hck : ∀ s, 0 ≤ s → s < 4 * σ.1 2 2 → s2.1 46 s = ck s) (h8 : s2.1 44 8 = un) (h9 : s2.1 44 9 = tl) (h10 : s2.1 44 10 = so) (hy : YR (σ.1 2 2) (σ.1 2 3) (ydv s2 44) y) (hn : s2.2 44 7 = n) {k : Nat}
    (h3 : Ln s2 s3 44 (yPass (lawV s2) (s2.1 7) (s2.1 46) (edS s2) (s2.1 9) (s2.1 10) (s2.1 11) (gOv (s2.1 3) (s2.1 4)) (s2.1 2 4) (s2.1 2 2) (s2.1 2 3) (s2.1 44 8) (s2.1 44 9) (s2.1 44 10) (s2.1 2 5) (s2.1 2 6) w k (ydv s2 44, s2.2 44 7))) :
    Fr [44, 45, 46, 47, 48, 17, 55] σ s3 ∧ YR (σ.1 2 2) (σ.1 2 3) (ydv s3 44) (paR σ ck un tl so w k (y, n)).1 ∧ s3.2 44 7 = (paR σ ck un tl so w k (y, n)).2 ∧ LI s3 44 := by
  have e : yPass (lawV s2) (s2.1 7) (s2.1 46) (edS s2) (s2.1 9) (s2.1 10) (s2.1 11) (gOv (s2.1 3) (s2.1 4)) (s2.1 2 4) (s2.1 2 2) (s2.1 2 3) (s2.1 44 8) (s2.1 44 9) (s2.1 44 10) (s2.1 2 5) (s2.1 2 6) w k (ydv s2 44, s2.2 44 7) = paR σ (s2.1 46) un tl so w k (ydv s2 44, n) := by
    rw [← paR_fr hF nc_la, ← h8, ← h9, ← h10, ← hn]
    rfl
  rw [e] at h3
  have q := paR_c hT hB hck un tl so w (n := n) hy k
  obtain ⟨f1, f2, f3, f4, f5⟩ := h3
  refine ⟨(hF.mono (by decide)).tr (f1.mono (by decide)), ?_, ?_, f5⟩
  · rw [f2]; exact q.1
  · rw [f4]; exact q.2
