/-! ===== guesses: the class's land 71, from its start with other legs ===== -/
noncomputable def fitB (P : Prop) : Int := @ite Int P (Classical.propDecidable P) 1 0
theorem fitB_p {P : Prop} (h : P) : fitB P = 1 := @if_pos P (Classical.propDecidable P) h Int 1 0
theorem fitB_n {P : Prop} (h : ¬ P) : fitB P = 0 := @if_neg P (Classical.propDecidable P) h Int 1 0
theorem fitB_1 {P : Prop} : fitB P = 1 ↔ P := ⟨fun h => by
  cases Classical.em P with
  | inl q => exact q
  | inr q => rw [fitB_n q] at h; omega, fitB_p⟩
theorem nc_lg : ∀ a, 2 ≤ a → a ≤ 16 → a ∉ [17, 55, 69, 70, 71, 72, 73, 74, 75, 76, 77] := by
  intro a h1 h2 h3; simp only [List.mem_cons, List.not_mem_nil, or_false] at h3; omega
theorem nc_lh : ∀ a, 39 ≤ a → a ≤ 39 + 4 → a ∉ [17, 55, 69, 70, 71, 72, 73, 74, 75, 76, 77] := by
  intro a h1 h2 h3; simp only [List.mem_cons, List.not_mem_nil, or_false] at h3; omega
def yS (σ : Sg) (c g : Int) : Yd := ((fun _ => 0), uf (σ.1 6) c g, (fun _ => 0), 0, 0)
def gRn (σ : Sg) (c g : Int) (t : Nat) : Yd × Int := paR σ (σ.1 12) (-1) 0 1 0 t (yS σ c g, σ.1 2 7)
def LG (σ : Sg) (c g : Int) (k : Nat) (τ : Sg) : Prop := Fr [17, 55, 69, 70, 71, 72, 73, 74, 75, 76, 77] σ τ ∧ (∀ s, 0 ≤ s → s < 4 * σ.1 2 2 → τ.1 73 s = σ.1 12 s) ∧ (τ.1 71 8 = -1 ∧ τ.1 71 9 = 0 ∧ τ.1 71 10 = 1) ∧ YR (σ.1 2 2) (σ.1 2 3) (ydv τ 71) (gRn σ c g k).1 ∧ τ.2 71 7 = (gRn σ c g k).2 ∧ LI τ 71 ∧ τ.1 71 6 = k
theorem fgT {σ τ : Sg} (h : Fr [17, 55, 69, 70, 71, 72, 73, 74, 75, 76, 77] σ τ) (hT : TI σ) : TI τ := hT.fr h (fun a h1 h2 => nc_lg a h1 (by omega))
theorem fgB {σ τ : Sg} (h : Fr [17, 55, 69, 70, 71, 72, 73, 74, 75, 76, 77] σ τ) (hT : TB σ) : TB τ := hT.fr h (fun a h1 h2 => nc_lg a h1 (by omega))
theorem fgW {σ τ : Sg} (h : Fr [17, 55, 69, 70, 71, 72, 73, 74, 75, 76, 77] σ τ) (hT : LW σ) : LW τ := hT.fr h (nc_lg 14 (by decide) (by decide)) (nc_lg 15 (by decide) (by decide)) (nc_lg 16 (by decide) (by decide))
theorem fgc {σ τ : Sg} (h : Fr [17, 55, 69, 70, 71, 72, 73, 74, 75, 76, 77] σ τ) {a : Nat} (h1 : 2 ≤ a) (h2 : a ≤ 16) : τ.1 a = σ.1 a := (h a (nc_lg a h1 h2)).1
theorem LG_step {σ τ τ' : Sg} (hT : TI σ) (hB : TB σ) {c g : Int} {k m : Nat} (h : LG σ c g k τ)
    (h3 : Ln τ τ' 71 (yPass (lawV τ) (τ.1 7) (τ.1 73) (edS τ) (τ.1 9) (τ.1 10) (τ.1 11) (gOv (τ.1 3) (τ.1 4)) (τ.1 2 4) (τ.1 2 2) (τ.1 2 3) (τ.1 71 8) (τ.1 71 9) (τ.1 71 10) (τ.1 2 5) (τ.1 2 6) 0 m (ydv τ 71, τ.2 71 7))) : LG σ c g (k + m) τ' := by
  obtain ⟨hF, hck, ⟨h8, h9, h10⟩, hy, hn, hI, hY⟩ := h
  have e : yPass (lawV τ) (τ.1 7) (τ.1 73) (edS τ) (τ.1 9) (τ.1 10) (τ.1 11) (gOv (τ.1 3) (τ.1 4)) (τ.1 2 4) (τ.1 2 2) (τ.1 2 3) (τ.1 71 8) (τ.1 71 9) (τ.1 71 10) (τ.1 2 5) (τ.1 2 6) 0 m (ydv τ 71, τ.2 71 7) = paR σ (τ.1 73) (-1) 0 1 0 m (ydv τ 71, (gRn σ c g k).2) := by
    rw [← hn, ← paR_fr hF nc_lg, ← h8, ← h9, ← h10]
    rw [h9]
    rfl
  have hYe : (paR σ (τ.1 73) (-1) 0 1 0 m (ydv τ 71, (gRn σ c g k).2)).1.2.2.2.2 = τ.1 71 6 + m := by
    unfold paR
    rw [yPass_ye]
    rfl
  rw [e] at h3
  have q := paR_c hT hB hck (-1) 0 1 0 (n := (gRn σ c g k).2) hy m
  have ad : gRn σ c g (k + m) = paR σ (σ.1 12) (-1) 0 1 0 m ((gRn σ c g k).1, (gRn σ c g k).2) := by
    unfold gRn paR
    exact yPass_add _ _ _ _ _ _ _ _ _ _ _ _ _ _ _ _ _ _ _ _
  obtain ⟨f1, f2, f3, f4, f5⟩ := h3
  refine ⟨hF.tr (f1.mono (by decide)), fun s a b => ?_, ⟨?_, ?_, ?_⟩, ?_, ?_, f5, ?_⟩
  · rw [(f1 73 (by decide)).1]; exact hck s a b
  · rw [f3 8 (by decide) (by decide)]; exact h8
  · rw [f3 9 (by decide) (by decide)]; exact h9
  · rw [f3 10 (by decide) (by decide)]; exact h10
  · rw [f2, ad]; exact q.1
  · rw [f4, ad]; exact q.2
  · have g : τ'.1 71 6 = (ydv τ' 71).2.2.2.2 := rfl
    rw [g, f2, hYe, hY]
    omega
theorem LB_LI {σ s : Sg} {L : Nat} (hT : TI σ) (h : LB σ L s) : LI s L := by
  obtain ⟨-, -, -, -, -, -, -, hsd, -, -, hch, -, hck⟩ := hT
  obtain ⟨-, h1, h2, h3, h4, h5, h6, h7, h8⟩ := h
  refine ⟨fun i a b => ?_, fun i a b => ?_, by omega, by omega, by omega, by omega, by omega, by omega⟩
  · have := h1 i a b
    have := hck i a b
    omega
  · have := h2 i a b
    have := hch i a b
    omega
/-- what was seen holds of a land t years on -/
def NY (σ : Sg) (b : Int) : Int := nyF (cntF σ) (σ.1 63) (σ.1 64) b (σ.1 62 7).toNat
def ctS (σ : Sg) (k : Int) : Prop := 0 ≤ k ∧ k < σ.1 62 7 ∧ cntF σ k ≠ 0 ∧ σ.1 63 k = -1
def hoS (σ : Sg) (c g k : Int) : Prop := gHold (σ.1 3) (σ.1 4) (gRn σ c g (σ.1 64 k).toNat).1.1 (σ.1 65 k) (σ.1 66 k) (σ.1 67 k) = σ.1 68 k
def fitC (σ : Sg) (c g : Int) : Prop := ∀ k, ctS σ k → hoS σ c g k
def fitL (σ : Sg) (c g b : Int) : Prop := ∀ k, ctS σ k → σ.1 64 k ≤ b → hoS σ c g k
noncomputable def cntL (σ : Sg) (b : Int) : Int := zs (fun k => fitB (ctS σ k ∧ σ.1 64 k ≤ b)) (σ.1 62 7)
theorem nyF_no {cn sk yr : Int → Int} {b : Int} (hb : 0 ≤ b) : ∀ n : Nat, (∀ k : Int, 0 ≤ k → k < n → 0 ≤ yr k) → (nyF cn sk yr b n = -1 ∧ ∀ k : Int, 0 ≤ k → k < n → cn k ≠ 0 → sk k = -1 → yr k ≤ b) ∨ (b < nyF cn sk yr b n ∧ (∃ k : Int, 0 ≤ k ∧ k < n ∧ cn k ≠ 0 ∧ sk k = -1 ∧ yr k = nyF cn sk yr b n) ∧ ∀ k : Int, 0 ≤ k → k < n → cn k ≠ 0 → sk k = -1 → b < yr k → nyF cn sk yr b n ≤ yr k)
  | 0, _ => Or.inl ⟨rfl, fun k a b => absurd b (by omega)⟩
  | n + 1, hy => by
    have ih := nyF_no (cn := cn) (sk := sk) hb n (fun k a b => hy k a (by omega))
    simp only [nyF]
    by_cases q : (cn n ≠ 0 ∧ sk n = -1 ∧ b < yr n) ∧ (nyF cn sk yr b n = -1 ∨ yr n < nyF cn sk yr b n)
    · rw [if_pos q]
      refine Or.inr ⟨q.1.2.2, ⟨n, by omega, by omega, q.1.1, q.1.2.1, rfl⟩, fun k a e c d f => ?_⟩
      by_cases r : k = n
      · rw [r]; omega
      · rcases ih with ⟨i1, i2⟩ | ⟨i1, i2, i3⟩
        · have := i2 k a (by omega) c d
          omega
        · have := i3 k a (by omega) c d f
          omega
    · rw [if_neg q]
      rcases ih with ⟨i1, i2⟩ | ⟨i1, ⟨k0, k1, k2, k3, k4, k5⟩, i3⟩
      · refine Or.inl ⟨i1, fun k a e c d => ?_⟩
        by_cases r : k = n
        · subst r
          by_cases s : yr n ≤ b
          · exact s
          · exact absurd ⟨⟨c, d, by omega⟩, Or.inl i1⟩ q
        · exact i2 k a (by omega) c d
      · refine Or.inr ⟨i1, ⟨k0, k1, by omega, k3, k4, k5⟩, fun k a e c d f => ?_⟩
        by_cases r : k = n
        · subst r
          by_cases s : nyF cn sk yr b n ≤ yr n
          · exact s
          · exact absurd ⟨⟨c, d, f⟩, Or.inr (by omega)⟩ q
        · exact i3 k a (by omega) c d f
theorem NY_no {σ : Sg} (hS : SI σ) {b : Int} (hb : 0 ≤ b) : (NY σ b = -1 ∧ ∀ k, ctS σ k → σ.1 64 k ≤ b) ∨ (b < NY σ b ∧ (∃ k, ctS σ k ∧ σ.1 64 k = NY σ b) ∧ ∀ k, ctS σ k → b < σ.1 64 k → NY σ b ≤ σ.1 64 k) := by
  have h := nyF_no (cn := cntF σ) (sk := σ.1 63) (yr := σ.1 64) hb (σ.1 62 7).toNat (fun k a e => (hS.2.2.1 k a (by have := hS.1; omega)).2.1.1)
  rcases h with ⟨h1, h2⟩ | ⟨h1, ⟨k, k0, k1, k2, k3, k4⟩, h3⟩
  · exact Or.inl ⟨h1, fun k q => h2 k q.1 (by have := q.2.1; omega) q.2.2.1 q.2.2.2⟩
  · exact Or.inr ⟨h1, ⟨k, ⟨k0, by omega, k2, k3⟩, k4⟩, fun k q r => h3 k q.1 (by have := q.2.1; omega) q.2.2.1 q.2.2.2 r⟩
theorem zsum_le {f g : Int → Int} : ∀ n : Nat, (∀ i : Int, 0 ≤ i → i < n → f i ≤ g i) → zsum f n ≤ zsum g n
  | 0, _ => Int.le_refl 0
  | n + 1, h => by
    have ih := zsum_le n (fun i a b => h i a (by omega))
    have := h n (by omega) (by omega)
    simp only [zsum]
    omega
theorem zsum_lt {f g : Int → Int} {k : Int} (k0 : 0 ≤ k) (hk : f k < g k) : ∀ n : Nat, k < n → (∀ i : Int, 0 ≤ i → i < n → f i ≤ g i) → zsum f n < zsum g n
  | 0, h, _ => absurd h (by omega)
  | n + 1, hn, h => by
    simp only [zsum]
    by_cases q : k = n
    · have ih := zsum_le n (fun i a b => h i a (by omega))
      rw [q] at hk
      omega
    · have ih := zsum_lt k0 hk n (by omega) (fun i a b => h i a (by omega))
      have := h n (by omega) (by omega)
      omega
theorem fitB_le {P Q : Prop} (h : P → Q) : fitB P ≤ fitB Q := by
  cases Classical.em P with
  | inl q => rw [fitB_p q, fitB_p (h q)]; omega
  | inr q =>
    rw [fitB_n q]
    cases Classical.em Q with
    | inl r => rw [fitB_p r]; omega
    | inr r => rw [fitB_n r]; omega
theorem fitB_01 (P : Prop) : fitB P = 0 ∨ fitB P = 1 := by
  cases Classical.em P with
  | inl q => exact Or.inr (fitB_p q)
  | inr q => exact Or.inl (fitB_n q)
theorem cntL_up {σ : Sg} {b y k : Int} (hk : ctS σ k) (h1 : b < y) (h2 : σ.1 64 k = y) : cntL σ b + 1 ≤ cntL σ y := by
  have h := zsum_lt (f := fun k => fitB (ctS σ k ∧ σ.1 64 k ≤ b)) (g := fun k => fitB (ctS σ k ∧ σ.1 64 k ≤ y)) hk.1 (by
    show fitB (ctS σ k ∧ σ.1 64 k ≤ b) < fitB (ctS σ k ∧ σ.1 64 k ≤ y)
    rw [fitB_n (fun q => by have := q.2; omega), fitB_p ⟨hk, by omega⟩]
    decide) (σ.1 62 7).toNat (by have := hk.2.1; omega) (fun i _ _ => fitB_le (fun q => ⟨q.1, by have := q.2; omega⟩))
  unfold cntL zs
  omega
theorem cntL_le {σ : Sg} (hn : 0 ≤ σ.1 62 7) (b : Int) : 0 ≤ cntL σ b ∧ cntL σ b ≤ σ.1 62 7 := zs_01 (f := fun k => fitB (ctS σ k ∧ σ.1 64 k ≤ b)) (fun t => fitB_01 _) hn
theorem SI_fg {σ τ : Sg} (hS : SI σ) (hF : Fr [17, 55, 69, 70, 71, 72, 73, 74, 75, 76, 77] σ τ) (h69 : ∀ i, 0 ≤ i → i < 24 → τ.1 69 i = 0 ∨ τ.1 69 i = 1) : SI τ := by
  obtain ⟨a, b, c, d⟩ := hS
  refine ⟨?_, ?_, fun k k0 k1 => ?_, ?_⟩
  · rw [(hF 62 (by decide)).1]; exact a
  · rw [(hF 62 (by decide)).1]; exact b
  · rw [(hF 63 (by decide)).1, (hF 64 (by decide)).1, (hF 65 (by decide)).1, (hF 66 (by decide)).1, (hF 67 (by decide)).1, (hF 68 (by decide)).1]
    obtain ⟨c1, c2, c3, c4, c5, c6, -⟩ := c k k0 k1
    exact ⟨c1, c2, c3, c4, c5, c6, h69 k k0 k1⟩
  · rw [(hF 63 (by decide)).1, (hF 62 (by decide)).1]; exact d
def SP (σ : Sg) : Prop := ∀ k, 0 ≤ k → k < σ.1 62 7 → σ.1 63 k = -1 → σ.1 65 k < σ.1 2 2
theorem ag_iff {σ τ : Sg} {c g b : Int} (hb : 0 ≤ b) (hS : SI σ) (hP : SP σ) (h : LG σ c g b.toNat τ) (e69 : τ.1 69 = cntF σ) : agR (τ.1 3) (τ.1 4) (τ.1 72) (τ.1 69) (τ.1 63) (τ.1 64) (τ.1 65) (τ.1 66) (τ.1 67) (τ.1 68) (τ.1 62 7) (τ.1 71 6) ↔ ∀ k, ctS σ k → σ.1 64 k = b → hoS σ c g k := by
  obtain ⟨hF, hck, -, hy, -, hI, hY⟩ := h
  rw [e69, (hF 63 (by decide)).1, (hF 64 (by decide)).1, (hF 65 (by decide)).1, (hF 66 (by decide)).1, (hF 67 (by decide)).1, (hF 68 (by decide)).1, (hF 62 (by decide)).1, (hF 3 (by decide)).1, (hF 4 (by decide)).1, hY]
  have key : ∀ k, ctS σ k → σ.1 64 k = b → gHold (σ.1 3) (σ.1 4) (τ.1 72) (σ.1 65 k) (σ.1 66 k) (σ.1 67 k) = gHold (σ.1 3) (σ.1 4) (gRn σ c g (σ.1 64 k).toNat).1.1 (σ.1 65 k) (σ.1 66 k) (σ.1 67 k) := by
    intro k hk e
    have hp := hP k hk.1 hk.2.1 hk.2.2.2
    have hp0 := (hS.2.2.1 k hk.1 (by have := hS.1; have := hk.2.1; omega)).2.2.1
    refine gHold_c ⟨rfl, rfl⟩ (fun i a d => ?_) _ _
    rw [e]
    exact hy.1 i (by omega) (by omega)
  constructor
  · intro q k hk e
    unfold hoS
    rw [← key k hk e]
    exact q k hk.1 hk.2.1 hk.2.2.1 hk.2.2.2 (by omega)
  · intro q k k0 k1 k2 k3 k4
    have hk : ctS σ k := ⟨k0, k1, k2, k3⟩
    rw [key k hk (by omega)]
    exact q k hk (by omega)

set_option maxHeartbeats 4000000 in
theorem c_X1_beginWith {G : Gx} {σ τ : Sg} {c g : Int} (hT : TI σ) (hF : Fr [17, 55, 69, 70, 71, 72, 73, 74, 75, 76, 77] σ τ) (hc0 : 0 ≤ c) (hc6 : c < 6) (hg0 : 1 ≤ g) (hg30 : g ≤ 30) : Con G 3 mX1_beginWith [.ref (G.2.2.2 + 70), .int (iZ c), .int (iZ g)] τ (pV (fun τ' => LG σ c g 0 τ' ∧ Fr [71, 72, 73, 74, 75] τ τ')) := by
  have hTt : TI τ := fgT hF hT
  obtain ⟨hzz, -, hnp, hnc, hnb, hlb, hrn, hsd, hrw, hrq, hch, hbt, hck⟩ := id hT
  refine e_entry om_X1_beginWith (Nat.le_of_ble_eq_true rfl) (L := [some (.ref (G.2.2.2 + 70)), some (.int (iZ c)), some (.int (iZ g))]) rfl ?_
  refine e_aload_n (q := 1) (i := 0) dX1_beginWith_0 rfl rfl rfl ?_
  refine e_getR (q := 4) dX1_beginWith_1 rfl fg_X1_28 (by first | assumption | rfl) rfl ?_
  refine e_Vv (q := 7) (vs := []) ok_X2_begin ml_X1_39 dX1_beginWith_4 rfl ⟨_, _, rfl⟩ (by first | assumption | rfl) rfl rfl (Nat.le_of_ble_eq_true rfl) (by decide) (c_X2_begin (L := 71) hTt (Or.inr (Or.inr (Or.inr rfl)))) (fun s4 h4 => ?_)
  refine e_aload_n (q := 8) (i := 0) dX1_beginWith_7 rfl rfl rfl ?_
  refine e_getR (q := 11) dX1_beginWith_8 rfl fg_X1_28 (by first | assumption | rfl) rfl ?_
  refine e_iconst (q := 12) dX1_beginWith_11 rfl ?_
  refine e_putZ (q := 15) (jz := 10) dX1_beginWith_12 rfl fp_X1_42 rfl (by first | assumption | rfl) rfl (by first | exact Or.inl rfl | exact Or.inr rfl | omega) ?_
  refine e_aload_n (q := 16) (i := 0) dX1_beginWith_15 rfl rfl rfl ?_
  refine e_getR (q := 19) dX1_beginWith_16 rfl fg_X1_28 (by first | assumption | rfl) rfl ?_
  refine e_getR (q := 22) dX1_beginWith_19 rfl fg_X1_46 (by first | assumption | rfl) rfl ?_
  refine e_iload_n (q := 23) (i := 1) dX1_beginWith_22 rfl rfl rfl ?_
  refine e_iload_n (q := 24) (i := 2) dX1_beginWith_23 rfl rfl rfl ?_
  refine e_iast (q := 25) dX1_beginWith_24 rfl (by first | assumption | rfl) ?_
  have hI4 : LI s4 71 := LB_LI hTt h4
  obtain ⟨f1, f2, f3, f4, f5, f6, f7, f8, f9⟩ := id h4
  have hfr : Fr [71, 72, 73, 74, 75] τ (sI (sI s4 71 10 1) 74 c g) := (f1.sI (by decide) _ _).sI (by decide) _ _
  have hL2 : LI (sI (sI s4 71 10 1) 74 c g) 71 := ((Lp.rf (hI4.s10 (v := 1) (Or.inr rfl))).legs c (V := g) ⟨by omega, by omega⟩).2.2.2.2
  have e12 : τ.1 12 = σ.1 12 := fgc hF (by decide) (by decide)
  have e6 : τ.1 6 = σ.1 6 := fgc hF (by decide) (by decide)
  have e2 : τ.1 2 = σ.1 2 := fgc hF (by decide) (by decide)
  refine r_v dX1_beginWith_25 rfl ⟨⟨hF.tr (hfr.mono (by decide)), fun s a b => ?_, ⟨?_, ?_, ?_⟩, ⟨fun i a b => ?_, fun i a b => ⟨?_, ?_⟩, ?_, ?_⟩, ?_, hL2, ?_⟩, hfr⟩
  · rw [sI_ne _ (by decide), sI_ne _ (by decide), (f2 s a (by omega)).2, e12]
  · rw [sI_ne _ (by decide), sI_1, if_neg (by decide)]; exact f7
  · rw [sI_ne _ (by decide), sI_1, if_neg (by decide)]; exact f8
  · rw [sI_ne _ (by decide), sI_1, if_pos ⟨rfl, rfl⟩]
  · show (sI (sI s4 71 10 1) 74 c g).1 72 i = 0
    rw [sI_ne _ (by decide), sI_ne _ (by decide)]; exact (f2 i a (by omega)).1
  · show (sI (sI s4 71 10 1) 74 c g).1 74 i = uf (σ.1 6) c g i
    unfold uf
    rw [sI_1]
    by_cases q : i = c
    · rw [if_pos ⟨rfl, q⟩, if_pos q]
    · rw [if_neg (fun r => q r.2), if_neg q, sI_ne _ (by decide), (f3 i a (by omega)).1, e6]
  · show (sI (sI s4 71 10 1) 74 c g).1 75 i = 0
    rw [sI_ne _ (by decide), sI_ne _ (by decide)]; exact (f3 i a (by omega)).2
  · show (sI (sI s4 71 10 1) 74 c g).1 71 5 = 0
    rw [sI_ne _ (by decide), sI_1, if_neg (by decide)]; exact f4
  · show (sI (sI s4 71 10 1) 74 c g).1 71 6 = 0
    rw [sI_ne _ (by decide), sI_1, if_neg (by decide)]; exact f5
  · show s4.2 71 7 = σ.1 2 7
    rw [f6, e2]
  · rw [sI_ne _ (by decide), sI_1, if_neg (by decide)]; exact f5

set_option maxHeartbeats 8000000 in
theorem c_X1_legsLeft {G : Gx} {σ : Sg} {c : Int} (hT : TI σ) (hB : TB σ) (hW : LW σ) (hS : SI σ) (hP : SP σ) (hy1 : ∀ k, ctS σ k → 1 ≤ σ.1 64 k) (hc0 : 0 ≤ c) (hc6 : c < 6) : Con G 8 mX1_legsLeft [.ref (G.2.2.2 + 70), .int (iZ c)] σ (pI (fun z σ' => z = zb (fun k => fitB (fitC σ c (k + 1))) 30 ∧ Fr [17, 55, 69, 70, 71, 72, 73, 74, 75, 76, 77] σ σ' ∧ (∀ k, 0 ≤ k → k < 24 → σ'.1 69 k = 0 ∨ σ'.1 69 k = 1))) := by
  refine e_entry om_X1_legsLeft (Nat.le_of_ble_eq_true rfl) (L := [some (.ref (G.2.2.2 + 70)), some (.int (iZ c)), none, none, none, none, none]) rfl ?_
  refine e_aload_n (q := 1) (i := 0) dX1_legsLeft_0 rfl rfl rfl ?_
  refine e_getR (q := 4) dX1_legsLeft_1 rfl fg_X1_19 (by first | assumption | rfl) rfl ?_
  refine e_Vv (q := 7) (vs := []) ok_X6_settle ml_X1_49 dX1_legsLeft_4 rfl ⟨_, _, rfl⟩ (by first | assumption | rfl) rfl rfl (Nat.le_of_ble_eq_true rfl) (by decide) (c_X6_settle hS) (fun s4 h4 => ?_)
  obtain ⟨hF4, e4, h14⟩ := h4
  have h01 : ∀ i, 0 ≤ i → i < 24 → cntF σ i = 0 ∨ cntF σ i = 1 := fun i a b => by rw [← e4]; exact h14 i a b
  refine e_iconst (q := 8) dX1_legsLeft_7 rfl ?_
  refine e_istore_n (q := 9) (i := 2) (L' := [_, _, _, _, _, _, _]) dX1_legsLeft_8 rfl rfl (by decide) rfl rfl ?_
  refine e_iconst (q := 10) dX1_legsLeft_9 rfl ?_
  refine e_istore_n (q := 11) (i := 3) (L' := [_, _, _, _, _, _, _]) dX1_legsLeft_10 rfl rfl (by decide) rfl rfl ?_
  have lp : ∀ (n : Nat) (τ : Sg) (i v : Int) (x4 x5 x6 : Option Value), 0 ≤ i → i + n = 30 → Fr [17, 55, 69, 70, 71, 72, 73, 74, 75, 76, 77] σ τ → τ.1 69 = cntF σ → v = zb (fun k => fitB (fitC σ c (k + 1))) i → J G 8 mX1_legsLeft (pI (fun z σ' => z = zb (fun k => fitB (fitC σ c (k + 1))) 30 ∧ Fr [17, 55, 69, 70, 71, 72, 73, 74, 75, 76, 77] σ σ' ∧ (∀ k, 0 ≤ k → k < 24 → σ'.1 69 k = 0 ∨ σ'.1 69 k = 1))) τ 11 [some (.ref (G.2.2.2 + 70)), some (.int (iZ c)), some (.int (iZ v)), some (.int (iZ i)), x4, x5, x6] [] := by
    intro n
    induction n with
    | zero =>
      intro τ i v x4 x5 x6 h0 hn hF e69 hv
      refine e_iload_n (q := 12) (i := 3) dX1_legsLeft_11 rfl rfl rfl ?_
      refine e_bipush (q := 14) dX1_legsLeft_12 rfl (by decide) ?_
      refine e_icmp_ge (q := 17) (tgt := 128) dX1_legsLeft_14 rfl (by decide) (fun c14 => ?_) (fun c14 => absurd (by omega) c14)
      refine e_iload_n (q := 129) (i := 2) dX1_legsLeft_128 rfl rfl rfl ?_
      exact r_i dX1_legsLeft_129 rfl ⟨by rw [hv]; congr 1; omega, hF, fun k a b => by rw [e69]; exact h01 k a b⟩
    | succ n ih =>
      intro τ i v x4 x5 x6 h0 hn hF e69 hv
      refine e_iload_n (q := 12) (i := 3) dX1_legsLeft_11 rfl rfl rfl ?_
      refine e_bipush (q := 14) dX1_legsLeft_12 rfl (by decide) ?_
      refine e_icmp_ge (q := 17) (tgt := 128) dX1_legsLeft_14 rfl (by decide) (fun c14 => absurd c14 (by omega)) (fun c14 => ?_)
      refine e_aload_n (q := 18) (i := 0) dX1_legsLeft_17 rfl rfl rfl ?_
      refine e_iload_n (q := 19) (i := 1) dX1_legsLeft_18 rfl rfl rfl ?_
      refine e_iload_n (q := 20) (i := 3) dX1_legsLeft_19 rfl rfl rfl ?_
      refine e_iconst (q := 21) dX1_legsLeft_20 rfl ?_
      refine e_iadd (q := 22) dX1_legsLeft_21 rfl ?_
      refine e_Vv (q := 25) (vs := [_, _]) ok_X1_beginWith ml_X1_54 dX1_legsLeft_22 rfl ⟨_, _, rfl⟩ (by first | assumption | rfl) rfl rfl (Nat.le_of_ble_eq_true rfl) (by decide) (c_X1_beginWith hT hF hc0 hc6 (by omega) (by omega)) (fun s22 h22 => ?_)
      obtain ⟨hG0, hf0⟩ := h22
      have e69b : s22.1 69 = cntF σ := by rw [(hf0 69 (by decide)).1]; exact e69
      have hS2 : SI s22 := SI_fg hS hG0.1 (fun k a b => by rw [e69b]; exact h01 k a b)
      refine e_iconst (q := 26) dX1_legsLeft_25 rfl ?_
      refine e_istore (q := 28) (L' := [_, _, _, _, _, _, _]) dX1_legsLeft_26 rfl (by decide) rfl rfl ?_
      refine e_aload_n (q := 29) (i := 0) dX1_legsLeft_28 rfl rfl rfl ?_
      refine e_getR (q := 32) dX1_legsLeft_29 rfl fg_X1_19 (by first | assumption | rfl) rfl ?_
      refine e_iconst (q := 33) dX1_legsLeft_32 rfl ?_
      refine e_Vip (q := 36) (vs := [_]) ok_X6_nextYear ml_X1_58 dX1_legsLeft_33 rfl ⟨_, _, rfl⟩ (by first | assumption | rfl) rfl rfl (Nat.le_of_ble_eq_true rfl) (by decide) (c_X6_nextYear hS2 ⟨by decide, by decide⟩) ?_
      rw [show nyF (s22.1 69) (s22.1 63) (s22.1 64) 0 (s22.1 62 7).toNat = NY σ 0 from by rw [e69b, (hG0.1 63 (by decide)).1, (hG0.1 64 (by decide)).1, (hG0.1 62 (by decide)).1]; rfl]
      refine e_istore (q := 38) (L' := [_, _, _, _, _, _, _]) dX1_legsLeft_36 rfl (by decide) rfl rfl ?_
      refine e_iconst (q := 39) dX1_legsLeft_38 rfl ?_
      refine e_istore (q := 41) (L' := [_, _, _, _, _, _, _]) dX1_legsLeft_39 rfl (by decide) rfl rfl ?_
      have fin : ∀ (τ2 : Sg) (a y s : Int), Fr [17, 55, 69, 70, 71, 72, 73, 74, 75, 76, 77] σ τ2 → τ2.1 69 = cntF σ → ((a = 1 ∧ fitC σ c (i + 1)) ∨ (a = 0 ∧ ¬ fitC σ c (i + 1))) → J G 8 mX1_legsLeft (pI (fun z σ' => z = zb (fun k => fitB (fitC σ c (k + 1))) 30 ∧ Fr [17, 55, 69, 70, 71, 72, 73, 74, 75, 76, 77] σ σ' ∧ (∀ k, 0 ≤ k → k < 24 → σ'.1 69 k = 0 ∨ σ'.1 69 k = 1))) τ2 111 [some (.ref (G.2.2.2 + 70)), some (.int (iZ c)), some (.int (iZ v)), some (.int (iZ i)), some (.int (iZ a)), some (.int (iZ y)), some (.int (iZ s))] [] := by
        intro τ2 a y s hF2 e9 hA
        refine e_iload (q := 113) dX1_legsLeft_111 rfl rfl ?_
        refine e_if_eq (q := 116) (tgt := 122) dX1_legsLeft_113 rfl (by decide) (fun c113 => ?_) (fun c113 => ?_) (hx := ⟨by omega, by omega⟩)
        · refine e_iinc (q := 125) (L' := [_, _, _, _, _, _, _]) dX1_legsLeft_122 rfl rfl (by decide) rfl rfl ?_
          refine e_goto (tgt := 11) dX1_legsLeft_125 (by decide) ?_
          refine ih _ _ _ _ _ _ (by omega) (by omega) hF2 e9 ?_
          rw [zb_succ _ h0, if_neg (by rw [fitB_n (by rcases hA with q | q; omega; exact q.2)]; decide), Int.add_zero]
          exact hv
        · refine e_iload_n (q := 117) (i := 2) dX1_legsLeft_116 rfl rfl rfl ?_
          refine e_iconst (q := 118) dX1_legsLeft_117 rfl ?_
          refine e_iload_n (q := 119) (i := 3) dX1_legsLeft_118 rfl rfl rfl ?_
          refine e_ishl (q := 120) dX1_legsLeft_119 rfl (iZ_shl1 h0 (by omega)) ?_
          refine e_ior (q := 121) dX1_legsLeft_120 rfl (by rw [hv]; exact iZ_orp (zb_lt _).1 (zb_lt _).2 (by omega)) ?_
          refine e_istore_n (q := 122) (i := 2) (L' := [_, _, _, _, _, _, _]) dX1_legsLeft_121 rfl rfl (by decide) rfl rfl ?_
          refine e_iinc (q := 125) (L' := [_, _, _, _, _, _, _]) dX1_legsLeft_122 rfl rfl (by decide) rfl rfl ?_
          refine e_goto (tgt := 11) dX1_legsLeft_125 (by decide) ?_
          refine ih _ _ _ _ _ _ (by omega) (by omega) hF2 e9 ?_
          rw [zb_succ _ h0, if_pos (fitB_p (by rcases hA with q | q; exact q.2; omega))]
      have lq : ∀ (k : Nat) (τ : Sg) (a y s b : Int), 0 ≤ b → b ≤ 60 → LG σ c (i + 1) b.toNat τ → τ.1 69 = cntF σ → y = NY σ b → ((a = 1 ∧ fitL σ c (i + 1) b) ∨ (a = 0 ∧ ¬ fitC σ c (i + 1))) → 0 ≤ s → s + k = 24 → s ≤ cntL σ b → J G 8 mX1_legsLeft (pI (fun z σ' => z = zb (fun k => fitB (fitC σ c (k + 1))) 30 ∧ Fr [17, 55, 69, 70, 71, 72, 73, 74, 75, 76, 77] σ σ' ∧ (∀ k, 0 ≤ k → k < 24 → σ'.1 69 k = 0 ∨ σ'.1 69 k = 1))) τ 41 [some (.ref (G.2.2.2 + 70)), some (.int (iZ c)), some (.int (iZ v)), some (.int (iZ i)), some (.int (iZ a)), some (.int (iZ y)), some (.int (iZ s))] [] := by
        intro k
        induction k with
        | zero =>
          intro τ a y s b hb0 hb1 hG e69 hy ha hs0 hsn hsc
          have hny := NY_no hS hb0
          have hnl := nyF_in (cn := cntF σ) (sk := σ.1 63) (yr := σ.1 64) (b := b) (σ.1 62 7).toNat (fun k a e => (hS.2.2.1 k a (by have := hS.1; omega)).2.1)
          have hyl : -1 ≤ NY σ b ∧ NY σ b ≤ 60 := hnl
          refine e_iload (q := 43) dX1_legsLeft_41 rfl rfl ?_
          refine e_bipush (q := 45) dX1_legsLeft_43 rfl (by decide) ?_
          refine e_icmp_ge (q := 48) (tgt := 111) dX1_legsLeft_45 rfl (by decide) (fun c45 => ?_) (fun c45 => absurd (by omega) c45)
          refine fin _ _ _ _ hG.1 e69 ?_
          rcases ha with ⟨q1, q2⟩ | q
          · refine Or.inl ⟨q1, ?_⟩
            rcases hny with ⟨n1, n2⟩ | ⟨n1, ⟨k0, n2, n4⟩, n3⟩
            · exact fun k hk => q2 k hk (n2 k hk)
            · exfalso
              have := cntL_up n2 n1 n4
              have := (cntL_le hS.1.1 (NY σ b)).2
              have := hS.1.2
              omega
          · exact Or.inr q
        | succ k ih2 =>
          intro τ a y s b hb0 hb1 hG e69 hy ha hs0 hsn hsc
          have hny := NY_no hS hb0
          have hnl := nyF_in (cn := cntF σ) (sk := σ.1 63) (yr := σ.1 64) (b := b) (σ.1 62 7).toNat (fun k a e => (hS.2.2.1 k a (by have := hS.1; omega)).2.1)
          have hyl : -1 ≤ NY σ b ∧ NY σ b ≤ 60 := hnl
          refine e_iload (q := 43) dX1_legsLeft_41 rfl rfl ?_
          refine e_bipush (q := 45) dX1_legsLeft_43 rfl (by decide) ?_
          refine e_icmp_ge (q := 48) (tgt := 111) dX1_legsLeft_45 rfl (by decide) (fun c45 => absurd c45 (by omega)) (fun c45 => ?_)
          refine e_iload (q := 50) dX1_legsLeft_48 rfl rfl ?_
          refine e_if_eq (q := 53) (tgt := 111) dX1_legsLeft_50 rfl (by decide) (fun c50 => ?_) (fun c50 => ?_) (hx := ⟨by omega, by omega⟩)
          · refine fin _ _ _ _ hG.1 e69 ?_
            rcases ha with ⟨q1, q2⟩ | q
            · omega
            · exact Or.inr q
          · refine e_iload (q := 55) dX1_legsLeft_53 rfl rfl ?_
            refine e_iconst (q := 56) dX1_legsLeft_55 rfl ?_
            refine e_icmp_eq (q := 59) (tgt := 111) dX1_legsLeft_56 rfl (by decide) (fun c56 => ?_) (fun c56 => ?_) (hx := ⟨by omega, by omega⟩)
            · refine fin _ _ _ _ hG.1 e69 ?_
              rcases ha with ⟨q1, q2⟩ | q
              · refine Or.inl ⟨q1, ?_⟩
                rcases hny with ⟨n1, n2⟩ | ⟨n1, _, n3⟩
                · exact fun k hk => q2 k hk (n2 k hk)
                · omega
              · exact Or.inr q
            · obtain ⟨n1, ⟨k0, n2, n4⟩, n3⟩ : b < NY σ b ∧ (∃ k, ctS σ k ∧ σ.1 64 k = NY σ b) ∧ ∀ k, ctS σ k → b < σ.1 64 k → NY σ b ≤ σ.1 64 k := by
                rcases hny with ⟨n1, _⟩ | q
                · omega
                · exact q
              have ha1 : a = 1 ∧ fitL σ c (i + 1) b := by
                rcases ha with q | q
                · exact q
                · omega
              have eY : τ.1 71 6 = b := by have := hG.2.2.2.2.2.2; omega
              refine e_aload_n (q := 60) (i := 0) dX1_legsLeft_59 rfl rfl rfl ?_
              refine e_getR (q := 63) dX1_legsLeft_60 rfl fg_X1_15 (by first | assumption | rfl) rfl ?_
              refine e_aload_n (q := 64) (i := 0) dX1_legsLeft_63 rfl rfl rfl ?_
              refine e_getR (q := 67) dX1_legsLeft_64 rfl fg_X1_28 (by first | assumption | rfl) rfl ?_
              refine e_iload (q := 69) dX1_legsLeft_67 rfl rfl ?_
              refine e_aload_n (q := 70) (i := 0) dX1_legsLeft_69 rfl rfl rfl ?_
              refine e_getR (q := 73) dX1_legsLeft_70 rfl fg_X1_28 (by first | assumption | rfl) rfl ?_
              refine e_getI (q := 76) (jz := 6) dX1_legsLeft_73 rfl fg_X1_62 rfl (by first | assumption | rfl) rfl ?_
              rw [eY]
              refine e_isub (q := 77) dX1_legsLeft_76 rfl ?_
              refine e_iconst (q := 78) dX1_legsLeft_77 rfl ?_
              refine e_Vv (q := 81) (vs := [_, _, _]) ok_X10_pass ml_X1_66 dX1_legsLeft_78 rfl ⟨_, _, rfl⟩ (by first | assumption | rfl) rfl rfl (Nat.le_of_ble_eq_true rfl) (by decide) (c_X10_pass (L := 71) (fgT hG.1 hT) (fgB hG.1 hB) (fgW hG.1 hW) hG.2.2.2.2.2.1 (Or.inr (Or.inr (Or.inr rfl))) (by omega) (by omega) (by omega) (by decide) (by decide)) (fun s78 h78 => ?_)
              have hG2 : LG σ c (i + 1) (NY σ b).toNat s78 := by
                have := LG_step hT hB hG h78
                rw [show b.toNat + (y - b).toNat = (NY σ b).toNat by omega] at this
                exact this
              have e69b : s78.1 69 = cntF σ := by rw [(h78.1 69 (by decide)).1]; exact e69
              have hS2 : SI s78 := SI_fg hS hG2.1 (fun k a b => by rw [e69b]; exact h01 k a b)
              refine e_aload_n (q := 82) (i := 0) dX1_legsLeft_81 rfl rfl rfl ?_
              refine e_getR (q := 85) dX1_legsLeft_82 rfl fg_X1_19 (by first | assumption | rfl) rfl ?_
              refine e_aload_n (q := 86) (i := 0) dX1_legsLeft_85 rfl rfl rfl ?_
              refine e_getR (q := 89) dX1_legsLeft_86 rfl fg_X1_28 (by first | assumption | rfl) rfl ?_
              refine e_Vi (q := 92) (vs := [_]) ok_X6_agrees ml_X1_72 dX1_legsLeft_89 rfl ⟨_, _, rfl⟩ (by first | assumption | rfl) rfl rfl (Nat.le_of_ble_eq_true rfl) (by decide) (c_X6_agrees (L := 71) hS2 (fgT hG2.1 hT) hG2.2.2.2.2.2.1 (Or.inr (Or.inr (Or.inr rfl)))) (fun z89 s89 h89 => ?_)
              obtain ⟨hag, es⟩ := h89
              subst es
              rw [show agR (s89.1 3) (s89.1 4) (s89.1 (71 + 1)) (s89.1 69) (s89.1 63) (s89.1 64) (s89.1 65) (s89.1 66) (s89.1 67) (s89.1 68) (s89.1 62 7) (s89.1 71 6) = ∀ k, ctS σ k → σ.1 64 k = NY σ b → hoS σ c (i + 1) k from propext (ag_iff (by omega) hS hP hG2 e69b)] at hag
              refine e_istore (q := 94) (L' := [_, _, _, _, _, _, _]) dX1_legsLeft_92 rfl (by decide) rfl rfl ?_
              refine e_aload_n (q := 95) (i := 0) dX1_legsLeft_94 rfl rfl rfl ?_
              refine e_getR (q := 98) dX1_legsLeft_95 rfl fg_X1_19 (by first | assumption | rfl) rfl ?_
              refine e_iload (q := 100) dX1_legsLeft_98 rfl rfl ?_
              refine e_Vip (q := 103) (vs := [_]) ok_X6_nextYear ml_X1_58 dX1_legsLeft_100 rfl ⟨_, _, rfl⟩ (by first | assumption | rfl) rfl rfl (Nat.le_of_ble_eq_true rfl) (by decide) (c_X6_nextYear hS2 ⟨by omega, by omega⟩) ?_
              rw [show nyF (s89.1 69) (s89.1 63) (s89.1 64) y (s89.1 62 7).toNat = NY σ (NY σ b) from by rw [e69b, hy, (hG2.1 63 (by decide)).1, (hG2.1 64 (by decide)).1, (hG2.1 62 (by decide)).1]; rfl]
              refine e_istore (q := 105) (L' := [_, _, _, _, _, _, _]) dX1_legsLeft_103 rfl (by decide) rfl rfl ?_
              refine e_iinc (q := 108) (L' := [_, _, _, _, _, _, _]) dX1_legsLeft_105 rfl rfl (by decide) rfl rfl ?_
              refine e_goto (tgt := 41) dX1_legsLeft_108 (by decide) ?_
              refine ih2 _ _ _ _ (NY σ b) (by omega) (by omega) hG2 e69b rfl ?_ (by omega) (by omega) (by have := cntL_up n2 n1 n4; omega)
              rcases hag with ⟨q1, q2⟩ | ⟨q1, q2⟩
              · refine Or.inl ⟨q1, fun k hk hl => ?_⟩
                by_cases r : σ.1 64 k ≤ b
                · exact ha1.2 k hk r
                · exact q2 k hk (by have := n3 k hk (by omega); omega)
              · exact Or.inr ⟨q1, fun q => q2 (fun k hk _ => q k hk)⟩
      exact lq 24 _ 1 _ 0 0 (by decide) (by decide) hG0 e69b rfl (Or.inl ⟨rfl, fun k hk hl => by have := hy1 k hk; omega⟩) (by decide) (by decide) (cntL_le hS.1.1 0).1
  exact lp 30 s4 0 0 _ _ _ (by decide) (by decide) (hF4.mono (by decide)) e4 rfl

