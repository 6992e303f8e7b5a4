/-! ===== the model's E: what it puts behind each part is what the class lets wait ===== -/
def fl : List Int → Kn → Kn
  | [], K => K
  | s :: P, K => fl P (kput K (-s))
theorem fl_app : ∀ (P Q : List Int) (K : Kn), fl (P ++ Q) K = fl Q (fl P K)
  | [], _, _ => rfl
  | s :: P, Q, K => fl_app P Q (kput K (-s))
theorem fl_len : ∀ (P : List Int) (K : Kn), (fl P K).1 = K.1 + P.length
  | [], K => by show K.1 = K.1 + ((0 : Nat) : Int); omega
  | s :: P, K => by
    show (fl P (kput K (-s))).1 = _
    rw [fl_len P (kput K (-s)), List.length_cons]
    show K.1 + 1 + _ = _
    omega
theorem sySet_app {l : Int} : ∀ (P S : List Int) (K : Kn), (∀ s ∈ P, l ≤ rk s) → sySet l (P ++ S) K = sySet l S (fl P K)
  | [], _, _, _ => rfl
  | s :: P, S, K, h => by
    show sySet l (s :: (P ++ S)) K = sySet l S (fl P (kput K (-s)))
    simp only [sySet]
    rw [if_pos (h s List.mem_cons_self)]
    exact sySet_app P S _ (fun x hx => h x (List.mem_cons_of_mem _ hx))
theorem sySet_stop {l : Int} {S : List Int} {K : Kn} (h : syTr S < l) : sySet l S K = (S, K) := by
  match S, h with
  | [], _ => rfl
  | s :: S, h =>
    simp only [sySet]
    exact if_neg (by have h : rk s < l := h; omega)
theorem sySet_to {l : Int} {P S : List Int} {K : Kn} (hP : ∀ s ∈ P, l ≤ rk s) (hS : syTr S < l) : sySet l (P ++ S) K = (S, fl P K) := by
  rw [sySet_app P S K hP, sySet_stop hS]
theorem sgn_app : ∀ P S : List Int, sgn (P ++ S) = sgn P + sgn S
  | [], S => by show sgn S = 0 + sgn S; omega
  | s :: P, S => by
    show sgn (P ++ S) + _ = sgn P + _ + sgn S
    rw [sgn_app P S]
    omega
theorem sgn_all {l : Int} (hl : 1 ≤ l) : ∀ P : List Int, (∀ s ∈ P, l ≤ rk s) → sgn P = P.length
  | [], _ => rfl
  | s :: P, h => by
    have h1 := h s List.mem_cons_self
    show sgn P + (if s = 24 then 0 else 1) = _
    rw [sgn_all hl P (fun x hx => h x (List.mem_cons_of_mem _ hx)), if_neg (fun q => by rw [q, rk24] at h1; omega), List.length_cons]
    omega
def mCU (σ : Sg) : Int → Int := fun k => if σ.1 98 (64 + k) = 0 then σ.1 99 (64 + k) else if σ.1 98 (64 + k) = 1 then -(σ.1 99 (64 + k) + 14) else -(sgT (σ.1 99 (64 + k)))
def mKU (σ : Sg) (k : Int) : Prop := (σ.1 98 (64 + k) = 0 ∧ 0 ≤ σ.1 99 (64 + k) ∧ σ.1 99 (64 + k) ≤ 9999) ∨ (σ.1 98 (64 + k) = 1 ∧ 0 ≤ σ.1 99 (64 + k) ∧ σ.1 99 (64 + k) ≤ 6) ∨ (σ.1 98 (64 + k) = 2 ∧ (σ.1 99 (64 + k) = 260 ∨ isBin (σ.1 99 (64 + k))))
def KR (σ : Sg) (K : Kn) : Prop := σ.1 84 13 = K.1 ∧ 0 ≤ K.1 ∧ ∀ i, 0 ≤ i → i < K.1 → mKU σ i ∧ mCU σ i = K.2 i
theorem KR.cg {σ τ : Sg} {K : Kn} (h : KR σ K) (h84 : τ.1 84 13 = σ.1 84 13) (h98 : τ.1 98 = σ.1 98) (h99 : τ.1 99 = σ.1 99) : KR τ K := by
  unfold KR mKU mCU
  rw [h84, h98, h99]
  exact h
def ptS (σ : Sg) (s v : Int) : Sg := sI (sI (sI σ 98 (64 + σ.1 84 13) s) 99 (64 + σ.1 84 13) v) 84 13 (σ.1 84 13 + 1)
theorem ptS_98 (σ : Sg) (s v i : Int) : (ptS σ s v).1 98 i = if i = 64 + σ.1 84 13 then s else σ.1 98 i := by
  unfold ptS
  rw [sI_ne _ (by decide), sI_ne _ (by decide), sI_1]
  by_cases q : i = 64 + σ.1 84 13
  · rw [if_pos ⟨rfl, q⟩, if_pos q]
  · rw [if_neg (fun r => q r.2), if_neg q]
theorem ptS_99 (σ : Sg) (s v i : Int) : (ptS σ s v).1 99 i = if i = 64 + σ.1 84 13 then v else σ.1 99 i := by
  unfold ptS
  rw [sI_ne _ (by decide), sI_1, sI_ne _ (by decide)]
  by_cases q : i = 64 + σ.1 84 13
  · rw [if_pos ⟨rfl, q⟩, if_pos q]
  · rw [if_neg (fun r => q r.2), if_neg q]
theorem KR.put {σ : Sg} {K : Kn} (h : KR σ K) {s v x : Int} (hk : (s = 0 ∧ 0 ≤ v ∧ v ≤ 9999 ∧ x = v) ∨ (s = 1 ∧ 0 ≤ v ∧ v ≤ 6 ∧ x = -(v + 14)) ∨ (s = 2 ∧ (v = 260 ∨ isBin v) ∧ x = -(sgT v))) : KR (ptS σ s v) (kput K x) := by
  obtain ⟨h1, h2, h3⟩ := h
  refine ⟨?_, by show 0 ≤ K.1 + 1; omega, fun i a b => ?_⟩
  · show (ptS σ s v).1 84 13 = K.1 + 1
    unfold ptS
    rw [sI_1, if_pos ⟨rfl, rfl⟩, h1]
  · have b : i < K.1 + 1 := b
    show mKU (ptS σ s v) i ∧ mCU (ptS σ s v) i = uf K.2 K.1 x i
    unfold mKU mCU uf
    rw [ptS_98, ptS_99]
    by_cases q : i = K.1
    · rw [if_pos (by omega), if_pos (by omega), if_pos q]
      rcases hk with ⟨rfl, k2, k3, rfl⟩ | ⟨rfl, k2, k3, rfl⟩ | ⟨rfl, k2, rfl⟩
      · exact ⟨Or.inl ⟨rfl, k2, k3⟩, if_pos rfl⟩
      · exact ⟨Or.inr (Or.inl ⟨rfl, k2, k3⟩), (if_neg (by decide)).trans (if_pos rfl)⟩
      · exact ⟨Or.inr (Or.inr ⟨rfl, k2⟩), (if_neg (by decide)).trans (if_neg (by decide))⟩
    · rw [if_neg (by omega), if_neg (by omega), if_neg q]
      exact h3 i a (by omega)
/-- where no fault stands, none stood, and its place is as it was -/
def NF (σ σ' : Sg) : Prop := σ'.1 82 26 = 0 → σ.1 82 26 = 0 ∧ σ'.1 82 27 = σ.1 82 27
theorem NF.tr {σ τ ρ : Sg} (h : NF σ τ) (h' : NF τ ρ) : NF σ ρ := fun q => ⟨(h (h' q).1).1, (h' q).2.trans (h (h' q).1).2⟩
theorem NF.of {σ τ : Sg} (h6 : τ.1 82 26 = σ.1 82 26) (h7 : τ.1 82 27 = σ.1 82 27) : NF σ τ := fun q => ⟨h6.symm.trans q, h7⟩
/-- what an E may change in the model -/
def EF (σ σ' : Sg) : Prop := Fr [82, 84, 98, 99] σ σ' ∧ (∀ j : Int, j ∉ [22, 23, 24, 25, 26, 27, 30, 31] → σ'.1 82 j = σ.1 82 j) ∧ (∀ i : Int, i ≠ 13 → σ'.1 84 i = σ.1 84 i) ∧ (∀ i : Int, i < 64 → σ'.1 98 i = σ.1 98 i ∧ σ'.1 99 i = σ.1 99 i) ∧ NF σ σ'
theorem EF.rf (σ : Sg) : EF σ σ := ⟨Fr.rf _ _, fun _ _ => rfl, fun _ _ => rfl, fun _ _ => ⟨rfl, rfl⟩, NF.of rfl rfl⟩
theorem EF.tr {σ τ ρ : Sg} (h : EF σ τ) (h' : EF τ ρ) : EF σ ρ := ⟨h.1.tr h'.1, fun j q => (h'.2.1 j q).trans (h.2.1 j q), fun i q => (h'.2.2.1 i q).trans (h.2.2.1 i q), fun i q => ⟨(h'.2.2.2.1 i q).1.trans (h.2.2.2.1 i q).1, (h'.2.2.2.1 i q).2.trans (h.2.2.2.1 i q).2⟩, h.2.2.2.2.tr h'.2.2.2.2⟩
theorem EF.fm {σ τ : Sg} {F : List Int} (h : Fm [] F σ τ) (hF : ∀ j, j ∈ F → j ∈ ([22, 23, 24, 25, 30, 31] : List Int)) : EF σ τ := ⟨h.1.mono (by decide), fun j q => h.2 j (fun r => q (by have r := hF j r; simp only [List.mem_cons, List.not_mem_nil, or_false] at r ⊢; omega)), fun i _ => by rw [h.c (a := 84) (by decide)], fun i _ => by rw [h.c (a := 98) (by decide), h.c (a := 99) (by decide)]; exact ⟨rfl, rfl⟩, NF.of (h.2 26 (fun r => absurd (hF 26 r) (by decide))) (h.2 27 (fun r => absurd (hF 27 r) (by decide)))⟩
theorem EF.pt {σ : Sg} {s v : Int} (h : 0 ≤ σ.1 84 13) : EF σ (ptS σ s v) := by
  refine ⟨(((Fr.rf _ σ).sI (by decide) _ _).sI (by decide) _ _).sI (by decide) _ _, fun j _ => ?_, fun i q => ?_, fun i q => ⟨?_, ?_⟩, NF.of (by unfold ptS; rw [sI_ne _ (by decide), sI_ne _ (by decide), sI_ne _ (by decide)]) (by unfold ptS; rw [sI_ne _ (by decide), sI_ne _ (by decide), sI_ne _ (by decide)])⟩
  · unfold ptS; rw [sI_ne _ (by decide), sI_ne _ (by decide), sI_ne _ (by decide)]
  · unfold ptS; rw [sI_1, if_neg (fun r => q r.2), sI_ne _ (by decide), sI_ne _ (by decide)]
  · rw [ptS_98, if_neg (by omega)]
  · rw [ptS_99, if_neg (by omega)]
def ES (σ : Sg) (ts : List Tk) (o c : Int) (K : Kn) : Prop := σ.1 82 26 = 0 ∧ MK σ ts ∧ σ.1 82 30 = o ∧ σ.1 82 31 = c ∧ KR σ K
abbrev Xt : Type := List Tk → List Int → Kn → Prop
def EO (σ σ' : Sg) (l : Int) (X : Xt) (ts : List Tk) (S : List Int) (o c : Int) (K : Kn) : Prop :=
  (∃ f p, (1 ≤ f ∧ f ≤ 4) ∧ EF σ σ' ∧ σ'.1 82 26 = f ∧ σ'.1 82 27 = p ∧ syRun ts (1, S, o, c, K) = .inl (f, p)) ∨
  (∃ ts' P c' K1, EF σ σ' ∧ ES σ' ts' o c' (fl P K1) ∧ SyI (P ++ S) o c' K1 ∧ c ≤ c' ∧ syRun ts (1, S, o, c, K) = syRun ts' (0, P ++ S, o, c', K1) ∧ (∀ s ∈ P, l ≤ rk s) ∧ ts'.length < ts.length ∧ X ts' (P ++ S) K1)
def Dd (o c : Int) : Nat := 8 * (8 - o).toNat + (64 - c).toNat + 10
/-- a method that reads a part of an E -/
def LvC (G : Gx) (M : Mt) (N k : Nat) (l b : Int) (X : Xt) : Prop := ∀ (σ : Sg) (ts : List Tk) (S : List Int) (o c : Int) (K : Kn), ts.length ≤ N → ES σ ts o c K → SyI S o c K → syTr S < b → (hkd ts = 13 → l ≤ 3 ∨ 3 < syTr S) → Con G (Dd o c + k) M [.ref (G.2.2.2 + 82)] σ (pV (fun σ' => EO σ σ' l X ts S o c K))
def Xp : Xt := fun _ _ _ => True
def Xm : Xt := fun ts _ _ => hkd ts ≠ 28 ∧ hkd ts ≠ 29
def Xs : Xt := fun ts Q K => Xm ts Q K ∧ hkd ts ≠ 26 ∧ hkd ts ≠ 27
def Xn : Xt := fun ts Q K => Xs ts Q K ∧ (30 ≤ hkd ts → hkd ts ≤ 35 → syTr (sySet 5 Q K).1 = 4)
def Xc : Xt := fun ts Q K => Xn ts Q K ∧ hkd ts ≠ 12
def Xe : Xt := fun ts Q K => Xc ts Q K ∧ hkd ts ≠ 11
/-- where an E's own signs are used up, nothing but its end may follow -/
theorem sy_stop {t : Tk} {r : List Tk} {Q : List Int} {o c : Int} {K : Kn} (hX : Xe (t :: r) Q K) (h25 : ¬ (t.1 = 25 ∧ 0 < o)) (h23 : ¬ (t.1 = 23 ∧ o = 0)) : syRun (t :: r) (0, Q, o, c, K) = .inl (1, t.2.1) := by
  obtain ⟨⟨⟨⟨⟨x1, x2⟩, x3, x4⟩, x5⟩, x6⟩, x7⟩ := hX
  have x1 : t.1 ≠ 28 := x1
  have x2 : t.1 ≠ 29 := x2
  have x3 : t.1 ≠ 26 := x3
  have x4 : t.1 ≠ 27 := x4
  have x6 : t.1 ≠ 12 := x6
  have x7 : t.1 ≠ 11 := x7
  rw [syRun_go (fun q => h23 q.2)]
  have hs : sy1 t (0, Q, o, c, K) = .inl 1 := by
    by_cases q4 : 30 ≤ t.1 ∧ t.1 ≤ 35
    · rw [sy_cmp (by unfold rk; rw [if_neg (by omega), if_neg (by omega), if_neg (by omega), if_neg (by omega), if_neg (by omega), if_pos q4]), if_pos (x5 q4.1 q4.2)]
    · refine sy_no h25 ?_
      by_cases q13 : t.1 = 13
      · exact Or.inr q13
      · exact Or.inl (by unfold rk; rw [if_neg x7, if_neg x6, if_neg q13, if_neg (by omega), if_neg (by omega), if_neg q4])
  rw [hs]

theorem c_mprim1 {G : Gx} {σ : Sg} (hf : R32 (σ.1 82 26)) (hx : σ.1 82 26 ≠ 0) : Con G 3 mX12_primary [.ref (G.2.2.2 + 82)] σ (pV (fun σ' => σ' = σ)) := by
  refine e_entry om_X12_primary (Nat.le_of_ble_eq_true rfl) (L := [some (.ref (G.2.2.2 + 82)), none]) rfl ?_
  refine e_aload_n (q := 1) (i := 0) dX12_primary_0 rfl rfl rfl ?_
  refine e_getI (q := 4) (jz := 26) dX12_primary_1 rfl fg_X12_190 rfl (by first | assumption | rfl) rfl ?_
  refine e_if_eq (q := 7) (tgt := 8) dX12_primary_4 rfl (by decide) (fun c4 => by exfalso; omega) (fun c4 => ?_) (hx := hf)
  exact r_v dX12_primary_7 rfl rfl

theorem c_mproduct1 {G : Gx} {σ : Sg} (hf : R32 (σ.1 82 26)) (hx : σ.1 82 26 ≠ 0) : Con G 4 mX12_product [.ref (G.2.2.2 + 82)] σ (pV (fun σ' => σ' = σ)) := by
  refine e_entry om_X12_product (Nat.le_of_ble_eq_true rfl) (L := [some (.ref (G.2.2.2 + 82)), none]) rfl ?_
  refine e_aload_n (q := 1) (i := 0) dX12_product_0 rfl rfl rfl ?_
  refine e_Vv (q := 4) (vs := []) ok_X12_primary ml_X12_273 dX12_product_1 rfl ⟨_, _, rfl⟩ (by first | assumption | rfl) rfl rfl (Nat.le_of_ble_eq_true rfl) (by decide) (c_mprim1 hf hx) (fun s1 h1 => ?_)
  subst h1
  refine e_aload_n (q := 5) (i := 0) dX12_product_4 rfl rfl rfl ?_
  refine e_bipush (q := 7) dX12_product_5 rfl (by decide) ?_
  refine e_Vip (q := 10) (vs := [_]) ok_X12_isSign ml_X12_243 dX12_product_7 rfl ⟨_, _, rfl⟩ (by first | assumption | rfl) rfl rfl (Nat.le_of_ble_eq_true rfl) (by decide) (c_mSign1 hf hx) ?_
  refine e_if_ne (q := 13) (tgt := 22) dX12_product_10 rfl (by decide) (fun c10 => by exfalso; omega) (fun c10 => ?_)
  refine e_aload_n (q := 14) (i := 0) dX12_product_13 rfl rfl rfl ?_
  refine e_bipush (q := 16) dX12_product_14 rfl (by decide) ?_
  refine e_Vip (q := 19) (vs := [_]) ok_X12_isSign ml_X12_243 dX12_product_16 rfl ⟨_, _, rfl⟩ (by first | assumption | rfl) rfl rfl (Nat.le_of_ble_eq_true rfl) (by decide) (c_mSign1 hf hx) ?_
  refine e_if_eq (q := 22) (tgt := 48) dX12_product_19 rfl (by decide) (fun c19 => ?_) (fun c19 => by exfalso; omega)
  exact r_v dX12_product_48 rfl rfl

theorem c_msum1 {G : Gx} {σ : Sg} (hf : R32 (σ.1 82 26)) (hx : σ.1 82 26 ≠ 0) : Con G 5 mX12_sum [.ref (G.2.2.2 + 82)] σ (pV (fun σ' => σ' = σ)) := by
  refine e_entry om_X12_sum (Nat.le_of_ble_eq_true rfl) (L := [some (.ref (G.2.2.2 + 82)), none]) rfl ?_
  refine e_aload_n (q := 1) (i := 0) dX12_sum_0 rfl rfl rfl ?_
  refine e_Vv (q := 4) (vs := []) ok_X12_product ml_X12_270 dX12_sum_1 rfl ⟨_, _, rfl⟩ (by first | assumption | rfl) rfl rfl (Nat.le_of_ble_eq_true rfl) (by decide) (c_mproduct1 hf hx) (fun s1 h1 => ?_)
  subst h1
  refine e_aload_n (q := 5) (i := 0) dX12_sum_4 rfl rfl rfl ?_
  refine e_bipush (q := 7) dX12_sum_5 rfl (by decide) ?_
  refine e_Vip (q := 10) (vs := [_]) ok_X12_isSign ml_X12_243 dX12_sum_7 rfl ⟨_, _, rfl⟩ (by first | assumption | rfl) rfl rfl (Nat.le_of_ble_eq_true rfl) (by decide) (c_mSign1 hf hx) ?_
  refine e_if_ne (q := 13) (tgt := 22) dX12_sum_10 rfl (by decide) (fun c10 => by exfalso; omega) (fun c10 => ?_)
  refine e_aload_n (q := 14) (i := 0) dX12_sum_13 rfl rfl rfl ?_
  refine e_bipush (q := 16) dX12_sum_14 rfl (by decide) ?_
  refine e_Vip (q := 19) (vs := [_]) ok_X12_isSign ml_X12_243 dX12_sum_16 rfl ⟨_, _, rfl⟩ (by first | assumption | rfl) rfl rfl (Nat.le_of_ble_eq_true rfl) (by decide) (c_mSign1 hf hx) ?_
  refine e_if_eq (q := 22) (tgt := 48) dX12_sum_19 rfl (by decide) (fun c19 => ?_) (fun c19 => by exfalso; omega)
  exact r_v dX12_sum_48 rfl rfl

theorem c_mnegation1 {G : Gx} {σ : Sg} (hf : R32 (σ.1 82 26)) (hx : σ.1 82 26 ≠ 0) : Con G 6 mX12_negation [.ref (G.2.2.2 + 82)] σ (pV (fun σ' => σ' = σ)) := by
  refine e_entry om_X12_negation (Nat.le_of_ble_eq_true rfl) (L := [some (.ref (G.2.2.2 + 82)), none]) rfl ?_
  refine e_aload_n (q := 1) (i := 0) dX12_negation_0 rfl rfl rfl ?_
  refine e_bipush (q := 3) dX12_negation_1 rfl (by decide) ?_
  refine e_Vip (q := 6) (vs := [_]) ok_X12_isWord ml_X12_255 dX12_negation_3 rfl ⟨_, _, rfl⟩ (by first | assumption | rfl) rfl rfl (Nat.le_of_ble_eq_true rfl) (by decide) (c_mWord1 hf hx) ?_
  refine e_if_eq (q := 9) (tgt := 30) dX12_negation_6 rfl (by decide) (fun c6 => ?_) (fun c6 => by exfalso; omega)
  refine e_aload_n (q := 31) (i := 0) dX12_negation_30 rfl rfl rfl ?_
  refine e_Vv (q := 34) (vs := []) ok_X12_sum ml_X12_267 dX12_negation_31 rfl ⟨_, _, rfl⟩ (by first | assumption | rfl) rfl rfl (Nat.le_of_ble_eq_true rfl) (by decide) (c_msum1 hf hx) (fun s1 h1 => ?_)
  subst h1
  refine e_aload_n (q := 35) (i := 0) dX12_negation_34 rfl rfl rfl ?_
  refine e_getI (q := 38) (jz := 26) dX12_negation_35 rfl fg_X12_190 rfl (by first | assumption | rfl) rfl ?_
  refine e_if_ne (q := 41) (tgt := 86) dX12_negation_38 rfl (by decide) (fun c38 => ?_) (fun c38 => by exfalso; omega) (hx := hf)
  exact r_v dX12_negation_86 rfl rfl

theorem c_mconjunction1 {G : Gx} {σ : Sg} (hf : R32 (σ.1 82 26)) (hx : σ.1 82 26 ≠ 0) : Con G 7 mX12_conjunction [.ref (G.2.2.2 + 82)] σ (pV (fun σ' => σ' = σ)) := by
  refine e_entry om_X12_conjunction (Nat.le_of_ble_eq_true rfl) (L := [some (.ref (G.2.2.2 + 82))]) rfl ?_
  refine e_aload_n (q := 1) (i := 0) dX12_conjunction_0 rfl rfl rfl ?_
  refine e_Vv (q := 4) (vs := []) ok_X12_negation ml_X12_264 dX12_conjunction_1 rfl ⟨_, _, rfl⟩ (by first | assumption | rfl) rfl rfl (Nat.le_of_ble_eq_true rfl) (by decide) (c_mnegation1 hf hx) (fun s1 h1 => ?_)
  subst h1
  refine e_aload_n (q := 5) (i := 0) dX12_conjunction_4 rfl rfl rfl ?_
  refine e_bipush (q := 7) dX12_conjunction_5 rfl (by decide) ?_
  refine e_Vip (q := 10) (vs := [_]) ok_X12_isWord ml_X12_255 dX12_conjunction_7 rfl ⟨_, _, rfl⟩ (by first | assumption | rfl) rfl rfl (Nat.le_of_ble_eq_true rfl) (by decide) (c_mWord1 hf hx) ?_
  refine e_if_eq (q := 13) (tgt := 36) dX12_conjunction_10 rfl (by decide) (fun c10 => ?_) (fun c10 => by exfalso; omega)
  exact r_v dX12_conjunction_36 rfl rfl

theorem c_mexpression1 {G : Gx} {σ : Sg} (hf : R32 (σ.1 82 26)) (hx : σ.1 82 26 ≠ 0) : Con G 8 mX12_expression [.ref (G.2.2.2 + 82)] σ (pV (fun σ' => σ' = σ)) := by
  refine e_entry om_X12_expression (Nat.le_of_ble_eq_true rfl) (L := [some (.ref (G.2.2.2 + 82))]) rfl ?_
  refine e_aload_n (q := 1) (i := 0) dX12_expression_0 rfl rfl rfl ?_
  refine e_Vv (q := 4) (vs := []) ok_X12_conjunction ml_X12_252 dX12_expression_1 rfl ⟨_, _, rfl⟩ (by first | assumption | rfl) rfl rfl (Nat.le_of_ble_eq_true rfl) (by decide) (c_mconjunction1 hf hx) (fun s1 h1 => ?_)
  subst h1
  refine e_aload_n (q := 5) (i := 0) dX12_expression_4 rfl rfl rfl ?_
  refine e_bipush (q := 7) dX12_expression_5 rfl (by decide) ?_
  refine e_Vip (q := 10) (vs := [_]) ok_X12_isWord ml_X12_255 dX12_expression_7 rfl ⟨_, _, rfl⟩ (by first | assumption | rfl) rfl rfl (Nat.le_of_ble_eq_true rfl) (by decide) (c_mWord1 hf hx) ?_
  refine e_if_eq (q := 13) (tgt := 36) dX12_expression_10 rfl (by decide) (fun c10 => ?_) (fun c10 => by exfalso; omega)
  exact r_v dX12_expression_36 rfl rfl

