/-! ===== how the class reads an E: signs wait by their ranks ===== -/
def rk (k : Int) : Int := if k = 11 then 1 else if k = 12 then 2 else if k = 13 then 3 else if k = 26 ∨ k = 27 then 5 else if k = 28 ∨ k = 29 then 6 else if 30 ≤ k ∧ k ≤ 35 then 4 else 0
theorem rk_in (k : Int) : 0 ≤ rk k ∧ rk k ≤ 6 ∧ (1 ≤ rk k → 11 ≤ k ∧ k ≤ 35 ∧ k ≠ 24 ∧ k ≠ 25 ∧ k ≠ 23) := by
  unfold rk
  split
  · omega
  split
  · omega
  split
  · omega
  split
  · omega
  split
  · omega
  split <;> omega
/-- knots: how many, which -/
abbrev Kn : Type := Int × (Int → Int)
def kput (K : Kn) (v : Int) : Kn := (K.1 + 1, uf K.2 K.1 v)
def sySet (l : Int) : List Int → Kn → List Int × Kn
  | [], K => ([], K)
  | s :: S, K => if l ≤ rk s then sySet l S (kput K (-s)) else (s :: S, K)
def syTr (S : List Int) : Int := match S with
  | [] => 0
  | s :: _ => rk s
/-- 1 if a part is wanted; what waits; open brackets; knots counted; knots put -/
abbrev Sy : Type := Int × List Int × Int × Int × Kn
def sy1 (t : Tk) (s : Sy) : Int ⊕ Sy :=
  if s.1 = 1 then
    (if t.1 = 22 then (if 9999 < t.2.2 then .inl 2 else if 64 ≤ s.2.2.2.1 then .inl 2 else .inr (0, s.2.1, s.2.2.1, s.2.2.2.1 + 1, kput s.2.2.2.2 t.2.2))
    else if 14 ≤ t.1 ∧ t.1 ≤ 20 then (if 64 ≤ s.2.2.2.1 then .inl 2 else .inr (0, s.2.1, s.2.2.1, s.2.2.2.1 + 1, kput s.2.2.2.2 (-t.1)))
    else if t.1 = 13 then (if 3 < syTr s.2.1 then .inl 1 else if 64 ≤ s.2.2.2.1 then .inl 2 else .inr (1, 13 :: s.2.1, s.2.2.1, s.2.2.2.1 + 1, s.2.2.2.2))
    else if t.1 = 24 then (if 8 ≤ s.2.2.1 then .inl 2 else .inr (1, 24 :: s.2.1, s.2.2.1 + 1, s.2.2.2.1, s.2.2.2.2))
    else .inl 1)
  else
    (if t.1 = 25 ∧ 0 < s.2.2.1 then .inr (0, (sySet 1 s.2.1 s.2.2.2.2).1.tail, s.2.2.1 - 1, s.2.2.2.1, (sySet 1 s.2.1 s.2.2.2.2).2)
    else if rk t.1 = 0 ∨ t.1 = 13 then .inl 1
    else if rk t.1 = 4 ∧ syTr (sySet (if rk t.1 = 4 then 5 else rk t.1) s.2.1 s.2.2.2.2).1 = 4 then .inl 1
    else if 64 ≤ s.2.2.2.1 then .inl 2
    else .inr (1, t.1 :: (sySet (if rk t.1 = 4 then 5 else rk t.1) s.2.1 s.2.2.2.2).1, s.2.2.1, s.2.2.2.1 + 1, (sySet (if rk t.1 = 4 then 5 else rk t.1) s.2.1 s.2.2.2.2).2))
def syRun : List Tk → Sy → (Int × Int) ⊕ (List Tk × Kn)
  | [], _ => .inl (0, 0)
  | t :: ts, s => if s.1 ≠ 1 ∧ t.1 = 23 ∧ s.2.2.1 = 0 then .inr (t :: ts, (sySet 1 s.2.1 s.2.2.2.2).2)
    else match sy1 t s with
      | .inl f => .inl (f, t.2.1)
      | .inr s' => syRun ts s'
def sgn : List Int → Int
  | [] => 0
  | s :: S => sgn S + (if s = 24 then 0 else 1)
def opn : List Int → Int
  | [] => 0
  | s :: S => opn S + (if s = 24 then 1 else 0)
theorem sg_len : ∀ S : List Int, (S.length : Int) = sgn S + opn S ∧ 0 ≤ sgn S ∧ 0 ≤ opn S
  | [] => ⟨rfl, Int.le_refl 0, Int.le_refl 0⟩
  | s :: S => by
    have ih := sg_len S
    simp only [List.length_cons, sgn, opn]
    split <;> omega
def SyI (S : List Int) (o c : Int) (K : Kn) : Prop := (∀ s ∈ S, s = 24 ∨ 1 ≤ rk s) ∧ K.1 + sgn S = c ∧ opn S = o ∧ 0 ≤ K.1 ∧ c ≤ 64 ∧ o ≤ 8
theorem rk24 : rk 24 = 0 := by decide
theorem SyI_pop {s : Int} {S : List Int} {o c : Int} {K : Kn} (h : SyI (s :: S) o c K) (hr : 1 ≤ rk s) : SyI S o c (kput K (-s)) ∧ K.1 < 64 := by
  obtain ⟨h1, h2, h3, h4, h5, h6⟩ := h
  have hs := (rk_in s).2.2 hr
  have hl := sg_len S
  simp only [sgn, opn] at h2 h3
  rw [if_neg (by omega)] at h2 h3
  exact ⟨⟨fun x hx => h1 x (List.mem_cons_of_mem _ hx), by show K.1 + 1 + sgn S = c; omega, by omega, by show 0 ≤ K.1 + 1; omega, h5, h6⟩, by omega⟩
theorem sySet_I {l : Int} (hl : 1 ≤ l) : ∀ (S : List Int) (o c : Int) (K : Kn), SyI S o c K → SyI (sySet l S K).1 o c (sySet l S K).2
  | [], _, _, _, h => h
  | s :: S, o, c, K, h => by
    simp only [sySet]
    by_cases q : l ≤ rk s
    · rw [if_pos q]
      exact sySet_I hl S o c _ (SyI_pop h (by omega)).1
    · rw [if_neg q]; exact h
theorem sySet_top {l : Int} : ∀ (S : List Int) (K : Kn), syTr (sySet l S K).1 < l ∨ (sySet l S K).1 = []
  | [], _ => Or.inr rfl
  | s :: S, K => by
    simp only [sySet]
    by_cases q : l ≤ rk s
    · rw [if_pos q]; exact sySet_top S _
    · rw [if_neg q]; exact Or.inl (by show rk s < l; omega)
/-- the class's rows hold it -/
def SyR (σ : Sg) (S : List Int) (o c : Int) (K : Kn) : Prop := StkIs (σ.1 22) S ∧ σ.1 21 2 = S.length ∧ σ.1 21 3 = o ∧ σ.1 21 4 = c ∧ σ.1 34 4 = K.1 ∧ σ.1 35 = K.2
theorem SyR.fr {C : List Nat} {σ τ : Sg} {S : List Int} {o c : Int} {K : Kn} (h : SyR σ S o c K) (hF : Fr C σ τ) (h1 : 21 ∉ C) (h2 : 22 ∉ C) (h3 : 34 ∉ C) (h4 : 35 ∉ C) : SyR τ S o c K := by
  unfold SyR
  rw [(hF 21 h1).1, (hF 22 h2).1, (hF 34 h3).1, (hF 35 h4).1]
  exact h
theorem SyR_len {σ : Sg} {S : List Int} {o c : Int} {K : Kn} (h : SyR σ S o c K) (hI : SyI S o c K) : (0 ≤ σ.1 21 2 ∧ σ.1 21 2 ≤ 72) ∧ (0 ≤ σ.1 21 3 ∧ σ.1 21 3 ≤ 8) ∧ (0 ≤ σ.1 21 4 ∧ σ.1 21 4 ≤ 64) ∧ (0 ≤ σ.1 34 4 ∧ σ.1 34 4 ≤ 64) := by
  obtain ⟨-, r2, r3, r4, r5, -⟩ := h
  obtain ⟨-, i2, i3, i4, i5, i6⟩ := hI
  have hl := sg_len S
  omega
/-- nothing of the tokens but the fault -/
def SF (σ σ' : Sg) : Prop := Fr [19, 21, 22, 34, 35] σ σ' ∧ ∀ j, j ≠ 7 → j ≠ 8 → σ'.1 19 j = σ.1 19 j
theorem SF.rf (σ : Sg) : SF σ σ := ⟨Fr.rf _ _, fun _ _ _ => rfl⟩
theorem SF.tr {σ τ ρ : Sg} (h : SF σ τ) (h' : SF τ ρ) : SF σ ρ := ⟨h.1.tr h'.1, fun j a b => (h'.2 j a b).trans (h.2 j a b)⟩
theorem SF.s {σ τ : Sg} (h : SF σ τ) {k : Nat} (hk : k = 21 ∨ k = 22 ∨ k = 34 ∨ k = 35) (j v : Int) : SF σ (sI τ k j v) := ⟨h.1.sI (by rcases hk with rfl | rfl | rfl | rfl <;> decide) _ _, fun i a b => by rw [sI_ne _ (by omega)]; exact h.2 i a b⟩
theorem SF.f {σ τ : Sg} (h : SF σ τ) {j : Int} (hj : j = 7 ∨ j = 8) (v : Int) : SF σ (sI τ 19 j v) := ⟨h.1.sI (by decide) _ _, fun i a b => by rw [sI_1, if_neg (fun q => by have := q.2; omega)]; exact h.2 i a b⟩
theorem SF.ck {σ τ : Sg} {ts : List Tk} (h : SF σ τ) (hc : CK σ ts) : CK τ ts := hc.fr h.1 (by decide) (by decide) h.2
/-- what a step answers -/
def SyO (σ σ' : Sg) (p z : Int) (r : Int ⊕ Sy) : Prop := SF σ σ' ∧ match r with
  | .inl f => z = 0 ∧ σ'.1 19 7 = f ∧ σ'.1 19 8 = p
  | .inr s => z = 1 ∧ SyR σ' s.2.1 s.2.2.1 s.2.2.2.1 s.2.2.2.2 ∧ σ'.1 19 7 = σ.1 19 7 ∧ σ'.1 19 8 = σ.1 19 8
theorem StkIs_top {f : Int → Int} {s : Int} {S : List Int} (h : StkIs f (s :: S)) : f (S.length : Int) = s := h.1

set_option maxHeartbeats 4000000 in
theorem c_X7_rank {G : Gx} {σ : Sg} {k : Int} (hk : R32 k) : Con G 1 mX7_rank [.int (iZ k)] σ (pI (pE σ (rk k))) := by
  refine e_entry om_X7_rank (Nat.le_of_ble_eq_true rfl) (L := [some (.int (iZ k))]) rfl ?_
  refine e_iload_n (q := 1) (i := 0) dX7_rank_0 rfl rfl rfl ?_
  by_cases k1_11 : k = 11
  · refine e_tabIn (tgt := 92) dX7_rank_1 (by first | assumption | exact ⟨by omega, by omega⟩) (by omega) (by omega) (by rw [k1_11]; rfl) (by decide) ?_
    refine e_iconst (q := 93) dX7_rank_92 rfl ?_
    exact r_i dX7_rank_93 rfl ⟨by unfold rk; rw [if_pos (by omega)], rfl⟩
  by_cases k1_12 : k = 12
  · refine e_tabIn (tgt := 94) dX7_rank_1 (by first | assumption | exact ⟨by omega, by omega⟩) (by omega) (by omega) (by rw [k1_12]; rfl) (by decide) ?_
    refine e_iconst (q := 95) dX7_rank_94 rfl ?_
    exact r_i dX7_rank_95 rfl ⟨by unfold rk; rw [if_neg (by omega), if_pos (by omega)], rfl⟩
  by_cases k1_13 : k = 13
  · refine e_tabIn (tgt := 96) dX7_rank_1 (by first | assumption | exact ⟨by omega, by omega⟩) (by omega) (by omega) (by rw [k1_13]; rfl) (by decide) ?_
    refine e_iconst (q := 97) dX7_rank_96 rfl ?_
    exact r_i dX7_rank_97 rfl ⟨by unfold rk; rw [if_neg (by omega), if_neg (by omega), if_pos (by omega)], rfl⟩
  by_cases k1_14 : k = 14
  · refine e_tabIn (tgt := 103) dX7_rank_1 (by first | assumption | exact ⟨by omega, by omega⟩) (by omega) (by omega) (by rw [k1_14]; rfl) (by decide) ?_
    refine e_iload_n (q := 104) (i := 0) dX7_rank_103 rfl rfl rfl ?_
    refine e_bipush (q := 106) dX7_rank_104 rfl (by decide) ?_
    refine e_icmp_lt (q := 109) (tgt := 119) dX7_rank_106 rfl (by decide) (fun c106 => ?_) (fun c106 => ?_)
    · refine e_iconst (q := 120) dX7_rank_119 rfl ?_
      exact r_i dX7_rank_120 rfl ⟨by unfold rk; rw [if_neg (by omega), if_neg (by omega), if_neg (by omega), if_neg (by omega), if_neg (by omega), if_neg (by omega)], rfl⟩
    · refine e_iload_n (q := 110) (i := 0) dX7_rank_109 rfl rfl rfl ?_
      refine e_bipush (q := 112) dX7_rank_110 rfl (by decide) ?_
      refine e_icmp_gt (q := 115) (tgt := 119) dX7_rank_112 rfl (by decide) (fun c112 => ?_) (fun c112 => ?_)
      · refine e_iconst (q := 120) dX7_rank_119 rfl ?_
        exact r_i dX7_rank_120 rfl ⟨by unfold rk; rw [if_neg (by omega), if_neg (by omega), if_neg (by omega), if_neg (by omega), if_neg (by omega), if_neg (by omega)], rfl⟩
      · refine e_iconst (q := 116) dX7_rank_115 rfl ?_
        refine e_goto (tgt := 120) dX7_rank_116 (by decide) ?_
        exact r_i dX7_rank_120 rfl ⟨by unfold rk; rw [if_neg (by omega), if_neg (by omega), if_neg (by omega), if_neg (by omega), if_neg (by omega), if_pos (by omega)], rfl⟩
  by_cases k1_15 : k = 15
  · refine e_tabIn (tgt := 103) dX7_rank_1 (by first | assumption | exact ⟨by omega, by omega⟩) (by omega) (by omega) (by rw [k1_15]; rfl) (by decide) ?_
    refine e_iload_n (q := 104) (i := 0) dX7_rank_103 rfl rfl rfl ?_
    refine e_bipush (q := 106) dX7_rank_104 rfl (by decide) ?_
    refine e_icmp_lt (q := 109) (tgt := 119) dX7_rank_106 rfl (by decide) (fun c106 => ?_) (fun c106 => ?_)
    · refine e_iconst (q := 120) dX7_rank_119 rfl ?_
      exact r_i dX7_rank_120 rfl ⟨by unfold rk; rw [if_neg (by omega), if_neg (by omega), if_neg (by omega), if_neg (by omega), if_neg (by omega), if_neg (by omega)], rfl⟩
    · refine e_iload_n (q := 110) (i := 0) dX7_rank_109 rfl rfl rfl ?_
      refine e_bipush (q := 112) dX7_rank_110 rfl (by decide) ?_
      refine e_icmp_gt (q := 115) (tgt := 119) dX7_rank_112 rfl (by decide) (fun c112 => ?_) (fun c112 => ?_)
      · refine e_iconst (q := 120) dX7_rank_119 rfl ?_
        exact r_i dX7_rank_120 rfl ⟨by unfold rk; rw [if_neg (by omega), if_neg (by omega), if_neg (by omega), if_neg (by omega), if_neg (by omega), if_neg (by omega)], rfl⟩
      · refine e_iconst (q := 116) dX7_rank_115 rfl ?_
        refine e_goto (tgt := 120) dX7_rank_116 (by decide) ?_
        exact r_i dX7_rank_120 rfl ⟨by unfold rk; rw [if_neg (by omega), if_neg (by omega), if_neg (by omega), if_neg (by omega), if_neg (by omega), if_pos (by omega)], rfl⟩
  by_cases k1_16 : k = 16
  · refine e_tabIn (tgt := 103) dX7_rank_1 (by first | assumption | exact ⟨by omega, by omega⟩) (by omega) (by omega) (by rw [k1_16]; rfl) (by decide) ?_
    refine e_iload_n (q := 104) (i := 0) dX7_rank_103 rfl rfl rfl ?_
    refine e_bipush (q := 106) dX7_rank_104 rfl (by decide) ?_
    refine e_icmp_lt (q := 109) (tgt := 119) dX7_rank_106 rfl (by decide) (fun c106 => ?_) (fun c106 => ?_)
    · refine e_iconst (q := 120) dX7_rank_119 rfl ?_
      exact r_i dX7_rank_120 rfl ⟨by unfold rk; rw [if_neg (by omega), if_neg (by omega), if_neg (by omega), if_neg (by omega), if_neg (by omega), if_neg (by omega)], rfl⟩
    · refine e_iload_n (q := 110) (i := 0) dX7_rank_109 rfl rfl rfl ?_
      refine e_bipush (q := 112) dX7_rank_110 rfl (by decide) ?_
      refine e_icmp_gt (q := 115) (tgt := 119) dX7_rank_112 rfl (by decide) (fun c112 => ?_) (fun c112 => ?_)
      · refine e_iconst (q := 120) dX7_rank_119 rfl ?_
        exact r_i dX7_rank_120 rfl ⟨by unfold rk; rw [if_neg (by omega), if_neg (by omega), if_neg (by omega), if_neg (by omega), if_neg (by omega), if_neg (by omega)], rfl⟩
      · refine e_iconst (q := 116) dX7_rank_115 rfl ?_
        refine e_goto (tgt := 120) dX7_rank_116 (by decide) ?_
        exact r_i dX7_rank_120 rfl ⟨by unfold rk; rw [if_neg (by omega), if_neg (by omega), if_neg (by omega), if_neg (by omega), if_neg (by omega), if_pos (by omega)], rfl⟩
  by_cases k1_17 : k = 17
  · refine e_tabIn (tgt := 103) dX7_rank_1 (by first | assumption | exact ⟨by omega, by omega⟩) (by omega) (by omega) (by rw [k1_17]; rfl) (by decide) ?_
    refine e_iload_n (q := 104) (i := 0) dX7_rank_103 rfl rfl rfl ?_
    refine e_bipush (q := 106) dX7_rank_104 rfl (by decide) ?_
    refine e_icmp_lt (q := 109) (tgt := 119) dX7_rank_106 rfl (by decide) (fun c106 => ?_) (fun c106 => ?_)
    · refine e_iconst (q := 120) dX7_rank_119 rfl ?_
      exact r_i dX7_rank_120 rfl ⟨by unfold rk; rw [if_neg (by omega), if_neg (by omega), if_neg (by omega), if_neg (by omega), if_neg (by omega), if_neg (by omega)], rfl⟩
    · refine e_iload_n (q := 110) (i := 0) dX7_rank_109 rfl rfl rfl ?_
      refine e_bipush (q := 112) dX7_rank_110 rfl (by decide) ?_
      refine e_icmp_gt (q := 115) (tgt := 119) dX7_rank_112 rfl (by decide) (fun c112 => ?_) (fun c112 => ?_)
      · refine e_iconst (q := 120) dX7_rank_119 rfl ?_
        exact r_i dX7_rank_120 rfl ⟨by unfold rk; rw [if_neg (by omega), if_neg (by omega), if_neg (by omega), if_neg (by omega), if_neg (by omega), if_neg (by omega)], rfl⟩
      · refine e_iconst (q := 116) dX7_rank_115 rfl ?_
        refine e_goto (tgt := 120) dX7_rank_116 (by decide) ?_
        exact r_i dX7_rank_120 rfl ⟨by unfold rk; rw [if_neg (by omega), if_neg (by omega), if_neg (by omega), if_neg (by omega), if_neg (by omega), if_pos (by omega)], rfl⟩
  by_cases k1_18 : k = 18
  · refine e_tabIn (tgt := 103) dX7_rank_1 (by first | assumption | exact ⟨by omega, by omega⟩) (by omega) (by omega) (by rw [k1_18]; rfl) (by decide) ?_
    refine e_iload_n (q := 104) (i := 0) dX7_rank_103 rfl rfl rfl ?_
    refine e_bipush (q := 106) dX7_rank_104 rfl (by decide) ?_
    refine e_icmp_lt (q := 109) (tgt := 119) dX7_rank_106 rfl (by decide) (fun c106 => ?_) (fun c106 => ?_)
    · refine e_iconst (q := 120) dX7_rank_119 rfl ?_
      exact r_i dX7_rank_120 rfl ⟨by unfold rk; rw [if_neg (by omega), if_neg (by omega), if_neg (by omega), if_neg (by omega), if_neg (by omega), if_neg (by omega)], rfl⟩
    · refine e_iload_n (q := 110) (i := 0) dX7_rank_109 rfl rfl rfl ?_
      refine e_bipush (q := 112) dX7_rank_110 rfl (by decide) ?_
      refine e_icmp_gt (q := 115) (tgt := 119) dX7_rank_112 rfl (by decide) (fun c112 => ?_) (fun c112 => ?_)
      · refine e_iconst (q := 120) dX7_rank_119 rfl ?_
        exact r_i dX7_rank_120 rfl ⟨by unfold rk; rw [if_neg (by omega), if_neg (by omega), if_neg (by omega), if_neg (by omega), if_neg (by omega), if_neg (by omega)], rfl⟩
      · refine e_iconst (q := 116) dX7_rank_115 rfl ?_
        refine e_goto (tgt := 120) dX7_rank_116 (by decide) ?_
        exact r_i dX7_rank_120 rfl ⟨by unfold rk; rw [if_neg (by omega), if_neg (by omega), if_neg (by omega), if_neg (by omega), if_neg (by omega), if_pos (by omega)], rfl⟩
  by_cases k1_19 : k = 19
  · refine e_tabIn (tgt := 103) dX7_rank_1 (by first | assumption | exact ⟨by omega, by omega⟩) (by omega) (by omega) (by rw [k1_19]; rfl) (by decide) ?_
    refine e_iload_n (q := 104) (i := 0) dX7_rank_103 rfl rfl rfl ?_
    refine e_bipush (q := 106) dX7_rank_104 rfl (by decide) ?_
    refine e_icmp_lt (q := 109) (tgt := 119) dX7_rank_106 rfl (by decide) (fun c106 => ?_) (fun c106 => ?_)
    · refine e_iconst (q := 120) dX7_rank_119 rfl ?_
      exact r_i dX7_rank_120 rfl ⟨by unfold rk; rw [if_neg (by omega), if_neg (by omega), if_neg (by omega), if_neg (by omega), if_neg (by omega), if_neg (by omega)], rfl⟩
    · refine e_iload_n (q := 110) (i := 0) dX7_rank_109 rfl rfl rfl ?_
      refine e_bipush (q := 112) dX7_rank_110 rfl (by decide) ?_
      refine e_icmp_gt (q := 115) (tgt := 119) dX7_rank_112 rfl (by decide) (fun c112 => ?_) (fun c112 => ?_)
      · refine e_iconst (q := 120) dX7_rank_119 rfl ?_
        exact r_i dX7_rank_120 rfl ⟨by unfold rk; rw [if_neg (by omega), if_neg (by omega), if_neg (by omega), if_neg (by omega), if_neg (by omega), if_neg (by omega)], rfl⟩
      · refine e_iconst (q := 116) dX7_rank_115 rfl ?_
        refine e_goto (tgt := 120) dX7_rank_116 (by decide) ?_
        exact r_i dX7_rank_120 rfl ⟨by unfold rk; rw [if_neg (by omega), if_neg (by omega), if_neg (by omega), if_neg (by omega), if_neg (by omega), if_pos (by omega)], rfl⟩
  by_cases k1_20 : k = 20
  · refine e_tabIn (tgt := 103) dX7_rank_1 (by first | assumption | exact ⟨by omega, by omega⟩) (by omega) (by omega) (by rw [k1_20]; rfl) (by decide) ?_
    refine e_iload_n (q := 104) (i := 0) dX7_rank_103 rfl rfl rfl ?_
    refine e_bipush (q := 106) dX7_rank_104 rfl (by decide) ?_
    refine e_icmp_lt (q := 109) (tgt := 119) dX7_rank_106 rfl (by decide) (fun c106 => ?_) (fun c106 => ?_)
    · refine e_iconst (q := 120) dX7_rank_119 rfl ?_
      exact r_i dX7_rank_120 rfl ⟨by unfold rk; rw [if_neg (by omega), if_neg (by omega), if_neg (by omega), if_neg (by omega), if_neg (by omega), if_neg (by omega)], rfl⟩
    · refine e_iload_n (q := 110) (i := 0) dX7_rank_109 rfl rfl rfl ?_
      refine e_bipush (q := 112) dX7_rank_110 rfl (by decide) ?_
      refine e_icmp_gt (q := 115) (tgt := 119) dX7_rank_112 rfl (by decide) (fun c112 => ?_) (fun c112 => ?_)
      · refine e_iconst (q := 120) dX7_rank_119 rfl ?_
        exact r_i dX7_rank_120 rfl ⟨by unfold rk; rw [if_neg (by omega), if_neg (by omega), if_neg (by omega), if_neg (by omega), if_neg (by omega), if_neg (by omega)], rfl⟩
      · refine e_iconst (q := 116) dX7_rank_115 rfl ?_
        refine e_goto (tgt := 120) dX7_rank_116 (by decide) ?_
        exact r_i dX7_rank_120 rfl ⟨by unfold rk; rw [if_neg (by omega), if_neg (by omega), if_neg (by omega), if_neg (by omega), if_neg (by omega), if_pos (by omega)], rfl⟩
  by_cases k1_21 : k = 21
  · refine e_tabIn (tgt := 103) dX7_rank_1 (by first | assumption | exact ⟨by omega, by omega⟩) (by omega) (by omega) (by rw [k1_21]; rfl) (by decide) ?_
    refine e_iload_n (q := 104) (i := 0) dX7_rank_103 rfl rfl rfl ?_
    refine e_bipush (q := 106) dX7_rank_104 rfl (by decide) ?_
    refine e_icmp_lt (q := 109) (tgt := 119) dX7_rank_106 rfl (by decide) (fun c106 => ?_) (fun c106 => ?_)
    · refine e_iconst (q := 120) dX7_rank_119 rfl ?_
      exact r_i dX7_rank_120 rfl ⟨by unfold rk; rw [if_neg (by omega), if_neg (by omega), if_neg (by omega), if_neg (by omega), if_neg (by omega), if_neg (by omega)], rfl⟩
    · refine e_iload_n (q := 110) (i := 0) dX7_rank_109 rfl rfl rfl ?_
      refine e_bipush (q := 112) dX7_rank_110 rfl (by decide) ?_
      refine e_icmp_gt (q := 115) (tgt := 119) dX7_rank_112 rfl (by decide) (fun c112 => ?_) (fun c112 => ?_)
      · refine e_iconst (q := 120) dX7_rank_119 rfl ?_
        exact r_i dX7_rank_120 rfl ⟨by unfold rk; rw [if_neg (by omega), if_neg (by omega), if_neg (by omega), if_neg (by omega), if_neg (by omega), if_neg (by omega)], rfl⟩
      · refine e_iconst (q := 116) dX7_rank_115 rfl ?_
        refine e_goto (tgt := 120) dX7_rank_116 (by decide) ?_
        exact r_i dX7_rank_120 rfl ⟨by unfold rk; rw [if_neg (by omega), if_neg (by omega), if_neg (by omega), if_neg (by omega), if_neg (by omega), if_pos (by omega)], rfl⟩
  by_cases k1_22 : k = 22
  · refine e_tabIn (tgt := 103) dX7_rank_1 (by first | assumption | exact ⟨by omega, by omega⟩) (by omega) (by omega) (by rw [k1_22]; rfl) (by decide) ?_
    refine e_iload_n (q := 104) (i := 0) dX7_rank_103 rfl rfl rfl ?_
    refine e_bipush (q := 106) dX7_rank_104 rfl (by decide) ?_
    refine e_icmp_lt (q := 109) (tgt := 119) dX7_rank_106 rfl (by decide) (fun c106 => ?_) (fun c106 => ?_)
    · refine e_iconst (q := 120) dX7_rank_119 rfl ?_
      exact r_i dX7_rank_120 rfl ⟨by unfold rk; rw [if_neg (by omega), if_neg (by omega), if_neg (by omega), if_neg (by omega), if_neg (by omega), if_neg (by omega)], rfl⟩
    · refine e_iload_n (q := 110) (i := 0) dX7_rank_109 rfl rfl rfl ?_
      refine e_bipush (q := 112) dX7_rank_110 rfl (by decide) ?_
      refine e_icmp_gt (q := 115) (tgt := 119) dX7_rank_112 rfl (by decide) (fun c112 => ?_) (fun c112 => ?_)
      · refine e_iconst (q := 120) dX7_rank_119 rfl ?_
        exact r_i dX7_rank_120 rfl ⟨by unfold rk; rw [if_neg (by omega), if_neg (by omega), if_neg (by omega), if_neg (by omega), if_neg (by omega), if_neg (by omega)], rfl⟩
      · refine e_iconst (q := 116) dX7_rank_115 rfl ?_
        refine e_goto (tgt := 120) dX7_rank_116 (by decide) ?_
        exact r_i dX7_rank_120 rfl ⟨by unfold rk; rw [if_neg (by omega), if_neg (by omega), if_neg (by omega), if_neg (by omega), if_neg (by omega), if_pos (by omega)], rfl⟩
  by_cases k1_23 : k = 23
  · refine e_tabIn (tgt := 103) dX7_rank_1 (by first | assumption | exact ⟨by omega, by omega⟩) (by omega) (by omega) (by rw [k1_23]; rfl) (by decide) ?_
    refine e_iload_n (q := 104) (i := 0) dX7_rank_103 rfl rfl rfl ?_
    refine e_bipush (q := 106) dX7_rank_104 rfl (by decide) ?_
    refine e_icmp_lt (q := 109) (tgt := 119) dX7_rank_106 rfl (by decide) (fun c106 => ?_) (fun c106 => ?_)
    · refine e_iconst (q := 120) dX7_rank_119 rfl ?_
      exact r_i dX7_rank_120 rfl ⟨by unfold rk; rw [if_neg (by omega), if_neg (by omega), if_neg (by omega), if_neg (by omega), if_neg (by omega), if_neg (by omega)], rfl⟩
    · refine e_iload_n (q := 110) (i := 0) dX7_rank_109 rfl rfl rfl ?_
      refine e_bipush (q := 112) dX7_rank_110 rfl (by decide) ?_
      refine e_icmp_gt (q := 115) (tgt := 119) dX7_rank_112 rfl (by decide) (fun c112 => ?_) (fun c112 => ?_)
      · refine e_iconst (q := 120) dX7_rank_119 rfl ?_
        exact r_i dX7_rank_120 rfl ⟨by unfold rk; rw [if_neg (by omega), if_neg (by omega), if_neg (by omega), if_neg (by omega), if_neg (by omega), if_neg (by omega)], rfl⟩
      · refine e_iconst (q := 116) dX7_rank_115 rfl ?_
        refine e_goto (tgt := 120) dX7_rank_116 (by decide) ?_
        exact r_i dX7_rank_120 rfl ⟨by unfold rk; rw [if_neg (by omega), if_neg (by omega), if_neg (by omega), if_neg (by omega), if_neg (by omega), if_pos (by omega)], rfl⟩
  by_cases k1_24 : k = 24
  · refine e_tabIn (tgt := 103) dX7_rank_1 (by first | assumption | exact ⟨by omega, by omega⟩) (by omega) (by omega) (by rw [k1_24]; rfl) (by decide) ?_
    refine e_iload_n (q := 104) (i := 0) dX7_rank_103 rfl rfl rfl ?_
    refine e_bipush (q := 106) dX7_rank_104 rfl (by decide) ?_
    refine e_icmp_lt (q := 109) (tgt := 119) dX7_rank_106 rfl (by decide) (fun c106 => ?_) (fun c106 => ?_)
    · refine e_iconst (q := 120) dX7_rank_119 rfl ?_
      exact r_i dX7_rank_120 rfl ⟨by unfold rk; rw [if_neg (by omega), if_neg (by omega), if_neg (by omega), if_neg (by omega), if_neg (by omega), if_neg (by omega)], rfl⟩
    · refine e_iload_n (q := 110) (i := 0) dX7_rank_109 rfl rfl rfl ?_
      refine e_bipush (q := 112) dX7_rank_110 rfl (by decide) ?_
      refine e_icmp_gt (q := 115) (tgt := 119) dX7_rank_112 rfl (by decide) (fun c112 => ?_) (fun c112 => ?_)
      · refine e_iconst (q := 120) dX7_rank_119 rfl ?_
        exact r_i dX7_rank_120 rfl ⟨by unfold rk; rw [if_neg (by omega), if_neg (by omega), if_neg (by omega), if_neg (by omega), if_neg (by omega), if_neg (by omega)], rfl⟩
      · refine e_iconst (q := 116) dX7_rank_115 rfl ?_
        refine e_goto (tgt := 120) dX7_rank_116 (by decide) ?_
        exact r_i dX7_rank_120 rfl ⟨by unfold rk; rw [if_neg (by omega), if_neg (by omega), if_neg (by omega), if_neg (by omega), if_neg (by omega), if_pos (by omega)], rfl⟩
  by_cases k1_25 : k = 25
  · refine e_tabIn (tgt := 103) dX7_rank_1 (by first | assumption | exact ⟨by omega, by omega⟩) (by omega) (by omega) (by rw [k1_25]; rfl) (by decide) ?_
    refine e_iload_n (q := 104) (i := 0) dX7_rank_103 rfl rfl rfl ?_
    refine e_bipush (q := 106) dX7_rank_104 rfl (by decide) ?_
    refine e_icmp_lt (q := 109) (tgt := 119) dX7_rank_106 rfl (by decide) (fun c106 => ?_) (fun c106 => ?_)
    · refine e_iconst (q := 120) dX7_rank_119 rfl ?_
      exact r_i dX7_rank_120 rfl ⟨by unfold rk; rw [if_neg (by omega), if_neg (by omega), if_neg (by omega), if_neg (by omega), if_neg (by omega), if_neg (by omega)], rfl⟩
    · refine e_iload_n (q := 110) (i := 0) dX7_rank_109 rfl rfl rfl ?_
      refine e_bipush (q := 112) dX7_rank_110 rfl (by decide) ?_
      refine e_icmp_gt (q := 115) (tgt := 119) dX7_rank_112 rfl (by decide) (fun c112 => ?_) (fun c112 => ?_)
      · refine e_iconst (q := 120) dX7_rank_119 rfl ?_
        exact r_i dX7_rank_120 rfl ⟨by unfold rk; rw [if_neg (by omega), if_neg (by omega), if_neg (by omega), if_neg (by omega), if_neg (by omega), if_neg (by omega)], rfl⟩
      · refine e_iconst (q := 116) dX7_rank_115 rfl ?_
        refine e_goto (tgt := 120) dX7_rank_116 (by decide) ?_
        exact r_i dX7_rank_120 rfl ⟨by unfold rk; rw [if_neg (by omega), if_neg (by omega), if_neg (by omega), if_neg (by omega), if_neg (by omega), if_pos (by omega)], rfl⟩
  by_cases k1_26 : k = 26
  · refine e_tabIn (tgt := 98) dX7_rank_1 (by first | assumption | exact ⟨by omega, by omega⟩) (by omega) (by omega) (by rw [k1_26]; rfl) (by decide) ?_
    refine e_iconst (q := 99) dX7_rank_98 rfl ?_
    exact r_i dX7_rank_99 rfl ⟨by unfold rk; rw [if_neg (by omega), if_neg (by omega), if_neg (by omega), if_pos (by omega)], rfl⟩
  by_cases k1_27 : k = 27
  · refine e_tabIn (tgt := 98) dX7_rank_1 (by first | assumption | exact ⟨by omega, by omega⟩) (by omega) (by omega) (by rw [k1_27]; rfl) (by decide) ?_
    refine e_iconst (q := 99) dX7_rank_98 rfl ?_
    exact r_i dX7_rank_99 rfl ⟨by unfold rk; rw [if_neg (by omega), if_neg (by omega), if_neg (by omega), if_pos (by omega)], rfl⟩
  by_cases k1_28 : k = 28
  · refine e_tabIn (tgt := 100) dX7_rank_1 (by first | assumption | exact ⟨by omega, by omega⟩) (by omega) (by omega) (by rw [k1_28]; rfl) (by decide) ?_
    refine e_bipush (q := 102) dX7_rank_100 rfl (by decide) ?_
    exact r_i dX7_rank_102 rfl ⟨by unfold rk; rw [if_neg (by omega), if_neg (by omega), if_neg (by omega), if_neg (by omega), if_pos (by omega)], rfl⟩
  by_cases k1_29 : k = 29
  · refine e_tabIn (tgt := 100) dX7_rank_1 (by first | assumption | exact ⟨by omega, by omega⟩) (by omega) (by omega) (by rw [k1_29]; rfl) (by decide) ?_
    refine e_bipush (q := 102) dX7_rank_100 rfl (by decide) ?_
    exact r_i dX7_rank_102 rfl ⟨by unfold rk; rw [if_neg (by omega), if_neg (by omega), if_neg (by omega), if_neg (by omega), if_pos (by omega)], rfl⟩
  refine e_tabOut (tgt := 103) dX7_rank_1 (by first | assumption | exact ⟨by omega, by omega⟩) (by omega) (by decide) ?_
  refine e_iload_n (q := 104) (i := 0) dX7_rank_103 rfl rfl rfl ?_
  refine e_bipush (q := 106) dX7_rank_104 rfl (by decide) ?_
  refine e_icmp_lt (q := 109) (tgt := 119) dX7_rank_106 rfl (by decide) (fun c106 => ?_) (fun c106 => ?_)
  · refine e_iconst (q := 120) dX7_rank_119 rfl ?_
    exact r_i dX7_rank_120 rfl ⟨by unfold rk; rw [if_neg (by omega), if_neg (by omega), if_neg (by omega), if_neg (by omega), if_neg (by omega), if_neg (by omega)], rfl⟩
  · refine e_iload_n (q := 110) (i := 0) dX7_rank_109 rfl rfl rfl ?_
    refine e_bipush (q := 112) dX7_rank_110 rfl (by decide) ?_
    refine e_icmp_gt (q := 115) (tgt := 119) dX7_rank_112 rfl (by decide) (fun c112 => ?_) (fun c112 => ?_)
    · refine e_iconst (q := 120) dX7_rank_119 rfl ?_
      exact r_i dX7_rank_120 rfl ⟨by unfold rk; rw [if_neg (by omega), if_neg (by omega), if_neg (by omega), if_neg (by omega), if_neg (by omega), if_neg (by omega)], rfl⟩
    · refine e_iconst (q := 116) dX7_rank_115 rfl ?_
      refine e_goto (tgt := 120) dX7_rank_116 (by decide) ?_
      exact r_i dX7_rank_120 rfl ⟨by unfold rk; rw [if_neg (by omega), if_neg (by omega), if_neg (by omega), if_neg (by omega), if_neg (by omega), if_pos (by omega)], rfl⟩

theorem c_X7_topRank {G : Gx} {σ : Sg} {S : List Int} {o c : Int} {K : Kn} (hR : SyR σ S o c K) (hI : SyI S o c K)  : Con G 2 mX7_topRank [.ref (G.2.2.2 + 21)] σ (pI (pE σ (syTr S))) := by
  have hlen := SyR_len hR hI
  obtain ⟨r1, r2, r3, r4, r5, r6⟩ := id hR
  refine e_entry om_X7_topRank (Nat.le_of_ble_eq_true rfl) (L := [some (.ref (G.2.2.2 + 21))]) rfl ?_
  match S, hR, hI, r1, r2 with
  | [], hR, hI, r1, r2 =>
    refine e_aload_n (q := 1) (i := 0) dX7_topRank_0 rfl rfl rfl ?_
    refine e_getI (q := 4) (jz := 2) dX7_topRank_1 rfl fg_X7_31 rfl (by first | assumption | rfl) rfl ?_
    have r2 : σ.1 21 2 = 0 := r2
    refine e_if_le (q := 7) (tgt := 36) dX7_topRank_4 rfl (by decide) (fun c4 => ?_) (fun c4 => absurd (by omega) c4)
    refine e_iconst (q := 37) dX7_topRank_36 rfl ?_
    exact r_i dX7_topRank_37 rfl ⟨rfl, rfl⟩
  | s :: S, hR, hI, r1, r2 =>
    have hs0 := hI.1 s List.mem_cons_self
    have hsr : 11 ≤ s ∧ s ≤ 35 := by
      rcases hs0 with q | q
      · omega
      · have := (rk_in s).2.2 q; omega
    have hlc : ((s :: S).length : Int) = S.length + 1 := by simp
    refine e_aload_n (q := 1) (i := 0) dX7_topRank_0 rfl rfl rfl ?_
    refine e_getI (q := 4) (jz := 2) dX7_topRank_1 rfl fg_X7_31 rfl (by first | assumption | rfl) rfl ?_
    refine e_if_le (q := 7) (tgt := 36) dX7_topRank_4 rfl (by decide) (fun c4 => absurd c4 (by omega)) (fun c4 => ?_)
    refine e_aload_n (q := 8) (i := 0) dX7_topRank_7 rfl rfl rfl ?_
    refine e_getI (q := 11) (jz := 2) dX7_topRank_8 rfl fg_X7_31 rfl (by first | assumption | rfl) rfl ?_
    refine e_aload_n (q := 12) (i := 0) dX7_topRank_11 rfl rfl rfl ?_
    refine e_getR (q := 15) dX7_topRank_12 rfl fg_X7_17 (by first | assumption | rfl) rfl ?_
    refine e_alen (q := 16) (nz := 72) dX7_topRank_15 rfl (by first | assumption | rfl) (by decide) rfl ?_
    refine e_icmp_gt (q := 19) (tgt := 36) dX7_topRank_16 rfl (by decide) (fun c16 => absurd c16 (by omega)) (fun c16 => ?_)
    refine e_aload_n (q := 20) (i := 0) dX7_topRank_19 rfl rfl rfl ?_
    refine e_getR (q := 23) dX7_topRank_20 rfl fg_X7_17 (by first | assumption | rfl) rfl ?_
    refine e_aload_n (q := 24) (i := 0) dX7_topRank_23 rfl rfl rfl ?_
    refine e_getI (q := 27) (jz := 2) dX7_topRank_24 rfl fg_X7_31 rfl (by first | assumption | rfl) rfl ?_
    refine e_iconst (q := 28) dX7_topRank_27 rfl ?_
    refine e_isub (q := 29) dX7_topRank_28 rfl ?_
    refine e_iald (q := 30) dX7_topRank_29 rfl (by first | assumption | rfl) ?_
    rw [show σ.1 21 2 - 1 = (S.length : Int) by omega, StkIs_top r1]
    refine e_Sip (q := 33) (vs := [_]) ok_X7_rank ml_X7_84 dX7_topRank_30 rfl rfl rfl (Nat.le_of_ble_eq_true rfl) (by decide) (c_X7_rank ⟨by omega, by omega⟩) ?_
    refine e_goto (tgt := 37) dX7_topRank_33 (by decide) ?_
    exact r_i dX7_topRank_37 rfl ⟨rfl, rfl⟩

theorem c_X7_pushes {G : Gx} {σ : Sg} {k : Int} (h0 : 0 ≤ σ.1 21 2) (h1 : σ.1 21 2 < 72) : Con G 2 mX7_pushes [.ref (G.2.2.2 + 21), .int (iZ k)] σ (pI (fun z σ' => z = 1 ∧ σ' = sI (sI σ 22 (σ.1 21 2) k) 21 2 (σ.1 21 2 + 1))) := by
  refine e_entry om_X7_pushes (Nat.le_of_ble_eq_true rfl) (L := [some (.ref (G.2.2.2 + 21)), some (.int (iZ k))]) rfl ?_
  refine e_aload_n (q := 1) (i := 0) dX7_pushes_0 rfl rfl rfl ?_
  refine e_getI (q := 4) (jz := 2) dX7_pushes_1 rfl fg_X7_31 rfl (by first | assumption | rfl) rfl ?_
  refine e_aload_n (q := 5) (i := 0) dX7_pushes_4 rfl rfl rfl ?_
  refine e_getR (q := 8) dX7_pushes_5 rfl fg_X7_17 (by first | assumption | rfl) rfl ?_
  refine e_alen (q := 9) (nz := 72) dX7_pushes_8 rfl (by first | assumption | rfl) (by decide) rfl ?_
  refine e_icmp_lt (q := 12) (tgt := 21) dX7_pushes_9 rfl (by decide) (fun c9 => ?_) (fun c9 => absurd (by omega) c9)
  refine e_aload_n (q := 22) (i := 0) dX7_pushes_21 rfl rfl rfl ?_
  refine e_getR (q := 25) dX7_pushes_22 rfl fg_X7_17 (by first | assumption | rfl) rfl ?_
  refine e_aload_n (q := 26) (i := 0) dX7_pushes_25 rfl rfl rfl ?_
  refine e_getI (q := 29) (jz := 2) dX7_pushes_26 rfl fg_X7_31 rfl (by first | assumption | rfl) rfl ?_
  refine e_iload_n (q := 30) (i := 1) dX7_pushes_29 rfl rfl rfl ?_
  refine e_iast (q := 31) dX7_pushes_30 rfl (by first | assumption | rfl) ?_
  refine e_aload_n (q := 32) (i := 0) dX7_pushes_31 rfl rfl rfl ?_
  refine e_dup (q := 33) dX7_pushes_32 rfl rfl ?_
  refine e_getI (q := 36) (jz := 2) dX7_pushes_33 rfl fg_X7_31 rfl (by first | assumption | rfl) rfl ?_
  rw [show (sI σ 22 (σ.1 21 2) k).1 21 2 = σ.1 21 2 from by rw [sI_ne _ (by decide)]]
  refine e_iconst (q := 37) dX7_pushes_36 rfl ?_
  refine e_iadd (q := 38) dX7_pushes_37 rfl ?_
  refine e_putI (q := 41) (jz := 2) dX7_pushes_38 rfl fp_X7_31 rfl (by first | assumption | rfl) rfl ?_
  refine e_iconst (q := 42) dX7_pushes_41 rfl ?_
  exact r_z dX7_pushes_42 rfl (by first | exact Or.inl rfl | exact Or.inr rfl | omega) ⟨rfl, rfl⟩

theorem c_X7_counts {G : Gx} {σ : Sg} (h0 : 0 ≤ σ.1 21 4) (h1 : σ.1 21 4 ≤ 64) : Con G 2 mX7_counts [.ref (G.2.2.2 + 21)] σ (pI (fun z σ' => (64 ≤ σ.1 21 4 ∧ z = 0 ∧ σ' = sI (sI σ 19 7 2) 19 8 (σ.1 19 5)) ∨ (¬ 64 ≤ σ.1 21 4 ∧ z = 1 ∧ σ' = sI σ 21 4 (σ.1 21 4 + 1)))) := by
  refine e_entry om_X7_counts (Nat.le_of_ble_eq_true rfl) (L := [some (.ref (G.2.2.2 + 21))]) rfl ?_
  refine e_aload_n (q := 1) (i := 0) dX7_counts_0 rfl rfl rfl ?_
  refine e_getI (q := 4) (jz := 4) dX7_counts_1 rfl fg_X7_28 rfl (by first | assumption | rfl) rfl ?_
  refine e_bipush (q := 6) dX7_counts_4 rfl (by decide) ?_
  refine e_icmp_lt (q := 9) (tgt := 18) dX7_counts_6 rfl (by decide) (fun c6 => ?_) (fun c6 => ?_) (hx := ⟨by omega, by omega⟩)
  · refine e_aload_n (q := 19) (i := 0) dX7_counts_18 rfl rfl rfl ?_
    refine e_dup (q := 20) dX7_counts_19 rfl rfl ?_
    refine e_getI (q := 23) (jz := 4) dX7_counts_20 rfl fg_X7_28 rfl (by first | assumption | rfl) rfl ?_
    refine e_iconst (q := 24) dX7_counts_23 rfl ?_
    refine e_iadd (q := 25) dX7_counts_24 rfl ?_
    refine e_putI (q := 28) (jz := 4) dX7_counts_25 rfl fp_X7_28 rfl (by first | assumption | rfl) rfl ?_
    refine e_iconst (q := 29) dX7_counts_28 rfl ?_
    exact r_z dX7_counts_29 rfl (by first | exact Or.inl rfl | exact Or.inr rfl | omega) (Or.inr ⟨by omega, rfl, rfl⟩)
  · refine e_aload_n (q := 10) (i := 0) dX7_counts_9 rfl rfl rfl ?_
    refine e_getR (q := 13) dX7_counts_10 rfl fg_X7_9 (by first | assumption | rfl) rfl ?_
    refine e_iconst (q := 14) dX7_counts_13 rfl ?_
    refine e_Vi (q := 17) (vs := [_]) ok_X8_fail ml_X7_63 dX7_counts_14 rfl ⟨_, _, rfl⟩ (by first | assumption | rfl) rfl rfl (Nat.le_of_ble_eq_true rfl) (by decide) (c_X8_fail) (fun z14 s14 h14 => ?_)
    obtain ⟨rfl, rfl⟩ := h14
    exact r_z dX7_counts_17 rfl (Or.inl rfl) (Or.inl ⟨by omega, rfl, rfl⟩)

theorem c_X7_puts {G : Gx} {σ : Sg} {v : Int} (h0 : 0 ≤ σ.1 34 4) (h1 : σ.1 34 4 < 64) : Con G 2 mX7_puts [.ref (G.2.2.2 + 21), .ref (G.2.2.2 + 34), .int (iZ v)] σ (pI (fun z σ' => z = 1 ∧ σ' = sI (sI σ 35 (σ.1 34 4) v) 34 4 (σ.1 34 4 + 1))) := by
  refine e_entry om_X7_puts (Nat.le_of_ble_eq_true rfl) (L := [some (.ref (G.2.2.2 + 21)), some (.ref (G.2.2.2 + 34)), some (.int (iZ v))]) rfl ?_
  refine e_aload_n (q := 1) (i := 1) dX7_puts_0 rfl rfl rfl ?_
  refine e_iload_n (q := 2) (i := 2) dX7_puts_1 rfl rfl rfl ?_
  refine e_Vv (q := 5) (vs := [_]) ok_X3_put ml_X7_88 dX7_puts_2 rfl ⟨_, _, rfl⟩ (by first | assumption | rfl) rfl rfl (Nat.le_of_ble_eq_true rfl) (by decide) (c_X3_put h0 h1) (fun s2 h2 => ?_)
  refine e_iconst (q := 6) dX7_puts_5 rfl ?_
  exact r_z dX7_puts_6 rfl (by first | exact Or.inl rfl | exact Or.inr rfl | omega) ⟨rfl, h2⟩

set_option maxHeartbeats 4000000 in
theorem c_X7_settle {G : Gx} {σ : Sg} {S : List Int} {o c : Int} {K : Kn} (hR : SyR σ S o c K) (hI : SyI S o c K) {l : Int} (hl0 : 0 ≤ l) (hl6 : l ≤ 6) : Con G 3 mX7_settle [.ref (G.2.2.2 + 21), .ref (G.2.2.2 + 34), .int (iZ l)] σ (pV (fun σ' => SyR σ' (sySet (max l 1) S K).1 o c (sySet (max l 1) S K).2 ∧ SF σ σ' ∧ σ'.1 19 = σ.1 19)) := by
  obtain ⟨R0, hR0⟩ : ∃ R, R = sySet (max l 1) S K := ⟨_, rfl⟩
  rw [← hR0]
  have lp : ∀ (n : Nat) (τ : Sg) (S : List Int) (K : Kn), S.length ≤ n → SyR τ S o c K → SyI S o c K → sySet (max l 1) S K = R0 → SF σ τ → τ.1 19 = σ.1 19 → J G 3 mX7_settle (pV (fun σ' => SyR σ' R0.1 o c R0.2 ∧ SF σ σ' ∧ σ'.1 19 = σ.1 19)) τ 6 [some (.ref (G.2.2.2 + 21)), some (.ref (G.2.2.2 + 34)), some (.int (iZ l)), some (.int (iZ (max l 1)))] [] := by
    intro n
    induction n with
    | zero =>
      intro τ S K hn hR hI hE hF h19
      match S, hn, hR, hI, hE with
      | [], hn, hR, hI, hE =>
        obtain ⟨r1, r2, r3, r4, r5, r6⟩ := id hR
        have r2 : τ.1 21 2 = 0 := r2
        refine e_aload_n (q := 7) (i := 0) dX7_settle_6 rfl rfl rfl ?_
        refine e_getI (q := 10) (jz := 2) dX7_settle_7 rfl fg_X7_31 rfl (by first | assumption | rfl) rfl ?_
        refine e_if_le (q := 13) (tgt := 70) dX7_settle_10 rfl (by decide) (fun c10 => ?_) (fun c10 => absurd (by omega) c10)
        exact r_v dX7_settle_70 rfl ⟨by rw [← hE]; exact hR, hF, h19⟩
      | s :: S, hn, hR, hI, hE => exact absurd hn (by simp)
    | succ n ih =>
      intro τ S K hn hR hI hE hF h19
      match S, hn, hR, hI, hE with
      | [], hn, hR, hI, hE =>
        obtain ⟨r1, r2, r3, r4, r5, r6⟩ := id hR
        have r2 : τ.1 21 2 = 0 := r2
        refine e_aload_n (q := 7) (i := 0) dX7_settle_6 rfl rfl rfl ?_
        refine e_getI (q := 10) (jz := 2) dX7_settle_7 rfl fg_X7_31 rfl (by first | assumption | rfl) rfl ?_
        refine e_if_le (q := 13) (tgt := 70) dX7_settle_10 rfl (by decide) (fun c10 => ?_) (fun c10 => absurd (by omega) c10)
        exact r_v dX7_settle_70 rfl ⟨by rw [← hE]; exact hR, hF, h19⟩
      | s :: S, hn, hR, hI, hE =>
        obtain ⟨r1, r2, r3, r4, r5, r6⟩ := id hR
        have hlen := SyR_len hR hI
        have hs0 := hI.1 s List.mem_cons_self
        have hrks := rk_in s
        have hsr : 11 ≤ s ∧ s ≤ 35 := by
          rcases hs0 with q | q
          · omega
          · have := (rk_in s).2.2 q; omega
        have hlc : ((s :: S).length : Int) = S.length + 1 := by simp
        have hn : S.length ≤ n := by simp only [List.length_cons] at hn; omega
        refine e_aload_n (q := 7) (i := 0) dX7_settle_6 rfl rfl rfl ?_
        refine e_getI (q := 10) (jz := 2) dX7_settle_7 rfl fg_X7_31 rfl (by first | assumption | rfl) rfl ?_
        refine e_if_le (q := 13) (tgt := 70) dX7_settle_10 rfl (by decide) (fun c10 => absurd c10 (by omega)) (fun c10 => ?_)
        refine e_aload_n (q := 14) (i := 0) dX7_settle_13 rfl rfl rfl ?_
        refine e_getI (q := 17) (jz := 2) dX7_settle_14 rfl fg_X7_31 rfl (by first | assumption | rfl) rfl ?_
        refine e_aload_n (q := 18) (i := 0) dX7_settle_17 rfl rfl rfl ?_
        refine e_getR (q := 21) dX7_settle_18 rfl fg_X7_17 (by first | assumption | rfl) rfl ?_
        refine e_alen (q := 22) (nz := 72) dX7_settle_21 rfl (by first | assumption | rfl) (by decide) rfl ?_
        refine e_icmp_gt (q := 25) (tgt := 70) dX7_settle_22 rfl (by decide) (fun c22 => absurd c22 (by omega)) (fun c22 => ?_)
        refine e_aload_n (q := 26) (i := 0) dX7_settle_25 rfl rfl rfl ?_
        refine e_getR (q := 29) dX7_settle_26 rfl fg_X7_17 (by first | assumption | rfl) rfl ?_
        refine e_aload_n (q := 30) (i := 0) dX7_settle_29 rfl rfl rfl ?_
        refine e_getI (q := 33) (jz := 2) dX7_settle_30 rfl fg_X7_31 rfl (by first | assumption | rfl) rfl ?_
        refine e_iconst (q := 34) dX7_settle_33 rfl ?_
        refine e_isub (q := 35) dX7_settle_34 rfl ?_
        refine e_iald (q := 36) dX7_settle_35 rfl (by first | assumption | rfl) ?_
        rw [show τ.1 21 2 - 1 = (S.length : Int) by omega, StkIs_top r1]
        refine e_Sip (q := 39) (vs := [_]) ok_X7_rank ml_X7_84 dX7_settle_36 rfl rfl rfl (Nat.le_of_ble_eq_true rfl) (by decide) (c_X7_rank ⟨by omega, by omega⟩) ?_
        refine e_iload_n (q := 40) (i := 3) dX7_settle_39 rfl rfl rfl ?_
        refine e_icmp_lt (q := 43) (tgt := 70) dX7_settle_40 rfl (by decide) (fun c40 => ?_) (fun c40 => ?_) (hx := ⟨by omega, by omega⟩) (hy := ⟨by omega, by omega⟩)
        · exact r_v dX7_settle_70 rfl ⟨by rw [← hE]; simp only [sySet]; rw [if_neg (by omega)]; exact hR, hF, h19⟩
        · refine e_aload_n (q := 44) (i := 0) dX7_settle_43 rfl rfl rfl ?_
          refine e_dup (q := 45) dX7_settle_44 rfl rfl ?_
          refine e_getI (q := 48) (jz := 2) dX7_settle_45 rfl fg_X7_31 rfl (by first | assumption | rfl) rfl ?_
          refine e_iconst (q := 49) dX7_settle_48 rfl ?_
          refine e_isub (q := 50) dX7_settle_49 rfl ?_
          refine e_putI (q := 53) (jz := 2) dX7_settle_50 rfl fp_X7_31 rfl (by first | assumption | rfl) rfl ?_
          refine e_aload_n (q := 54) (i := 1) dX7_settle_53 rfl rfl rfl ?_
          refine e_aload_n (q := 55) (i := 0) dX7_settle_54 rfl rfl rfl ?_
          refine e_getR (q := 58) dX7_settle_55 rfl fg_X7_17 (by first | assumption | rfl) rfl ?_
          refine e_aload_n (q := 59) (i := 0) dX7_settle_58 rfl rfl rfl ?_
          refine e_getI (q := 62) (jz := 2) dX7_settle_59 rfl fg_X7_31 rfl (by first | assumption | rfl) rfl ?_
          rw [show (sI τ 21 2 (τ.1 21 2 - 1)).1 21 2 = (S.length : Int) from by rw [sI_1, if_pos ⟨rfl, rfl⟩]; omega]
          refine e_iald (q := 63) dX7_settle_62 rfl (by first | assumption | rfl) ?_
          rw [show (sI τ 21 2 (τ.1 21 2 - 1)).1 22 (S.length : Int) = s from by rw [sI_ne _ (by decide)]; exact StkIs_top r1]
          refine e_ineg (q := 64) dX7_settle_63 rfl ?_
          have e34 : (sI τ 21 2 (τ.1 21 2 - 1)).1 34 4 = τ.1 34 4 := by rw [sI_ne _ (by decide)]
          have hpp := SyI_pop hI (show 1 ≤ rk s by omega)
          refine e_Vv (q := 67) (vs := [_]) ok_X3_put ml_X7_88 dX7_settle_64 rfl ⟨_, _, rfl⟩ (by first | assumption | rfl) rfl rfl (Nat.le_of_ble_eq_true rfl) (by decide) (c_X3_put (by rw [e34]; omega) (by rw [e34, r5]; exact hpp.2)) (fun s64 h64 => ?_)
          refine e_goto (tgt := 6) dX7_settle_67 (by decide) ?_
          rw [e34] at h64
          subst h64
          refine ih _ S (kput K (-s)) (by omega) ⟨?_, ?_, ?_, ?_, ?_, ?_⟩ hpp.1 ?_ (((hF.s (Or.inl rfl) _ _).s (Or.inr (Or.inr (Or.inr rfl))) _ _).s (Or.inr (Or.inr (Or.inl rfl))) _ _) ?_
          · rw [sI_ne _ (by decide), sI_ne _ (by decide), sI_ne _ (by decide)]; exact r1.2
          · rw [sI_ne _ (by decide), sI_ne _ (by decide), sI_1, if_pos ⟨rfl, rfl⟩]; omega
          · rw [sI_ne _ (by decide), sI_ne _ (by decide), sI_1, if_neg (by decide)]; exact r3
          · rw [sI_ne _ (by decide), sI_ne _ (by decide), sI_1, if_neg (by decide)]; exact r4
          · rw [sI_1, if_pos ⟨rfl, rfl⟩, r5]; rfl
          · rw [sI_ne _ (by decide), sI_uf, sI_ne _ (by decide), r6, r5]; rfl
          · rw [← hE]; simp only [sySet]; rw [if_pos (by omega)]
          · rw [sI_ne _ (by decide), sI_ne _ (by decide), sI_ne _ (by decide)]; exact h19
  refine e_entry om_X7_settle (Nat.le_of_ble_eq_true rfl) (L := [some (.ref (G.2.2.2 + 21)), some (.ref (G.2.2.2 + 34)), some (.int (iZ l)), none]) rfl ?_
  refine e_iload_n (q := 1) (i := 2) dX7_settle_0 rfl rfl rfl ?_
  refine e_iconst (q := 2) dX7_settle_1 rfl ?_
  refine e_mmax (q := 5) dX7_settle_2 rfl ml_X7_92 mw_max_s mw_max_c mw_init (Nat.le_of_ble_eq_true rfl) (by decide) ?_
  refine e_istore_n (q := 6) (i := 3) (L' := [_, _, _, _]) dX7_settle_5 rfl rfl (by decide) rfl rfl ?_
  exact lp S.length σ S K (Nat.le_refl _) hR hI hR0.symm (SF.rf σ) rfl

