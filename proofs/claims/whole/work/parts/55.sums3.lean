/-- what reading an E does to the class -/
def RdE (σ σ' : Sg) (r z : Int) (R : (Int × Int) ⊕ (List Tk × Kn)) : Prop := (Fr [19, 21, 22, 34, 35, 36, 37] σ σ' ∧ σ'.1 19 2 = σ.1 19 2) ∧ match R with
  | .inl fp => z = 0 ∧ σ'.1 19 7 = fp.1 ∧ σ'.1 19 8 = fp.2
  | .inr q => z = 1 ∧ CK σ' q.1 ∧ σ'.1 34 4 = q.2.1 ∧ σ'.1 35 = q.2.2 ∧ σ'.1 36 = uf (σ.1 36) r (σ.1 34 4) ∧ σ'.1 37 = uf (σ.1 37) r q.2.1 ∧ σ'.1 19 7 = σ.1 19 7 ∧ σ'.1 19 8 = σ.1 19 8
theorem syRun_go {t : Tk} {ts : List Tk} {s : Sy} (h : ¬ (s.1 ≠ 1 ∧ t.1 = 23 ∧ s.2.2.1 = 0)) : syRun (t :: ts) s = match sy1 t s with
  | .inl f => .inl (f, t.2.1)
  | .inr s' => syRun ts s' := if_neg h
theorem syRun_end {t : Tk} {ts : List Tk} {s : Sy} (h : s.1 ≠ 1 ∧ t.1 = 23 ∧ s.2.2.1 = 0) : syRun (t :: ts) s = .inr (t :: ts, (sySet 1 s.2.1 s.2.2.2.2).2) := if_pos h
theorem sy_nend {t : Tk} {s s' : Sy} (h : sy1 t s = .inr s') : t.1 ≠ 37 := by
  intro q
  unfold sy1 at h
  by_cases e : s.1 = 1
  · rw [if_pos e, if_neg (by omega), if_neg (by omega), if_neg (by omega), if_neg (by omega)] at h
    cases h
  · rw [if_neg e, if_neg (by omega), if_pos (Or.inl (by rw [q]; decide))] at h
    cases h

set_option maxHeartbeats 8000000 in
theorem c_X7_reads {G : Gx} {σ : Sg} {ts0 : List Tk} {r : Int} (hC : CK σ ts0) (hlen : ts0.length ≤ 701) (hu0 : 0 ≤ σ.1 34 4) (hu1 : σ.1 34 4 ≤ 64) (hr0 : 0 ≤ r) (hr3 : r < 3) : Con G 5 mX7_reads [.ref (G.2.2.2 + 21), .ref (G.2.2.2 + 34), .int (iZ r)] σ (pI (fun z σ' => RdE σ σ' r z (syRun ts0 (1, [], 0, σ.1 34 4, (σ.1 34 4, σ.1 35))))) := by
  obtain ⟨R0, hR0⟩ : ∃ R, R = syRun ts0 (1, [], 0, σ.1 34 4, (σ.1 34 4, σ.1 35)) := ⟨_, rfl⟩
  rw [← hR0]
  have lp : ∀ (n : Nat) (τ : Sg) (ts : List Tk) (w i : Int) (S : List Int) (o c : Int) (K : Kn) (x5 x6 : Option Value), ts.length ≤ n → i + ts.length ≤ 701 → 0 ≤ i → (w = 0 ∨ w = 1) → syRun ts (w, S, o, c, K) = R0 → CK τ ts → SyR τ S o c K → SyI S o c K → Fr [19, 21, 22, 34, 35, 36, 37] σ τ → τ.1 19 2 = σ.1 19 2 → τ.1 36 = uf (σ.1 36) r (σ.1 34 4) → τ.1 37 = σ.1 37 → τ.1 19 7 = σ.1 19 7 → τ.1 19 8 = σ.1 19 8 → J G 5 mX7_reads (pI (fun z σ' => RdE σ σ' r z R0)) τ 33 [some (.ref (G.2.2.2 + 21)), some (.ref (G.2.2.2 + 34)), some (.int (iZ r)), some (.int (iZ w)), some (.int (iZ i)), x5, x6] [] := by
    intro n
    induction n with
    | zero =>
      intro τ ts w i S o c K x5 x6 hn hi h0 hw hE hC hR hI hF e2 e36 e37 e7 e8
      obtain ⟨t, rest, ets⟩ := hC.ne
      subst ets
      exact absurd hn (by simp)
    | succ n ih =>
      intro τ ts w i S o c K x5 x6 hn hi h0 hw hE hC hR hI hF e2 e36 e37 e7 e8
      obtain ⟨t, rest, ets⟩ := hC.ne
      subst ets
      obtain ⟨k4, k5, kv, kr, kp⟩ := hC.hd
      obtain ⟨r1, r2, r3, r4, r5, r6⟩ := id hR
      have hlen := SyR_len hR hI
      have hll : ((t :: rest).length : Int) = rest.length + 1 := by simp
      have tail : ∀ (s3 : Sg) (s' : Sy), sy1 t (w, S, o, c, K) = .inr s' → SF τ s3 → SyR s3 s'.2.1 s'.2.2.1 s'.2.2.2.1 s'.2.2.2.2 → s3.1 19 7 = τ.1 19 7 → s3.1 19 8 = τ.1 19 8 → syRun (t :: rest) (w, S, o, c, K) = syRun rest s' → ∀ (x6 : Option Value), J G 5 mX7_reads (pI (fun z σ' => RdE σ σ' r z R0)) s3 111 [some (.ref (G.2.2.2 + 21)), some (.ref (G.2.2.2 + 34)), some (.int (iZ r)), some (.int (iZ w)), some (.int (iZ i)), some (.int (iZ t.1)), x6] [] := by
        intro s3 s' hs g1 g3 g4 g5 hgo x6
        have hI2 := sy_I hw hI hs
        refine e_iload (q := 113) dX7_reads_111 rfl rfl ?_
        refine e_bipush (q := 115) dX7_reads_113 rfl (by decide) ?_
        refine e_icmp_eq (q := 118) (tgt := 133) dX7_reads_115 rfl (by decide) (fun c115 => ?_) (fun c115 => ?_)
        · refine e_iconst (q := 134) dX7_reads_133 rfl ?_
          refine e_goto (tgt := 138) dX7_reads_134 (by decide) ?_
          refine e_istore (q := 140) (L' := [_, _, _, _, _, _, _]) dX7_reads_138 rfl (by decide) rfl rfl ?_
          refine e_iload (q := 142) dX7_reads_140 rfl rfl ?_
          refine e_if_ne (q := 145) (tgt := 149) dX7_reads_142 rfl (by decide) (fun c142 => ?_) (fun c142 => by exfalso; exact absurd c142 (by decide))
          refine e_iconst (q := 150) dX7_reads_149 rfl ?_
          refine e_istore_n (q := 151) (i := 3) (L' := [_, _, _, _, _, _, _]) dX7_reads_150 rfl rfl (by decide) rfl rfl ?_
          refine e_aload_n (q := 152) (i := 0) dX7_reads_151 rfl rfl rfl ?_
          refine e_getR (q := 155) dX7_reads_152 rfl fg_X7_9 (by first | assumption | rfl) rfl ?_
          refine e_Vv (q := 158) (vs := []) ok_X8_step ml_X7_60 dX7_reads_155 rfl ⟨_, _, rfl⟩ (by first | assumption | rfl) rfl rfl (Nat.le_of_ble_eq_true rfl) (by decide) (c_step (SF.ck g1 hC) (sy_nend hs)) (fun s155 hT => ?_)
          refine e_iinc (q := 161) (L' := [_, _, _, _, _, _, _]) dX7_reads_158 rfl rfl (by decide) rfl rfl ?_
          refine e_goto (tgt := 33) dX7_reads_161 (by decide) ?_
          have hwp : (0 : Int) = (if t.1 = 22 ∨ (14 ≤ t.1 ∧ t.1 ≤ 20) ∨ t.1 = 25 then 0 else 1) := (if_pos (Or.inl c115)).symm
          rw [hwp]
          refine ih _ rest _ _ s'.2.1 s'.2.2.1 s'.2.2.2.1 s'.2.2.2.2 _ _ (by simp only [List.length_cons] at hn; omega) (by omega) (by omega) (by split; exact Or.inl rfl; exact Or.inr rfl) ?_ hT.2 (g3.fr hT.1.1 (by decide) (by decide) (by decide) (by decide)) hI2.1 (hF.tr ((g1.1.mono (by decide)).tr (hT.1.1.mono (by decide)))) ?_ ?_ ?_ ?_ ?_
          · rw [← hE, hgo, ← hI2.2]
          · rw [hT.1.n, g1.2 2 (by decide) (by decide)]; exact e2
          · rw [(hT.1.1 36 (by decide)).1, (g1.1 36 (by decide)).1]; exact e36
          · rw [(hT.1.1 37 (by decide)).1, (g1.1 37 (by decide)).1]; exact e37
          · rw [hT.1.2 7 (by decide) (by decide) (by decide) (by decide), g4]; exact e7
          · rw [hT.1.2 8 (by decide) (by decide) (by decide) (by decide), g5]; exact e8
        · refine e_iload (q := 120) dX7_reads_118 rfl rfl ?_
          refine e_Sip (q := 123) (vs := [_]) ok_X3_isName ml_X7_56 dX7_reads_120 rfl rfl rfl (Nat.le_of_ble_eq_true rfl) (by decide) (c_X3_isName ⟨by omega, by omega⟩) ?_
          refine e_if_ne (q := 126) (tgt := 133) dX7_reads_123 rfl (by decide) (fun c123 => ?_) (fun c123 => ?_) (hx := by split <;> exact ⟨by decide, by decide⟩)
          · refine e_iconst (q := 134) dX7_reads_133 rfl ?_
            refine e_goto (tgt := 138) dX7_reads_134 (by decide) ?_
            refine e_istore (q := 140) (L' := [_, _, _, _, _, _, _]) dX7_reads_138 rfl (by decide) rfl rfl ?_
            refine e_iload (q := 142) dX7_reads_140 rfl rfl ?_
            refine e_if_ne (q := 145) (tgt := 149) dX7_reads_142 rfl (by decide) (fun c142 => ?_) (fun c142 => by exfalso; exact absurd c142 (by decide))
            refine e_iconst (q := 150) dX7_reads_149 rfl ?_
            refine e_istore_n (q := 151) (i := 3) (L' := [_, _, _, _, _, _, _]) dX7_reads_150 rfl rfl (by decide) rfl rfl ?_
            refine e_aload_n (q := 152) (i := 0) dX7_reads_151 rfl rfl rfl ?_
            refine e_getR (q := 155) dX7_reads_152 rfl fg_X7_9 (by first | assumption | rfl) rfl ?_
            refine e_Vv (q := 158) (vs := []) ok_X8_step ml_X7_60 dX7_reads_155 rfl ⟨_, _, rfl⟩ (by first | assumption | rfl) rfl rfl (Nat.le_of_ble_eq_true rfl) (by decide) (c_step (SF.ck g1 hC) (sy_nend hs)) (fun s155 hT => ?_)
            refine e_iinc (q := 161) (L' := [_, _, _, _, _, _, _]) dX7_reads_158 rfl rfl (by decide) rfl rfl ?_
            refine e_goto (tgt := 33) dX7_reads_161 (by decide) ?_
            have hwp : (0 : Int) = (if t.1 = 22 ∨ (14 ≤ t.1 ∧ t.1 ≤ 20) ∨ t.1 = 25 then 0 else 1) := (if_pos (Or.inr (Or.inl (Classical.byContradiction (fun q => c123 (if_neg q)))))).symm
            rw [hwp]
            refine ih _ rest _ _ s'.2.1 s'.2.2.1 s'.2.2.2.1 s'.2.2.2.2 _ _ (by simp only [List.length_cons] at hn; omega) (by omega) (by omega) (by split; exact Or.inl rfl; exact Or.inr rfl) ?_ hT.2 (g3.fr hT.1.1 (by decide) (by decide) (by decide) (by decide)) hI2.1 (hF.tr ((g1.1.mono (by decide)).tr (hT.1.1.mono (by decide)))) ?_ ?_ ?_ ?_ ?_
            · rw [← hE, hgo, ← hI2.2]
            · rw [hT.1.n, g1.2 2 (by decide) (by decide)]; exact e2
            · rw [(hT.1.1 36 (by decide)).1, (g1.1 36 (by decide)).1]; exact e36
            · rw [(hT.1.1 37 (by decide)).1, (g1.1 37 (by decide)).1]; exact e37
            · rw [hT.1.2 7 (by decide) (by decide) (by decide) (by decide), g4]; exact e7
            · rw [hT.1.2 8 (by decide) (by decide) (by decide) (by decide), g5]; exact e8
          · refine e_iload (q := 128) dX7_reads_126 rfl rfl ?_
            refine e_bipush (q := 130) dX7_reads_128 rfl (by decide) ?_
            refine e_icmp_ne (q := 133) (tgt := 137) dX7_reads_130 rfl (by decide) (fun c130 => ?_) (fun c130 => ?_)
            · refine e_iconst (q := 138) dX7_reads_137 rfl ?_
              refine e_istore (q := 140) (L' := [_, _, _, _, _, _, _]) dX7_reads_138 rfl (by decide) rfl rfl ?_
              refine e_iload (q := 142) dX7_reads_140 rfl rfl ?_
              refine e_if_ne (q := 145) (tgt := 149) dX7_reads_142 rfl (by decide) (fun c142 => by exfalso; exact c142 rfl) (fun c142 => ?_)
              refine e_iconst (q := 146) dX7_reads_145 rfl ?_
              refine e_goto (tgt := 150) dX7_reads_146 (by decide) ?_
              refine e_istore_n (q := 151) (i := 3) (L' := [_, _, _, _, _, _, _]) dX7_reads_150 rfl rfl (by decide) rfl rfl ?_
              refine e_aload_n (q := 152) (i := 0) dX7_reads_151 rfl rfl rfl ?_
              refine e_getR (q := 155) dX7_reads_152 rfl fg_X7_9 (by first | assumption | rfl) rfl ?_
              refine e_Vv (q := 158) (vs := []) ok_X8_step ml_X7_60 dX7_reads_155 rfl ⟨_, _, rfl⟩ (by first | assumption | rfl) rfl rfl (Nat.le_of_ble_eq_true rfl) (by decide) (c_step (SF.ck g1 hC) (sy_nend hs)) (fun s155 hT => ?_)
              refine e_iinc (q := 161) (L' := [_, _, _, _, _, _, _]) dX7_reads_158 rfl rfl (by decide) rfl rfl ?_
              refine e_goto (tgt := 33) dX7_reads_161 (by decide) ?_
              have hwp : (1 : Int) = (if t.1 = 22 ∨ (14 ≤ t.1 ∧ t.1 ≤ 20) ∨ t.1 = 25 then 0 else 1) := by
                rw [if_neg]
                intro q
                rcases q with q | q | q
                · exact c115 q
                · exact absurd ((if_pos q).symm.trans c123) (by decide)
                · exact c130 q
              rw [hwp]
              refine ih _ rest _ _ s'.2.1 s'.2.2.1 s'.2.2.2.1 s'.2.2.2.2 _ _ (by simp only [List.length_cons] at hn; omega) (by omega) (by omega) (by split; exact Or.inl rfl; exact Or.inr rfl) ?_ hT.2 (g3.fr hT.1.1 (by decide) (by decide) (by decide) (by decide)) hI2.1 (hF.tr ((g1.1.mono (by decide)).tr (hT.1.1.mono (by decide)))) ?_ ?_ ?_ ?_ ?_
              · rw [← hE, hgo, ← hI2.2]
              · rw [hT.1.n, g1.2 2 (by decide) (by decide)]; exact e2
              · rw [(hT.1.1 36 (by decide)).1, (g1.1 36 (by decide)).1]; exact e36
              · rw [(hT.1.1 37 (by decide)).1, (g1.1 37 (by decide)).1]; exact e37
              · rw [hT.1.2 7 (by decide) (by decide) (by decide) (by decide), g4]; exact e7
              · rw [hT.1.2 8 (by decide) (by decide) (by decide) (by decide), g5]; exact e8
            · refine e_iconst (q := 134) dX7_reads_133 rfl ?_
              refine e_goto (tgt := 138) dX7_reads_134 (by decide) ?_
              refine e_istore (q := 140) (L' := [_, _, _, _, _, _, _]) dX7_reads_138 rfl (by decide) rfl rfl ?_
              refine e_iload (q := 142) dX7_reads_140 rfl rfl ?_
              refine e_if_ne (q := 145) (tgt := 149) dX7_reads_142 rfl (by decide) (fun c142 => ?_) (fun c142 => by exfalso; exact absurd c142 (by decide))
              refine e_iconst (q := 150) dX7_reads_149 rfl ?_
              refine e_istore_n (q := 151) (i := 3) (L' := [_, _, _, _, _, _, _]) dX7_reads_150 rfl rfl (by decide) rfl rfl ?_
              refine e_aload_n (q := 152) (i := 0) dX7_reads_151 rfl rfl rfl ?_
              refine e_getR (q := 155) dX7_reads_152 rfl fg_X7_9 (by first | assumption | rfl) rfl ?_
              refine e_Vv (q := 158) (vs := []) ok_X8_step ml_X7_60 dX7_reads_155 rfl ⟨_, _, rfl⟩ (by first | assumption | rfl) rfl rfl (Nat.le_of_ble_eq_true rfl) (by decide) (c_step (SF.ck g1 hC) (sy_nend hs)) (fun s155 hT => ?_)
              refine e_iinc (q := 161) (L' := [_, _, _, _, _, _, _]) dX7_reads_158 rfl rfl (by decide) rfl rfl ?_
              refine e_goto (tgt := 33) dX7_reads_161 (by decide) ?_
              have hwp : (0 : Int) = (if t.1 = 22 ∨ (14 ≤ t.1 ∧ t.1 ≤ 20) ∨ t.1 = 25 then 0 else 1) := (if_pos (Or.inr (Or.inr c130))).symm
              rw [hwp]
              refine ih _ rest _ _ s'.2.1 s'.2.2.1 s'.2.2.2.1 s'.2.2.2.2 _ _ (by simp only [List.length_cons] at hn; omega) (by omega) (by omega) (by split; exact Or.inl rfl; exact Or.inr rfl) ?_ hT.2 (g3.fr hT.1.1 (by decide) (by decide) (by decide) (by decide)) hI2.1 (hF.tr ((g1.1.mono (by decide)).tr (hT.1.1.mono (by decide)))) ?_ ?_ ?_ ?_ ?_
              · rw [← hE, hgo, ← hI2.2]
              · rw [hT.1.n, g1.2 2 (by decide) (by decide)]; exact e2
              · rw [(hT.1.1 36 (by decide)).1, (g1.1 36 (by decide)).1]; exact e36
              · rw [(hT.1.1 37 (by decide)).1, (g1.1 37 (by decide)).1]; exact e37
              · rw [hT.1.2 7 (by decide) (by decide) (by decide) (by decide), g4]; exact e7
              · rw [hT.1.2 8 (by decide) (by decide) (by decide) (by decide), g5]; exact e8
      refine e_iload (q := 35) dX7_reads_33 rfl rfl ?_
      refine e_sipush (q := 38) dX7_reads_35 rfl (by decide) ?_
      refine e_icmp_gt (q := 41) (tgt := 164) dX7_reads_38 rfl (by decide) (fun c38 => absurd c38 (by omega)) (fun c38 => ?_)
      refine e_aload_n (q := 42) (i := 0) dX7_reads_41 rfl rfl rfl ?_
      refine e_getR (q := 45) dX7_reads_42 rfl fg_X7_9 (by first | assumption | rfl) rfl ?_
      refine e_getI (q := 48) (jz := 4) dX7_reads_45 rfl fg_X7_37 rfl (by first | assumption | rfl) rfl ?_
      rw [k4]
      refine e_istore (q := 50) (L' := [_, _, _, _, _, _, _]) dX7_reads_48 rfl (by decide) rfl rfl ?_
      refine e_iload_n (q := 51) (i := 3) dX7_reads_50 rfl rfl rfl ?_
      refine e_if_ne (q := 54) (tgt := 86) dX7_reads_51 rfl (by decide) (fun c51 => ?_) (fun c51 => ?_) (hx := by rcases hw with q | q <;> rw [q] <;> exact ⟨by decide, by decide⟩)
      · have ew : w = 1 := by rcases hw with q | q; exact absurd q c51; exact q
        subst ew
        refine e_iload_n (q := 87) (i := 3) dX7_reads_86 rfl rfl rfl ?_
        refine e_if_eq (q := 90) (tgt := 101) dX7_reads_87 rfl (by decide) (fun c87 => absurd c87 (by decide)) (fun c87 => ?_)
        refine e_aload_n (q := 91) (i := 0) dX7_reads_90 rfl rfl rfl ?_
        refine e_aload_n (q := 92) (i := 1) dX7_reads_91 rfl rfl rfl ?_
        refine e_Vi (q := 95) (vs := [_]) ok_X7_startsPart ml_X7_49 dX7_reads_92 rfl ⟨_, _, rfl⟩ (by first | assumption | rfl) rfl rfl (Nat.le_of_ble_eq_true rfl) (by decide) (c_X7_startsPart hC hR hI) (fun z92 s92 h92 => ?_)
        obtain ⟨g1, g2⟩ := h92
        cases hs : sy1 t (1, S, o, c, K) with
        | inl f =>
          rw [hs] at g2
          have g2 : z92 = 0 ∧ s92.1 19 7 = f ∧ s92.1 19 8 = t.2.1 := g2
          have hgo : syRun (t :: rest) (1, S, o, c, K) = .inl (f, t.2.1) := by rw [syRun_go (fun q => absurd rfl q.1), hs]
          rw [g2.1]
          refine e_if_eq (q := 98) (tgt := 109) dX7_reads_95 rfl (by decide) (fun c95 => ?_) (fun c95 => absurd (rfl) c95)
          refine e_iconst (q := 110) dX7_reads_109 rfl ?_
          exact r_z dX7_reads_110 rfl (by first | exact Or.inl rfl | exact Or.inr rfl | omega) ⟨⟨hF.tr (g1.1.mono (by decide)), by rw [g1.2 2 (by decide) (by decide)]; exact e2⟩, by rw [← hE, hgo]; exact ⟨rfl, g2.2.1, g2.2.2⟩⟩
        | inr s' =>
          rw [hs] at g2
          have g2 : z92 = 1 ∧ SyR s92 s'.2.1 s'.2.2.1 s'.2.2.2.1 s'.2.2.2.2 ∧ s92.1 19 7 = τ.1 19 7 ∧ s92.1 19 8 = τ.1 19 8 := g2
          have hgo : syRun (t :: rest) (1, S, o, c, K) = syRun rest s' := by rw [syRun_go (fun q => absurd rfl q.1), hs]
          rw [g2.1]
          refine e_if_eq (q := 98) (tgt := 109) dX7_reads_95 rfl (by decide) (fun c95 => absurd c95 (by decide)) (fun c95 => ?_)
          refine e_goto (tgt := 111) dX7_reads_98 (by decide) ?_
          exact tail _ s' hs g1 g2.2.1 g2.2.2.1 g2.2.2.2 hgo _
      · have ew : w = 0 := c51
        subst ew
        refine e_iload (q := 56) dX7_reads_54 rfl rfl ?_
        refine e_bipush (q := 58) dX7_reads_56 rfl (by decide) ?_
        refine e_icmp_ne (q := 61) (tgt := 86) dX7_reads_58 rfl (by decide) (fun c58 => ?_) (fun c58 => ?_) (hx := ⟨by omega, by omega⟩)
        · have hnd : ¬ ((0 : Int) ≠ 1 ∧ t.1 = 23 ∧ o = 0) := fun q => c58 q.2.1
          refine e_iload_n (q := 87) (i := 3) dX7_reads_86 rfl rfl rfl ?_
          refine e_if_eq (q := 90) (tgt := 101) dX7_reads_87 rfl (by decide) (fun c87 => ?_) (fun c87 => absurd (by omega) c87)
          refine e_aload_n (q := 102) (i := 0) dX7_reads_101 rfl rfl rfl ?_
          refine e_aload_n (q := 103) (i := 1) dX7_reads_102 rfl rfl rfl ?_
          refine e_Vi (q := 106) (vs := [_]) ok_X7_followsPart ml_X7_53 dX7_reads_103 rfl ⟨_, _, rfl⟩ (by first | assumption | rfl) rfl rfl (Nat.le_of_ble_eq_true rfl) (by decide) (c_X7_followsPart hC hR hI) (fun z103 s103 h103 => ?_)
          obtain ⟨g1, g2⟩ := h103
          cases hs : sy1 t (0, S, o, c, K) with
          | inl f =>
            rw [hs] at g2
            have g2 : z103 = 0 ∧ s103.1 19 7 = f ∧ s103.1 19 8 = t.2.1 := g2
            have hgo : syRun (t :: rest) (0, S, o, c, K) = .inl (f, t.2.1) := by rw [syRun_go (hnd), hs]
            rw [g2.1]
            refine e_if_ne (q := 109) (tgt := 111) dX7_reads_106 rfl (by decide) (fun c106 => absurd c106 (fun q => q rfl)) (fun c106 => ?_)
            refine e_iconst (q := 110) dX7_reads_109 rfl ?_
            exact r_z dX7_reads_110 rfl (by first | exact Or.inl rfl | exact Or.inr rfl | omega) ⟨⟨hF.tr (g1.1.mono (by decide)), by rw [g1.2 2 (by decide) (by decide)]; exact e2⟩, by rw [← hE, hgo]; exact ⟨rfl, g2.2.1, g2.2.2⟩⟩
          | inr s' =>
            rw [hs] at g2
            have g2 : z103 = 1 ∧ SyR s103 s'.2.1 s'.2.2.1 s'.2.2.2.1 s'.2.2.2.2 ∧ s103.1 19 7 = τ.1 19 7 ∧ s103.1 19 8 = τ.1 19 8 := g2
            have hgo : syRun (t :: rest) (0, S, o, c, K) = syRun rest s' := by rw [syRun_go (hnd), hs]
            rw [g2.1]
            refine e_if_ne (q := 109) (tgt := 111) dX7_reads_106 rfl (by decide) (fun c106 => ?_) (fun c106 => by exfalso; exact absurd c106 (by decide))
            exact tail _ s' hs g1 g2.2.1 g2.2.2.1 g2.2.2.2 hgo _
        · refine e_aload_n (q := 62) (i := 0) dX7_reads_61 rfl rfl rfl ?_
          refine e_getI (q := 65) (jz := 3) dX7_reads_62 rfl fg_X7_34 rfl (by first | assumption | rfl) rfl ?_
          rw [r3]
          refine e_if_ne (q := 68) (tgt := 86) dX7_reads_65 rfl (by decide) (fun c65 => ?_) (fun c65 => ?_) (hx := ⟨by omega, by omega⟩)
          · have hnd : ¬ ((0 : Int) ≠ 1 ∧ t.1 = 23 ∧ o = 0) := fun q => c65 q.2.2
            refine e_iload_n (q := 87) (i := 3) dX7_reads_86 rfl rfl rfl ?_
            refine e_if_eq (q := 90) (tgt := 101) dX7_reads_87 rfl (by decide) (fun c87 => ?_) (fun c87 => absurd (by omega) c87)
            refine e_aload_n (q := 102) (i := 0) dX7_reads_101 rfl rfl rfl ?_
            refine e_aload_n (q := 103) (i := 1) dX7_reads_102 rfl rfl rfl ?_
            refine e_Vi (q := 106) (vs := [_]) ok_X7_followsPart ml_X7_53 dX7_reads_103 rfl ⟨_, _, rfl⟩ (by first | assumption | rfl) rfl rfl (Nat.le_of_ble_eq_true rfl) (by decide) (c_X7_followsPart hC hR hI) (fun z103 s103 h103 => ?_)
            obtain ⟨g1, g2⟩ := h103
            cases hs : sy1 t (0, S, o, c, K) with
            | inl f =>
              rw [hs] at g2
              have g2 : z103 = 0 ∧ s103.1 19 7 = f ∧ s103.1 19 8 = t.2.1 := g2
              have hgo : syRun (t :: rest) (0, S, o, c, K) = .inl (f, t.2.1) := by rw [syRun_go (hnd), hs]
              rw [g2.1]
              refine e_if_ne (q := 109) (tgt := 111) dX7_reads_106 rfl (by decide) (fun c106 => absurd c106 (fun q => q rfl)) (fun c106 => ?_)
              refine e_iconst (q := 110) dX7_reads_109 rfl ?_
              exact r_z dX7_reads_110 rfl (by first | exact Or.inl rfl | exact Or.inr rfl | omega) ⟨⟨hF.tr (g1.1.mono (by decide)), by rw [g1.2 2 (by decide) (by decide)]; exact e2⟩, by rw [← hE, hgo]; exact ⟨rfl, g2.2.1, g2.2.2⟩⟩
            | inr s' =>
              rw [hs] at g2
              have g2 : z103 = 1 ∧ SyR s103 s'.2.1 s'.2.2.1 s'.2.2.2.1 s'.2.2.2.2 ∧ s103.1 19 7 = τ.1 19 7 ∧ s103.1 19 8 = τ.1 19 8 := g2
              have hgo : syRun (t :: rest) (0, S, o, c, K) = syRun rest s' := by rw [syRun_go (hnd), hs]
              rw [g2.1]
              refine e_if_ne (q := 109) (tgt := 111) dX7_reads_106 rfl (by decide) (fun c106 => ?_) (fun c106 => by exfalso; exact absurd c106 (by decide))
              exact tail _ s' hs g1 g2.2.1 g2.2.2.1 g2.2.2.2 hgo _
          · refine e_aload_n (q := 69) (i := 0) dX7_reads_68 rfl rfl rfl ?_
            refine e_aload_n (q := 70) (i := 1) dX7_reads_69 rfl rfl rfl ?_
            refine e_iconst (q := 71) dX7_reads_70 rfl ?_
            refine e_Vv (q := 74) (vs := [_, _]) ok_X7_settle ml_X7_42 dX7_reads_71 rfl ⟨_, _, rfl⟩ (by first | assumption | rfl) rfl rfl (Nat.le_of_ble_eq_true rfl) (by decide) (c_X7_settle hR hI (by decide) (by decide)) (fun s71 h71 => ?_)
            obtain ⟨hR1, hF1, e19⟩ := h71
            rw [show max (0 : Int) 1 = 1 by decide] at hR1
            obtain ⟨q1, q2, q3, q4, q5, q6⟩ := id hR1
            refine e_aload_n (q := 75) (i := 1) dX7_reads_74 rfl rfl rfl ?_
            refine e_getR (q := 78) dX7_reads_75 rfl fg_X7_46 (by first | assumption | rfl) rfl ?_
            refine e_iload_n (q := 79) (i := 2) dX7_reads_78 rfl rfl rfl ?_
            refine e_aload_n (q := 80) (i := 1) dX7_reads_79 rfl rfl rfl ?_
            refine e_getI (q := 83) (jz := 4) dX7_reads_80 rfl fg_X7_24 rfl (by first | assumption | rfl) rfl ?_
            refine e_iast (q := 84) dX7_reads_83 rfl (by first | assumption | rfl) ?_
            refine e_iconst (q := 85) dX7_reads_84 rfl ?_
            exact r_z dX7_reads_85 rfl (by first | exact Or.inl rfl | exact Or.inr rfl | omega) ⟨⟨(hF.tr (hF1.1.mono (by decide))).sI (by decide) _ _, by rw [sI_ne _ (by decide), e19]; exact e2⟩, by
    rw [← hE, syRun_end ⟨by show (0 : Int) ≠ 1; decide, c58, c65⟩]
    refine ⟨rfl, ?_, ?_, ?_, ?_, ?_, ?_, ?_⟩
    · exact (hF1.ck hC).fr ((Fr.rf [37] s71).sI (by decide) _ _) (by decide) (by decide) (fun j _ _ => by rw [sI_ne _ (by decide)])
    · rw [sI_ne _ (by decide)]; exact q5
    · rw [sI_ne _ (by decide)]; exact q6
    · rw [sI_ne _ (by decide), (hF1.1 36 (by decide)).1]; exact e36
    · rw [sI_uf, (hF1.1 37 (by decide)).1, e37, q5]
    · rw [sI_ne _ (by decide), e19]; exact e7
    · rw [sI_ne _ (by decide), e19]; exact e8⟩
  refine e_entry om_X7_reads (Nat.le_of_ble_eq_true rfl) (L := [some (.ref (G.2.2.2 + 21)), some (.ref (G.2.2.2 + 34)), some (.int (iZ r)), none, none, none, none]) rfl ?_
  refine e_aload_n (q := 1) (i := 1) dX7_reads_0 rfl rfl rfl ?_
  refine e_getR (q := 4) dX7_reads_1 rfl fg_X7_21 (by first | assumption | rfl) rfl ?_
  refine e_iload_n (q := 5) (i := 2) dX7_reads_4 rfl rfl rfl ?_
  refine e_aload_n (q := 6) (i := 1) dX7_reads_5 rfl rfl rfl ?_
  refine e_getI (q := 9) (jz := 4) dX7_reads_6 rfl fg_X7_24 rfl (by first | assumption | rfl) rfl ?_
  refine e_iast (q := 10) dX7_reads_9 rfl (by first | assumption | rfl) ?_
  refine e_aload_n (q := 11) (i := 0) dX7_reads_10 rfl rfl rfl ?_
  refine e_aload_n (q := 12) (i := 1) dX7_reads_11 rfl rfl rfl ?_
  refine e_getI (q := 15) (jz := 4) dX7_reads_12 rfl fg_X7_24 rfl (by first | assumption | rfl) rfl ?_
  refine e_putI (q := 18) (jz := 4) dX7_reads_15 rfl fp_X7_28 rfl (by first | assumption | rfl) rfl ?_
  refine e_aload_n (q := 19) (i := 0) dX7_reads_18 rfl rfl rfl ?_
  refine e_iconst (q := 20) dX7_reads_19 rfl ?_
  refine e_putI (q := 23) (jz := 2) dX7_reads_20 rfl fp_X7_31 rfl (by first | assumption | rfl) rfl ?_
  refine e_aload_n (q := 24) (i := 0) dX7_reads_23 rfl rfl rfl ?_
  refine e_iconst (q := 25) dX7_reads_24 rfl ?_
  refine e_putI (q := 28) (jz := 3) dX7_reads_25 rfl fp_X7_34 rfl (by first | assumption | rfl) rfl ?_
  refine e_iconst (q := 29) dX7_reads_28 rfl ?_
  refine e_istore_n (q := 30) (i := 3) (L' := [_, _, _, _, _, _, _]) dX7_reads_29 rfl rfl (by decide) rfl rfl ?_
  refine e_iconst (q := 31) dX7_reads_30 rfl ?_
  refine e_istore (q := 33) (L' := [_, _, _, _, _, _, _]) dX7_reads_31 rfl (by decide) rfl rfl ?_
  refine lp ts0.length _ ts0 1 0 [] 0 (σ.1 34 4) (σ.1 34 4, σ.1 35) _ _ (Nat.le_refl _) (by have := hlen; omega) (by decide) (Or.inr rfl) hR0.symm ?_ ⟨trivial, ?_, ?_, ?_, ?_, ?_⟩ ⟨fun s hs => (nomatch hs), by show σ.1 34 4 + 0 = σ.1 34 4; omega, rfl, hu0, hu1, by decide⟩ (((((Fr.rf _ σ).sI (by decide) _ _).sI (by decide) _ _).sI (by decide) _ _).sI (by decide) _ _) ?_ ?_ ?_ ?_ ?_
  · exact hC.fr (C := [36, 21]) ((((((Fr.rf _ σ).sI (by decide) _ _).sI (by decide) _ _).sI (by decide) _ _).sI (by decide) _ _)) (by decide) (by decide) (fun j _ _ => by rw [sI_ne _ (by decide), sI_ne _ (by decide), sI_ne _ (by decide), sI_ne _ (by decide)])
  · rw [sI_1, if_neg (by decide), sI_1, if_pos ⟨rfl, rfl⟩]; rfl
  · rw [sI_1, if_pos ⟨rfl, rfl⟩]
  · rw [sI_1, if_neg (by decide), sI_1, if_neg (by decide), sI_1, if_pos ⟨rfl, rfl⟩, sI_ne _ (by decide)]
  · rw [sI_ne _ (by decide), sI_ne _ (by decide), sI_ne _ (by decide), sI_ne _ (by decide)]
  · rw [sI_ne _ (by decide), sI_ne _ (by decide), sI_ne _ (by decide), sI_ne _ (by decide)]
  · rw [sI_ne _ (by decide), sI_ne _ (by decide), sI_ne _ (by decide), sI_ne _ (by decide)]
  · rw [sI_ne _ (by decide), sI_ne _ (by decide), sI_ne _ (by decide), sI_uf]
  · rw [sI_ne _ (by decide), sI_ne _ (by decide), sI_ne _ (by decide), sI_ne _ (by decide)]
  · rw [sI_ne _ (by decide), sI_ne _ (by decide), sI_ne _ (by decide), sI_ne _ (by decide)]
  · rw [sI_ne _ (by decide), sI_ne _ (by decide), sI_ne _ (by decide), sI_ne _ (by decide)]

