/-- a token as the model holds it: its sort, its value -/
def MV (t : Tk) (s v : Int) : Prop := (0 ≤ t.1 → t.1 ≤ 20 → s = 0 ∧ v = t.1) ∧ (t.1 = 21 → s = 1 ∧ v = t.2.2) ∧ (t.1 = 22 → s = 2 ∧ 0 ≤ v ∧ min v 100000 = t.2.2) ∧ (23 ≤ t.1 → t.1 ≤ 35 → s = 3 ∧ v = sgC t.1) ∧ (t.1 = 36 → s = 5) ∧ (t.1 = 37 → s = 4) ∧ R32 v
def MS (σ σ' : Sg) (T : Tk × Int) : Prop := Fm [] [22, 23, 24, 25] σ σ' ∧ σ'.1 82 23 = T.1.2.1 ∧ σ'.1 82 22 = T.2 ∧ MV T.1 (σ'.1 82 24) (σ'.1 82 25)
theorem hv_lt {τ : Sg} (h : τ.1 82 22 < τ.1 82 21) : hv τ = τ.1 83 (τ.1 82 22) := if_pos h
theorem hv_ge {τ : Sg} (h : ¬ τ.1 82 22 < τ.1 82 21) : hv τ = -1 := if_neg h

theorem Fm22 {σ τ : Sg} (h : Fm [] [22] σ τ) : Fm [] [22, 23, 24, 25] σ τ := h.mono (by decide) (by decide)

set_option maxHeartbeats 16000000 in
theorem c_X12_token {G : Gx} {σ : Sg} (hM : MTp σ) (h0 : 0 ≤ σ.1 82 22) (h1 : σ.1 82 22 ≤ σ.1 82 21) (hv25 : R32 (σ.1 82 25)) : Con G 6 mX12_token [.ref (G.2.2.2 + 82)] σ (pV (fun σ' => MS σ σ' (tok (σ.1 83) (σ.1 82 21) (σ.1 82 22)))) := by
  obtain ⟨T, hT⟩ : ∃ T, T = tok (σ.1 83) (σ.1 82 21) (σ.1 82 22) := ⟨_, rfl⟩
  rw [← hT]
  obtain ⟨P, hPd⟩ : ∃ P, P = sc isBl (σ.1 83) (σ.1 82 21) (σ.1 82 22) := ⟨_, rfl⟩
  have hPi := sc_in (P := isBl) (b := σ.1 83) (n := σ.1 82 21) (a := σ.1 82 22)
  rw [← hPd] at hPi
  have hPi1 := hPi.1
  have hPi2 := hPi.2.1 h1
  have hm1 := hM.1
  have ld : ∀ {c : Int}, isDg (σ.1 83 P) → ¬ isLt (σ.1 83 P) → ¬ σ.1 82 21 ≤ P → ∀ (n : Nat) (τ : Sg) (k : Nat), σ.1 82 21 - τ.1 82 22 ≤ n → Fm [] [22, 23, 24, 25] σ τ → τ.1 82 23 = P → τ.1 82 24 = 2 → τ.1 82 22 = P + k → τ.1 82 22 ≤ σ.1 82 21 → (∀ j, P ≤ j → j < P + k → 48 ≤ σ.1 83 j ∧ σ.1 83 j ≤ 57) → sc isDg (σ.1 83) (σ.1 82 21) (P + k) = sc isDg (σ.1 83) (σ.1 82 21) P → τ.1 82 25 = nvF 100000 (σ.1 83) k P 0 → J G 6 mX12_token (pV (fun σ' => MS σ σ' T)) τ 162 [some (.ref (G.2.2.2 + 82)), some (.int (iZ c))] [] := by
    intro c hd hl hPn n
    induction n with
    | zero =>
      intro τ k hn hF e23 e24 e22 hle hdg hsc e25
      have f21 : τ.1 82 21 = σ.1 82 21 := hF.2 21 (by decide)
      have f83 : τ.1 83 = σ.1 83 := hF.c (by decide)
      have hMt : MTp τ := hM.fm hF (by decide)
      have hnv := nvF_in (cap := 100000) (b := σ.1 83) (by decide) k P 0 (by decide) (by decide) hdg
      refine e_aload_n (q := 163) (i := 0) dX12_token_162 rfl rfl rfl ?_
      refine e_Vip (q := 166) (vs := []) ok_X12_here ml_X12_148 dX12_token_163 rfl ⟨_, _, rfl⟩ (by first | assumption | rfl) rfl rfl (Nat.le_of_ble_eq_true rfl) (by decide) (c_X12_here hMt (by omega) (by omega)) ?_
      refine e_Sip (q := 169) (vs := [_]) ok_X12_isDigit ml_X12_171 dX12_token_166 rfl rfl rfl (Nat.le_of_ble_eq_true rfl) (by decide) (c_X12_isDigit ⟨by have := hv_in hMt (by omega); omega, by have := hv_in hMt (by omega); omega⟩) ?_
      rw [hv_ge (by omega), if_neg (by omega)]
      refine e_if_eq (q := 172) (tgt := 225) dX12_token_169 rfl (by decide) (fun c169 => ?_) (fun c169 => by exfalso; omega)
      have hend : ¬ (P + k < σ.1 82 21 ∧ isDg (σ.1 83 (P + k))) := fun q => by have := q.1; omega
      rw [sc_neg hend] at hsc
      refine r_v dX12_token_225 rfl ⟨hF, ?_, ?_, ?_⟩
      · rw [hT, tok_dg hPd hPn hl hd rfl]; exact e23
      · rw [hT, tok_dg hPd hPn hl hd rfl]; rw [e22]; exact hsc
      · rw [hT, tok_dg hPd hPn hl hd rfl, e24, e25]
        have hk : (sc isDg (σ.1 83) (σ.1 82 21) P - P).toNat = k := by omega
        refine ⟨fun q1 q2 => absurd (show (22 : Int) ≤ 20 from q2) (by decide), fun q => absurd (show (22 : Int) = 21 from q) (by decide), fun _ => ⟨rfl, hnv.1, ?_⟩, fun q => absurd (show (23 : Int) ≤ 22 from q) (by decide), fun q => absurd (show (22 : Int) = 36 from q) (by decide), fun q => absurd (show (22 : Int) = 37 from q) (by decide), ⟨by omega, by omega⟩⟩
        show min (nvF 100000 (σ.1 83) k P 0) 100000 = min (nvF 100000 (σ.1 83) (sc isDg (σ.1 83) (σ.1 82 21) P - P).toNat P 0) 100000
        rw [hk]
    | succ n ih =>
      intro τ k hn hF e23 e24 e22 hle hdg hsc e25
      have f21 : τ.1 82 21 = σ.1 82 21 := hF.2 21 (by decide)
      have f83 : τ.1 83 = σ.1 83 := hF.c (by decide)
      have hMt : MTp τ := hM.fm hF (by decide)
      have hnv := nvF_in (cap := 100000) (b := σ.1 83) (by decide) k P 0 (by decide) (by decide) hdg
      refine e_aload_n (q := 163) (i := 0) dX12_token_162 rfl rfl rfl ?_
      refine e_Vip (q := 166) (vs := []) ok_X12_here ml_X12_148 dX12_token_163 rfl ⟨_, _, rfl⟩ (by first | assumption | rfl) rfl rfl (Nat.le_of_ble_eq_true rfl) (by decide) (c_X12_here hMt (by omega) (by omega)) ?_
      refine e_Sip (q := 169) (vs := [_]) ok_X12_isDigit ml_X12_171 dX12_token_166 rfl rfl rfl (Nat.le_of_ble_eq_true rfl) (by decide) (c_X12_isDigit ⟨by have := hv_in hMt (by omega); omega, by have := hv_in hMt (by omega); omega⟩) ?_
      by_cases hlt : P + k < σ.1 82 21
      · have hh : hv τ = σ.1 83 (P + k) := by rw [hv_lt (by omega), f83, e22]
        rw [hh]
        by_cases hdk : 48 ≤ σ.1 83 (P + k) ∧ σ.1 83 (P + k) ≤ 57
        · rw [if_pos hdk]
          refine e_if_eq (q := 172) (tgt := 225) dX12_token_169 rfl (by decide) (fun c169 => by exfalso; omega) (fun c169 => ?_)
          refine e_aload_n (q := 173) (i := 0) dX12_token_172 rfl rfl rfl ?_
          refine e_aload_n (q := 174) (i := 0) dX12_token_173 rfl rfl rfl ?_
          refine e_getI (q := 177) (jz := 25) dX12_token_174 rfl fg_X12_165 rfl (by first | assumption | rfl) rfl ?_
          rw [e25]
          refine e_ldc (q := 179) (z := 99999) dX12_token_177 rfl kw_X12_174 (by decide) ?_
          refine e_icmp_le (q := 182) (tgt := 189) dX12_token_179 rfl (by decide) (fun c179 => ?_) (fun c179 => ?_) (hx := ⟨by omega, by omega⟩)
          · refine e_bipush (q := 191) dX12_token_189 rfl (by decide) ?_
            refine e_aload_n (q := 192) (i := 0) dX12_token_191 rfl rfl rfl ?_
            refine e_getI (q := 195) (jz := 25) dX12_token_192 rfl fg_X12_165 rfl (by first | assumption | rfl) rfl ?_
            rw [e25]
            refine e_imul (q := 196) dX12_token_195 rfl ?_
            refine e_aload_n (q := 197) (i := 0) dX12_token_196 rfl rfl rfl ?_
            refine e_Vip (q := 200) (vs := []) ok_X12_here ml_X12_148 dX12_token_197 rfl ⟨_, _, rfl⟩ (by first | assumption | rfl) rfl rfl (Nat.le_of_ble_eq_true rfl) (by decide) (c_X12_here hMt (by omega) (by omega)) ?_
            rw [hh]
            refine e_iadd (q := 201) dX12_token_200 rfl ?_
            refine e_bipush (q := 203) dX12_token_201 rfl (by decide) ?_
            refine e_isub (q := 204) dX12_token_203 rfl ?_
            refine e_putI (q := 207) (jz := 25) dX12_token_204 rfl fp_X12_165 rfl (by first | assumption | rfl) rfl ?_
            refine e_aload_n (q := 208) (i := 0) dX12_token_207 rfl rfl rfl ?_
            refine e_dup (q := 209) dX12_token_208 rfl rfl ?_
            refine e_getI (q := 212) (jz := 22) dX12_token_209 rfl fg_X12_142 rfl (by first | assumption | rfl) rfl ?_
            refine e_iconst (q := 213) dX12_token_212 rfl ?_
            refine e_iadd (q := 214) dX12_token_213 rfl ?_
            refine e_putI (q := 217) (jz := 22) dX12_token_214 rfl fp_X12_142 rfl (by first | assumption | rfl) rfl ?_
            refine e_goto (tgt := 162) dX12_token_217 (by decide) ?_
            refine ih _ (k + 1) ?_ ((hF.s82 (by decide) _).s82 (by decide) _) ?_ ?_ ?_ ?_ ?_ ?_ ?_
            · rw [sI_1, if_pos ⟨rfl, rfl⟩, sI_1, if_neg (by decide)]; omega
            · rw [sI_1, if_neg (by decide), sI_1, if_neg (by decide)]; exact e23
            · rw [sI_1, if_neg (by decide), sI_1, if_neg (by decide)]; exact e24
            · rw [sI_1, if_pos ⟨rfl, rfl⟩, sI_1, if_neg (by decide)]; omega
            · rw [sI_1, if_pos ⟨rfl, rfl⟩, sI_1, if_neg (by decide)]; omega
            · intro j a c
              rcases (show j < P + k ∨ j = P + k by omega) with q | q
              · exact hdg j a q
              · rw [q]; exact hdk
            · rw [← hsc, sc_pos ⟨hlt, hdk⟩, show P + ((k + 1 : Nat) : Int) = P + k + 1 by omega]
            · rw [sI_1, if_neg (by decide), sI_1, if_pos ⟨rfl, rfl⟩, nvF_snoc, if_pos (by omega)]
              omega
          · refine e_aload_n (q := 183) (i := 0) dX12_token_182 rfl rfl rfl ?_
            refine e_getI (q := 186) (jz := 25) dX12_token_183 rfl fg_X12_165 rfl (by first | assumption | rfl) rfl ?_
            rw [e25]
            refine e_goto (tgt := 204) dX12_token_186 (by decide) ?_
            refine e_putI (q := 207) (jz := 25) dX12_token_204 rfl fp_X12_165 rfl (by first | assumption | rfl) rfl ?_
            refine e_aload_n (q := 208) (i := 0) dX12_token_207 rfl rfl rfl ?_
            refine e_dup (q := 209) dX12_token_208 rfl rfl ?_
            refine e_getI (q := 212) (jz := 22) dX12_token_209 rfl fg_X12_142 rfl (by first | assumption | rfl) rfl ?_
            refine e_iconst (q := 213) dX12_token_212 rfl ?_
            refine e_iadd (q := 214) dX12_token_213 rfl ?_
            refine e_putI (q := 217) (jz := 22) dX12_token_214 rfl fp_X12_142 rfl (by first | assumption | rfl) rfl ?_
            refine e_goto (tgt := 162) dX12_token_217 (by decide) ?_
            refine ih _ (k + 1) ?_ ((hF.s82 (by decide) _).s82 (by decide) _) ?_ ?_ ?_ ?_ ?_ ?_ ?_
            · rw [sI_1, if_pos ⟨rfl, rfl⟩, sI_1, if_neg (by decide)]; omega
            · rw [sI_1, if_neg (by decide), sI_1, if_neg (by decide)]; exact e23
            · rw [sI_1, if_neg (by decide), sI_1, if_neg (by decide)]; exact e24
            · rw [sI_1, if_pos ⟨rfl, rfl⟩, sI_1, if_neg (by decide)]; omega
            · rw [sI_1, if_pos ⟨rfl, rfl⟩, sI_1, if_neg (by decide)]; omega
            · intro j a c
              rcases (show j < P + k ∨ j = P + k by omega) with q | q
              · exact hdg j a q
              · rw [q]; exact hdk
            · rw [← hsc, sc_pos ⟨hlt, hdk⟩, show P + ((k + 1 : Nat) : Int) = P + k + 1 by omega]
            · rw [sI_1, if_neg (by decide), sI_1, if_pos ⟨rfl, rfl⟩, nvF_snoc, if_neg (by omega)]
        · rw [if_neg hdk]
          refine e_if_eq (q := 172) (tgt := 225) dX12_token_169 rfl (by decide) (fun c169 => ?_) (fun c169 => by exfalso; omega)
          have hend : ¬ (P + k < σ.1 82 21 ∧ isDg (σ.1 83 (P + k))) := fun q => hdk q.2
          rw [sc_neg hend] at hsc
          refine r_v dX12_token_225 rfl ⟨hF, ?_, ?_, ?_⟩
          · rw [hT, tok_dg hPd hPn hl hd rfl]; exact e23
          · rw [hT, tok_dg hPd hPn hl hd rfl]; rw [e22]; exact hsc
          · rw [hT, tok_dg hPd hPn hl hd rfl, e24, e25]
            have hk : (sc isDg (σ.1 83) (σ.1 82 21) P - P).toNat = k := by omega
            refine ⟨fun q1 q2 => absurd (show (22 : Int) ≤ 20 from q2) (by decide), fun q => absurd (show (22 : Int) = 21 from q) (by decide), fun _ => ⟨rfl, hnv.1, ?_⟩, fun q => absurd (show (23 : Int) ≤ 22 from q) (by decide), fun q => absurd (show (22 : Int) = 36 from q) (by decide), fun q => absurd (show (22 : Int) = 37 from q) (by decide), ⟨by omega, by omega⟩⟩
            show min (nvF 100000 (σ.1 83) k P 0) 100000 = min (nvF 100000 (σ.1 83) (sc isDg (σ.1 83) (σ.1 82 21) P - P).toNat P 0) 100000
            rw [hk]
      · rw [hv_ge (by omega), if_neg (by omega)]
        refine e_if_eq (q := 172) (tgt := 225) dX12_token_169 rfl (by decide) (fun c169 => ?_) (fun c169 => by exfalso; omega)
        have hend : ¬ (P + k < σ.1 82 21 ∧ isDg (σ.1 83 (P + k))) := fun q => hlt q.1
        rw [sc_neg hend] at hsc
        refine r_v dX12_token_225 rfl ⟨hF, ?_, ?_, ?_⟩
        · rw [hT, tok_dg hPd hPn hl hd rfl]; exact e23
        · rw [hT, tok_dg hPd hPn hl hd rfl]; rw [e22]; exact hsc
        · rw [hT, tok_dg hPd hPn hl hd rfl, e24, e25]
          have hk : (sc isDg (σ.1 83) (σ.1 82 21) P - P).toNat = k := by omega
          refine ⟨fun q1 q2 => absurd (show (22 : Int) ≤ 20 from q2) (by decide), fun q => absurd (show (22 : Int) = 21 from q) (by decide), fun _ => ⟨rfl, hnv.1, ?_⟩, fun q => absurd (show (23 : Int) ≤ 22 from q) (by decide), fun q => absurd (show (22 : Int) = 36 from q) (by decide), fun q => absurd (show (22 : Int) = 37 from q) (by decide), ⟨by omega, by omega⟩⟩
          show min (nvF 100000 (σ.1 83) k P 0) 100000 = min (nvF 100000 (σ.1 83) (sc isDg (σ.1 83) (σ.1 82 21) P - P).toNat P 0) 100000
          rw [hk]
  have ll : ∀ {c : Int}, (97 ≤ σ.1 83 P ∧ σ.1 83 P ≤ 122) → ¬ σ.1 82 21 ≤ P → ∀ (n : Nat) (τ : Sg), σ.1 82 21 - τ.1 82 22 ≤ n → Fm [] [22, 23, 24, 25] σ τ → τ.1 82 23 = P → P ≤ τ.1 82 22 → τ.1 82 22 ≤ σ.1 82 21 → sc isLt (σ.1 83) (σ.1 82 21) (τ.1 82 22) = sc isLt (σ.1 83) (σ.1 82 21) P → J G 6 mX12_token (pV (fun σ' => MS σ σ' T)) τ 64 [some (.ref (G.2.2.2 + 82)), some (.int (iZ c))] [] := by
    intro c hl hPn
    obtain ⟨E, hEd⟩ : ∃ E, E = sc isLt (σ.1 83) (σ.1 82 21) P := ⟨_, rfl⟩
    rw [← hEd]
    have hEi := sc_in (P := isLt) (b := σ.1 83) (n := σ.1 82 21) (a := P)
    rw [← hEd] at hEi
    have hE2 := hEi.2.1 (by omega)
    have hE3 : P < E := by
      rw [hEd, sc_pos ⟨by omega, hl⟩]
      have := (sc_in (P := isLt) (b := σ.1 83) (n := σ.1 82 21) (a := P + 1)).1
      omega
    have hlet : ∀ j, P ≤ j → j < E → 97 ≤ σ.1 83 j ∧ σ.1 83 j ≤ 122 := fun j a c => (hEi.2.2 j a c).2
    have wd : ∀ (τ : Sg), Fm [] [22, 23, 24, 25] σ τ → τ.1 82 23 = P → τ.1 82 22 = E → J G 6 mX12_token (pV (fun σ' => MS σ σ' T)) τ 87 [some (.ref (G.2.2.2 + 82)), some (.int (iZ c))] [] := by
      intro τ hF e23 e22
      have f21 : τ.1 82 21 = σ.1 82 21 := hF.2 21 (by decide)
      have f83 : τ.1 83 = σ.1 83 := hF.c (by decide)
      have hMt : MTp τ := hM.fm hF (by decide)
      have hltt : ∀ j, τ.1 82 23 ≤ j → j < τ.1 82 22 → 97 ≤ τ.1 83 j ∧ τ.1 83 j ≤ 122 := by rw [f83, e23, e22]; exact hlet
      obtain ⟨W, hWd⟩ : ∃ W, mwd (σ.1 83) P E = W := ⟨_, rfl⟩
      have hWi : -1 ≤ W ∧ W < 21 := by rw [← hWd]; unfold mwd; split; omega; exact fd_in wv _ (n := 21) (by decide)
      have hWs : W = -1 ∨ ¬ 6 < E - P := by by_cases q : 6 < E - P; exact Or.inl (by rw [← hWd]; exact if_pos q); exact Or.inr q
      refine e_aload_n (q := 88) (i := 0) dX12_token_87 rfl rfl rfl ?_
      refine e_aload_n (q := 89) (i := 0) dX12_token_88 rfl rfl rfl ?_
      refine e_Vip (q := 92) (vs := []) ok_X12_word ml_X12_162 dX12_token_89 rfl ⟨_, _, rfl⟩ (by first | assumption | rfl) rfl rfl (Nat.le_of_ble_eq_true rfl) (by decide) (c_X12_word hMt (by omega) (by omega) (by omega) hltt) ?_
      rw [f83, e23, e22, hWd]
      refine e_putI (q := 95) (jz := 25) dX12_token_92 rfl fp_X12_165 rfl (by first | assumption | rfl) rfl ?_
      refine e_aload_n (q := 96) (i := 0) dX12_token_95 rfl rfl rfl ?_
      refine e_aload_n (q := 97) (i := 0) dX12_token_96 rfl rfl rfl ?_
      refine e_getI (q := 100) (jz := 25) dX12_token_97 rfl fg_X12_165 rfl (by first | assumption | rfl) rfl ?_
      rw [show (sI τ 82 25 W).1 82 25 = W from by rw [sI_1, if_pos ⟨rfl, rfl⟩]]
      refine e_iconst (q := 101) dX12_token_100 rfl ?_
      refine e_icmp_eq (q := 104) (tgt := 108) dX12_token_101 rfl (by decide) (fun c101 => ?_) (fun c101 => ?_) (hx := ⟨by omega, by omega⟩)
      · refine e_aload_n (q := 109) (i := 0) dX12_token_108 rfl rfl rfl ?_
        refine e_getI (q := 112) (jz := 22) dX12_token_109 rfl fg_X12_142 rfl (by first | assumption | rfl) rfl ?_
        rw [show (sI τ 82 25 W).1 82 22 = E from e22]
        refine e_aload_n (q := 113) (i := 0) dX12_token_112 rfl rfl rfl ?_
        refine e_getI (q := 116) (jz := 23) dX12_token_113 rfl fg_X12_152 rfl (by first | assumption | rfl) rfl ?_
        rw [show (sI τ 82 25 W).1 82 23 = P from e23]
        refine e_isub (q := 117) dX12_token_116 rfl ?_
        refine e_bipush (q := 119) dX12_token_117 rfl (by decide) ?_
        refine e_icmp_le (q := 122) (tgt := 126) dX12_token_119 rfl (by decide) (fun c119 => ?_) (fun c119 => ?_)
        · refine e_iconst (q := 127) dX12_token_126 rfl ?_
          refine e_putI (q := 130) (jz := 24) dX12_token_127 rfl fp_X12_155 rfl (by first | assumption | rfl) rfl ?_
          refine e_aload_n (q := 131) (i := 0) dX12_token_130 rfl rfl rfl ?_
          refine e_getI (q := 134) (jz := 24) dX12_token_131 rfl fg_X12_155 rfl (by first | assumption | rfl) rfl ?_
          rw [show (sI (sI τ 82 25 W) 82 24 1).1 82 24 = 1 from by rw [sI_1, if_pos ⟨rfl, rfl⟩]]
          refine e_iconst (q := 135) dX12_token_134 rfl ?_
          refine e_icmp_ne (q := 138) (tgt := 225) dX12_token_135 rfl (by decide) (fun c135 => by exfalso; omega) (fun c135 => ?_)
          refine e_aload_n (q := 139) (i := 0) dX12_token_138 rfl rfl rfl ?_
          refine e_Vv (q := 142) (vs := []) ok_X12_name ml_X12_168 dX12_token_139 rfl ⟨_, _, rfl⟩ (by first | assumption | rfl) rfl rfl (Nat.le_of_ble_eq_true rfl) (by decide) (c_X12_name (σ := (sI (sI τ 82 25 W) 82 24 1)) (hM.fm ((hF.s82 (by decide) _).s82 (by decide) _) (by decide)) (show 0 ≤ τ.1 82 23 by omega) (show τ.1 82 23 < τ.1 82 22 by omega) (show τ.1 82 22 ≤ 700 by omega) hltt) (fun s9 h9 => ?_)
          refine e_goto (tgt := 225) dX12_token_142 (by decide) ?_
          have h9 : s9 = sI (sI (sI τ 82 25 W) 82 24 1) 82 25 (pkV (σ.1 83) P E) := by rw [h9, show (sI (sI τ 82 25 W) 82 24 1).1 83 = σ.1 83 from f83, show (sI (sI τ 82 25 W) 82 24 1).1 82 23 = P from e23, show (sI (sI τ 82 25 W) 82 24 1).1 82 22 = E from e22]
          subst h9
          refine r_v dX12_token_225 rfl ⟨((hF.s82 (by decide) _).s82 (by decide) _).s82 (by decide) _, ?_, ?_, ?_⟩
          · rw [hT, tok_lt hPd hPn hl hEd]; exact e23
          · rw [hT, tok_lt hPd hPn hl hEd]; exact e22
          · rw [hT, tok_lt hPd hPn hl hEd]
            rw [show (sI (sI (sI τ 82 25 W) 82 24 1) 82 25 (pkV (σ.1 83) P E)).1 82 24 = 1 from by rw [sI_1, if_neg (by decide), sI_1, if_pos ⟨rfl, rfl⟩], show (sI (sI (sI τ 82 25 W) 82 24 1) 82 25 (pkV (σ.1 83) P E)).1 82 25 = pkV (σ.1 83) P E from by rw [sI_1, if_pos ⟨rfl, rfl⟩]]
            have hW1 : ¬ 6 < E - P := by omega
            unfold mwd at hWd; rw [if_neg hW1] at hWd
            rw [if_neg hW1, if_pos (by omega)]
            have hpk := pkV_in (b := σ.1 83) (p := P) (e := E) hlet
            exact ⟨fun _ q => absurd (show (21 : Int) ≤ 20 from q) (by decide), fun _ => ⟨rfl, rfl⟩, fun q => absurd (show (21 : Int) = 22 from q) (by decide), fun q => absurd (show (23 : Int) ≤ 21 from q) (by decide), fun q => absurd (show (21 : Int) = 36 from q) (by decide), fun q => absurd (show (21 : Int) = 37 from q) (by decide), ⟨by omega, by omega⟩⟩
        · refine e_iconst (q := 123) dX12_token_122 rfl ?_
          refine e_goto (tgt := 127) dX12_token_123 (by decide) ?_
          refine e_putI (q := 130) (jz := 24) dX12_token_127 rfl fp_X12_155 rfl (by first | assumption | rfl) rfl ?_
          refine e_aload_n (q := 131) (i := 0) dX12_token_130 rfl rfl rfl ?_
          refine e_getI (q := 134) (jz := 24) dX12_token_131 rfl fg_X12_155 rfl (by first | assumption | rfl) rfl ?_
          rw [show (sI (sI τ 82 25 W) 82 24 5).1 82 24 = 5 from by rw [sI_1, if_pos ⟨rfl, rfl⟩]]
          refine e_iconst (q := 135) dX12_token_134 rfl ?_
          refine e_icmp_ne (q := 138) (tgt := 225) dX12_token_135 rfl (by decide) (fun c135 => ?_) (fun c135 => by exfalso; omega)
          refine r_v dX12_token_225 rfl ⟨(hF.s82 (by decide) _).s82 (by decide) _, ?_, ?_, ?_⟩
          · rw [hT, tok_lt hPd hPn hl hEd]; exact e23
          · rw [hT, tok_lt hPd hPn hl hEd]; exact e22
          · rw [hT, tok_lt hPd hPn hl hEd]
            rw [show (sI (sI τ 82 25 W) 82 24 5).1 82 24 = 5 from by rw [sI_1, if_pos ⟨rfl, rfl⟩], show (sI (sI τ 82 25 W) 82 24 5).1 82 25 = W from by rw [sI_1, if_neg (by decide), sI_1, if_pos ⟨rfl, rfl⟩]]
            rw [if_pos (show 6 < E - P by omega)]
            exact ⟨fun _ q => absurd (show (36 : Int) ≤ 20 from q) (by decide), fun q => absurd (show (36 : Int) = 21 from q) (by decide), fun q => absurd (show (36 : Int) = 22 from q) (by decide), fun _ q => absurd (show (36 : Int) ≤ 35 from q) (by decide), fun _ => rfl, fun q => absurd (show (36 : Int) = 37 from q) (by decide), ⟨by omega, by omega⟩⟩
      · refine e_iconst (q := 105) dX12_token_104 rfl ?_
        refine e_goto (tgt := 127) dX12_token_105 (by decide) ?_
        refine e_putI (q := 130) (jz := 24) dX12_token_127 rfl fp_X12_155 rfl (by first | assumption | rfl) rfl ?_
        refine e_aload_n (q := 131) (i := 0) dX12_token_130 rfl rfl rfl ?_
        refine e_getI (q := 134) (jz := 24) dX12_token_131 rfl fg_X12_155 rfl (by first | assumption | rfl) rfl ?_
        rw [show (sI (sI τ 82 25 W) 82 24 0).1 82 24 = 0 from by rw [sI_1, if_pos ⟨rfl, rfl⟩]]
        refine e_iconst (q := 135) dX12_token_134 rfl ?_
        refine e_icmp_ne (q := 138) (tgt := 225) dX12_token_135 rfl (by decide) (fun c135 => ?_) (fun c135 => by exfalso; omega)
        refine r_v dX12_token_225 rfl ⟨(hF.s82 (by decide) _).s82 (by decide) _, ?_, ?_, ?_⟩
        · rw [hT, tok_lt hPd hPn hl hEd]; exact e23
        · rw [hT, tok_lt hPd hPn hl hEd]; exact e22
        · rw [hT, tok_lt hPd hPn hl hEd]
          rw [show (sI (sI τ 82 25 W) 82 24 0).1 82 24 = 0 from by rw [sI_1, if_pos ⟨rfl, rfl⟩], show (sI (sI τ 82 25 W) 82 24 0).1 82 25 = W from by rw [sI_1, if_neg (by decide), sI_1, if_pos ⟨rfl, rfl⟩]]
          have hW1 : ¬ 6 < E - P := fun q => by unfold mwd at hWd; rw [if_pos q] at hWd; omega
          unfold mwd at hWd; rw [if_neg hW1] at hWd
          rw [if_neg hW1, if_neg (by rw [hWd]; omega), hWd]
          exact ⟨fun _ _ => ⟨rfl, rfl⟩, fun q => absurd (show W = 21 from q) (by omega), fun q => absurd (show W = 22 from q) (by omega), fun q => absurd (show 23 ≤ W from q) (by omega), fun q => absurd (show W = 36 from q) (by omega), fun q => absurd (show W = 37 from q) (by omega), ⟨by omega, by omega⟩⟩
    have ll : ∀ (n : Nat) (τ : Sg), σ.1 82 21 - τ.1 82 22 ≤ n → Fm [] [22, 23, 24, 25] σ τ → τ.1 82 23 = P → P ≤ τ.1 82 22 → τ.1 82 22 ≤ σ.1 82 21 → sc isLt (σ.1 83) (σ.1 82 21) (τ.1 82 22) = E → J G 6 mX12_token (pV (fun σ' => MS σ σ' T)) τ 64 [some (.ref (G.2.2.2 + 82)), some (.int (iZ c))] [] := by
      intro n
      induction n with
      | zero =>
        intro τ hn hF e23 hPa hle hsc
        have f21 : τ.1 82 21 = σ.1 82 21 := hF.2 21 (by decide)
        have f83 : τ.1 83 = σ.1 83 := hF.c (by decide)
        have hMt : MTp τ := hM.fm hF (by decide)
        refine e_aload_n (q := 65) (i := 0) dX12_token_64 rfl rfl rfl ?_
        refine e_Vip (q := 68) (vs := []) ok_X12_here ml_X12_148 dX12_token_65 rfl ⟨_, _, rfl⟩ (by first | assumption | rfl) rfl rfl (Nat.le_of_ble_eq_true rfl) (by decide) (c_X12_here hMt (by omega) (by omega)) ?_
        refine e_Sip (q := 71) (vs := [_]) ok_X12_isSmall ml_X12_158 dX12_token_68 rfl rfl rfl (Nat.le_of_ble_eq_true rfl) (by decide) (c_X12_isSmall ⟨by have := hv_in hMt (by omega); omega, by have := hv_in hMt (by omega); omega⟩) ?_
        rw [hv_ge (by omega), if_neg (by omega)]
        refine e_if_eq (q := 74) (tgt := 87) dX12_token_71 rfl (by decide) (fun c71 => ?_) (fun c71 => by exfalso; omega)
        rw [sc_neg (fun q => by have := q.1; omega)] at hsc
        exact wd τ hF e23 hsc
      | succ n ih =>
        intro τ hn hF e23 hPa hle hsc
        have f21 : τ.1 82 21 = σ.1 82 21 := hF.2 21 (by decide)
        have f83 : τ.1 83 = σ.1 83 := hF.c (by decide)
        have hMt : MTp τ := hM.fm hF (by decide)
        refine e_aload_n (q := 65) (i := 0) dX12_token_64 rfl rfl rfl ?_
        refine e_Vip (q := 68) (vs := []) ok_X12_here ml_X12_148 dX12_token_65 rfl ⟨_, _, rfl⟩ (by first | assumption | rfl) rfl rfl (Nat.le_of_ble_eq_true rfl) (by decide) (c_X12_here hMt (by omega) (by omega)) ?_
        refine e_Sip (q := 71) (vs := [_]) ok_X12_isSmall ml_X12_158 dX12_token_68 rfl rfl rfl (Nat.le_of_ble_eq_true rfl) (by decide) (c_X12_isSmall ⟨by have := hv_in hMt (by omega); omega, by have := hv_in hMt (by omega); omega⟩) ?_
        by_cases hlt : τ.1 82 22 < σ.1 82 21
        · have hh : hv τ = σ.1 83 (τ.1 82 22) := by rw [hv_lt (by omega), f83]
          rw [hh]
          by_cases hdk : 97 ≤ σ.1 83 (τ.1 82 22) ∧ σ.1 83 (τ.1 82 22) ≤ 122
          · rw [if_pos hdk]
            refine e_if_eq (q := 74) (tgt := 87) dX12_token_71 rfl (by decide) (fun c71 => by exfalso; omega) (fun c71 => ?_)
            refine e_aload_n (q := 75) (i := 0) dX12_token_74 rfl rfl rfl ?_
            refine e_dup (q := 76) dX12_token_75 rfl rfl ?_
            refine e_getI (q := 79) (jz := 22) dX12_token_76 rfl fg_X12_142 rfl (by first | assumption | rfl) rfl ?_
            refine e_iconst (q := 80) dX12_token_79 rfl ?_
            refine e_iadd (q := 81) dX12_token_80 rfl ?_
            refine e_putI (q := 84) (jz := 22) dX12_token_81 rfl fp_X12_142 rfl (by first | assumption | rfl) rfl ?_
            refine e_goto (tgt := 64) dX12_token_84 (by decide) ?_
            refine ih _ ?_ (hF.s82 (by decide) _) ?_ ?_ ?_ ?_
            · rw [sI_1, if_pos ⟨rfl, rfl⟩]; omega
            · rw [sI_1, if_neg (by decide)]; exact e23
            · rw [sI_1, if_pos ⟨rfl, rfl⟩]; omega
            · rw [sI_1, if_pos ⟨rfl, rfl⟩]; omega
            · rw [sI_1, if_pos ⟨rfl, rfl⟩, ← hsc, sc_pos ⟨hlt, hdk⟩]
          · rw [if_neg hdk]
            refine e_if_eq (q := 74) (tgt := 87) dX12_token_71 rfl (by decide) (fun c71 => ?_) (fun c71 => by exfalso; omega)
            rw [sc_neg (fun q => hdk q.2)] at hsc
            exact wd τ hF e23 hsc
        · rw [hv_ge (by omega), if_neg (by omega)]
          refine e_if_eq (q := 74) (tgt := 87) dX12_token_71 rfl (by decide) (fun c71 => ?_) (fun c71 => by exfalso; omega)
          rw [sc_neg (fun q => hlt q.1)] at hsc
          exact wd τ hF e23 hsc
    exact ll
  have rs : ∀ (τ : Sg), Fm [] [22] σ τ → τ.1 82 22 = P → J G 6 mX12_token (pV (fun σ' => MS σ σ' T)) τ 31 [some (.ref (G.2.2.2 + 82)), none] [] := by
    intro τ hF0 hP
    have f25 : τ.1 82 25 = σ.1 82 25 := hF0.2 25 (by decide)
    have hF := Fm22 hF0
    have f21 : τ.1 82 21 = σ.1 82 21 := hF.2 21 (by decide)
    have f83 : τ.1 83 = σ.1 83 := hF.c (by decide)
    have hMt : MTp τ := hM.fm hF (by decide)
    have hMt1 : MTp (sI τ 82 23 P) := hM.fm (hF.s82 (by decide) _) (by decide)
    by_cases hPn : σ.1 82 21 ≤ P
    · refine e_aload_n (q := 32) (i := 0) dX12_token_31 rfl rfl rfl ?_
      refine e_aload_n (q := 33) (i := 0) dX12_token_32 rfl rfl rfl ?_
      refine e_getI (q := 36) (jz := 22) dX12_token_33 rfl fg_X12_142 rfl (by first | assumption | rfl) rfl ?_
      rw [hP]
      refine e_putI (q := 39) (jz := 23) dX12_token_36 rfl fp_X12_152 rfl (by first | assumption | rfl) rfl ?_
      refine e_aload_n (q := 40) (i := 0) dX12_token_39 rfl rfl rfl ?_
      refine e_Vip (q := 43) (vs := []) ok_X12_here ml_X12_148 dX12_token_40 rfl ⟨_, _, rfl⟩ (by first | assumption | rfl) rfl rfl (Nat.le_of_ble_eq_true rfl) (by decide) (c_X12_here hMt1 (show 0 ≤ τ.1 82 22 by omega) (show τ.1 82 22 ≤ 701 by omega)) ?_
      rw [show hv (sI τ 82 23 P) = -1 from hv_ge (show ¬ τ.1 82 22 < τ.1 82 21 by omega)]
      refine e_istore_n (q := 44) (i := 1) (L' := [_, _]) dX12_token_43 rfl rfl (by decide) rfl rfl ?_
      refine e_iload_n (q := 45) (i := 1) dX12_token_44 rfl rfl rfl ?_
      refine e_iconst (q := 46) dX12_token_45 rfl ?_
      refine e_icmp_ne (q := 49) (tgt := 57) dX12_token_46 rfl (by decide) (fun c46 => by exfalso; omega) (fun c46 => ?_)
      refine e_aload_n (q := 50) (i := 0) dX12_token_49 rfl rfl rfl ?_
      refine e_iconst (q := 51) dX12_token_50 rfl ?_
      refine e_putI (q := 54) (jz := 24) dX12_token_51 rfl fp_X12_155 rfl (by first | assumption | rfl) rfl ?_
      refine e_goto (tgt := 225) dX12_token_54 (by decide) ?_
      refine r_v dX12_token_225 rfl ⟨(hF.s82 (by decide) _).s82 (by decide) _, ?_, ?_, ?_⟩
      · rw [hT, tok_end (by rw [← hPd]; omega), ← hPd]; rfl
      · rw [hT, tok_end (by rw [← hPd]; omega), ← hPd]; exact hP
      · rw [hT, tok_end (by rw [← hPd]; omega), ← hPd, show (sI (sI τ 82 23 P) 82 24 4).1 82 24 = 4 from by rw [sI_1, if_pos ⟨rfl, rfl⟩], show (sI (sI τ 82 23 P) 82 24 4).1 82 25 = σ.1 82 25 from f25]
        exact ⟨fun _ q => absurd (show (37 : Int) ≤ 20 from q) (by decide), fun q => absurd (show (37 : Int) = 21 from q) (by decide), fun q => absurd (show (37 : Int) = 22 from q) (by decide), fun _ q => absurd (show (37 : Int) ≤ 35 from q) (by decide), fun q => absurd (show (37 : Int) = 36 from q) (by decide), fun _ => rfl, hv25⟩
    have hcb := hM.2 P (by omega) (by omega)
    have hcr : R32 (σ.1 83 P) := ⟨by omega, by omega⟩
    by_cases hl : 97 ≤ σ.1 83 P ∧ σ.1 83 P ≤ 122
    · refine e_aload_n (q := 32) (i := 0) dX12_token_31 rfl rfl rfl ?_
      refine e_aload_n (q := 33) (i := 0) dX12_token_32 rfl rfl rfl ?_
      refine e_getI (q := 36) (jz := 22) dX12_token_33 rfl fg_X12_142 rfl (by first | assumption | rfl) rfl ?_
      rw [hP]
      refine e_putI (q := 39) (jz := 23) dX12_token_36 rfl fp_X12_152 rfl (by first | assumption | rfl) rfl ?_
      refine e_aload_n (q := 40) (i := 0) dX12_token_39 rfl rfl rfl ?_
      refine e_Vip (q := 43) (vs := []) ok_X12_here ml_X12_148 dX12_token_40 rfl ⟨_, _, rfl⟩ (by first | assumption | rfl) rfl rfl (Nat.le_of_ble_eq_true rfl) (by decide) (c_X12_here hMt1 (show 0 ≤ τ.1 82 22 by omega) (show τ.1 82 22 ≤ 701 by omega)) ?_
      rw [show hv (sI τ 82 23 P) = (σ.1 83 P) from by rw [show hv (sI τ 82 23 P) = hv τ from rfl, hv_lt (by omega), hP, f83]]
      refine e_istore_n (q := 44) (i := 1) (L' := [_, _]) dX12_token_43 rfl rfl (by decide) rfl rfl ?_
      refine e_iload_n (q := 45) (i := 1) dX12_token_44 rfl rfl rfl ?_
      refine e_iconst (q := 46) dX12_token_45 rfl ?_
      refine e_icmp_ne (q := 49) (tgt := 57) dX12_token_46 rfl (by decide) (fun c46 => ?_) (fun c46 => by exfalso; omega) (hx := hcr)
      refine e_iload_n (q := 58) (i := 1) dX12_token_57 rfl rfl rfl ?_
      refine e_Sip (q := 61) (vs := [_]) ok_X12_isSmall ml_X12_158 dX12_token_58 rfl rfl rfl (Nat.le_of_ble_eq_true rfl) (by decide) (c_X12_isSmall hcr) ?_
      rw [if_pos hl]
      refine e_if_eq (q := 64) (tgt := 145) dX12_token_61 rfl (by decide) (fun c61 => by exfalso; omega) (fun c61 => ?_)
      exact ll hl hPn (σ.1 82 21 - τ.1 82 22).toNat _ (show σ.1 82 21 - τ.1 82 22 ≤ _ by omega) (hF.s82 (by decide) _) (by rw [sI_1, if_pos ⟨rfl, rfl⟩]) (show P ≤ τ.1 82 22 by omega) (show τ.1 82 22 ≤ _ by omega) (show sc isLt (σ.1 83) (σ.1 82 21) (τ.1 82 22) = _ by rw [hP])
    by_cases hd : 48 ≤ σ.1 83 P ∧ σ.1 83 P ≤ 57
    · refine e_aload_n (q := 32) (i := 0) dX12_token_31 rfl rfl rfl ?_
      refine e_aload_n (q := 33) (i := 0) dX12_token_32 rfl rfl rfl ?_
      refine e_getI (q := 36) (jz := 22) dX12_token_33 rfl fg_X12_142 rfl (by first | assumption | rfl) rfl ?_
      rw [hP]
      refine e_putI (q := 39) (jz := 23) dX12_token_36 rfl fp_X12_152 rfl (by first | assumption | rfl) rfl ?_
      refine e_aload_n (q := 40) (i := 0) dX12_token_39 rfl rfl rfl ?_
      refine e_Vip (q := 43) (vs := []) ok_X12_here ml_X12_148 dX12_token_40 rfl ⟨_, _, rfl⟩ (by first | assumption | rfl) rfl rfl (Nat.le_of_ble_eq_true rfl) (by decide) (c_X12_here hMt1 (show 0 ≤ τ.1 82 22 by omega) (show τ.1 82 22 ≤ 701 by omega)) ?_
      rw [show hv (sI τ 82 23 P) = (σ.1 83 P) from by rw [show hv (sI τ 82 23 P) = hv τ from rfl, hv_lt (by omega), hP, f83]]
      refine e_istore_n (q := 44) (i := 1) (L' := [_, _]) dX12_token_43 rfl rfl (by decide) rfl rfl ?_
      refine e_iload_n (q := 45) (i := 1) dX12_token_44 rfl rfl rfl ?_
      refine e_iconst (q := 46) dX12_token_45 rfl ?_
      refine e_icmp_ne (q := 49) (tgt := 57) dX12_token_46 rfl (by decide) (fun c46 => ?_) (fun c46 => by exfalso; omega) (hx := hcr)
      refine e_iload_n (q := 58) (i := 1) dX12_token_57 rfl rfl rfl ?_
      refine e_Sip (q := 61) (vs := [_]) ok_X12_isSmall ml_X12_158 dX12_token_58 rfl rfl rfl (Nat.le_of_ble_eq_true rfl) (by decide) (c_X12_isSmall hcr) ?_
      rw [if_neg hl]
      refine e_if_eq (q := 64) (tgt := 145) dX12_token_61 rfl (by decide) (fun c61 => ?_) (fun c61 => by exfalso; omega)
      refine e_iload_n (q := 146) (i := 1) dX12_token_145 rfl rfl rfl ?_
      refine e_Sip (q := 149) (vs := [_]) ok_X12_isDigit ml_X12_171 dX12_token_146 rfl rfl rfl (Nat.le_of_ble_eq_true rfl) (by decide) (c_X12_isDigit hcr) ?_
      rw [if_pos hd]
      refine e_if_eq (q := 152) (tgt := 220) dX12_token_149 rfl (by decide) (fun c149 => by exfalso; omega) (fun c149 => ?_)
      refine e_aload_n (q := 153) (i := 0) dX12_token_152 rfl rfl rfl ?_
      refine e_iconst (q := 154) dX12_token_153 rfl ?_
      refine e_putI (q := 157) (jz := 24) dX12_token_154 rfl fp_X12_155 rfl (by first | assumption | rfl) rfl ?_
      refine e_aload_n (q := 158) (i := 0) dX12_token_157 rfl rfl rfl ?_
      refine e_iconst (q := 159) dX12_token_158 rfl ?_
      refine e_putI (q := 162) (jz := 25) dX12_token_159 rfl fp_X12_165 rfl (by first | assumption | rfl) rfl ?_
      refine ld hd hl hPn (σ.1 82 21 - τ.1 82 22).toNat _ 0 (show σ.1 82 21 - τ.1 82 22 ≤ _ by omega) (((hF.s82 (by decide) _).s82 (by decide) _).s82 (by decide) _) ?_ ?_ (show τ.1 82 22 = P + 0 by omega) (show τ.1 82 22 ≤ _ by omega) (fun j a c => by omega) ?_ ?_
      · rfl
      · rfl
      · rw [show P + ((0 : Nat) : Int) = P by omega]
      · rfl
    refine e_aload_n (q := 32) (i := 0) dX12_token_31 rfl rfl rfl ?_
    refine e_aload_n (q := 33) (i := 0) dX12_token_32 rfl rfl rfl ?_
    refine e_getI (q := 36) (jz := 22) dX12_token_33 rfl fg_X12_142 rfl (by first | assumption | rfl) rfl ?_
    rw [hP]
    refine e_putI (q := 39) (jz := 23) dX12_token_36 rfl fp_X12_152 rfl (by first | assumption | rfl) rfl ?_
    refine e_aload_n (q := 40) (i := 0) dX12_token_39 rfl rfl rfl ?_
    refine e_Vip (q := 43) (vs := []) ok_X12_here ml_X12_148 dX12_token_40 rfl ⟨_, _, rfl⟩ (by first | assumption | rfl) rfl rfl (Nat.le_of_ble_eq_true rfl) (by decide) (c_X12_here hMt1 (show 0 ≤ τ.1 82 22 by omega) (show τ.1 82 22 ≤ 701 by omega)) ?_
    rw [show hv (sI τ 82 23 P) = (σ.1 83 P) from by rw [show hv (sI τ 82 23 P) = hv τ from rfl, hv_lt (by omega), hP, f83]]
    refine e_istore_n (q := 44) (i := 1) (L' := [_, _]) dX12_token_43 rfl rfl (by decide) rfl rfl ?_
    refine e_iload_n (q := 45) (i := 1) dX12_token_44 rfl rfl rfl ?_
    refine e_iconst (q := 46) dX12_token_45 rfl ?_
    refine e_icmp_ne (q := 49) (tgt := 57) dX12_token_46 rfl (by decide) (fun c46 => ?_) (fun c46 => by exfalso; omega) (hx := hcr)
    refine e_iload_n (q := 58) (i := 1) dX12_token_57 rfl rfl rfl ?_
    refine e_Sip (q := 61) (vs := [_]) ok_X12_isSmall ml_X12_158 dX12_token_58 rfl rfl rfl (Nat.le_of_ble_eq_true rfl) (by decide) (c_X12_isSmall hcr) ?_
    rw [if_neg hl]
    refine e_if_eq (q := 64) (tgt := 145) dX12_token_61 rfl (by decide) (fun c61 => ?_) (fun c61 => by exfalso; omega)
    refine e_iload_n (q := 146) (i := 1) dX12_token_145 rfl rfl rfl ?_
    refine e_Sip (q := 149) (vs := [_]) ok_X12_isDigit ml_X12_171 dX12_token_146 rfl rfl rfl (Nat.le_of_ble_eq_true rfl) (by decide) (c_X12_isDigit hcr) ?_
    rw [if_neg hd]
    refine e_if_eq (q := 152) (tgt := 220) dX12_token_149 rfl (by decide) (fun c149 => ?_) (fun c149 => by exfalso; omega)
    refine e_aload_n (q := 221) (i := 0) dX12_token_220 rfl rfl rfl ?_
    refine e_iload_n (q := 222) (i := 1) dX12_token_221 rfl rfl rfl ?_
    refine e_Vv (q := 225) (vs := [_]) ok_X12_sign ml_X12_175 dX12_token_222 rfl ⟨_, _, rfl⟩ (by first | assumption | rfl) rfl rfl (Nat.le_of_ble_eq_true rfl) (by decide) (c_X12_sign (σ := (sI τ 82 23 P)) hMt1 (show 0 ≤ τ.1 82 22 by omega) (show τ.1 82 22 < τ.1 82 21 by omega) hcb) (fun s9 h9 => ?_)
    obtain ⟨g1, g2, g3, g4, g5⟩ := h9
    rw [show (sI τ 82 23 P).1 83 = σ.1 83 from f83, show (sI τ 82 23 P).1 82 21 = σ.1 82 21 from f21, show (sI τ 82 23 P).1 82 22 = P from hP] at g2 g3 g4
    have hk := sgK_in (σ.1 83 P) (by0 (σ.1 83) (σ.1 82 21) (P + 1))
    refine r_v dX12_token_225 rfl ⟨(hF.s82 (by decide) _).tr (g1.mono (by decide) (by decide)), ?_, ?_, ?_⟩
    · rw [hT, tok_sg hPd hPn hl hd, g1.2 23 (by decide)]; rfl
    · rw [hT, tok_sg hPd hPn hl hd]; exact g2
    · rw [hT, tok_sg hPd hPn hl hd]
      exact ⟨fun _ q => absurd (show sgK (σ.1 83 P) (by0 (σ.1 83) (σ.1 82 21) (P + 1)) ≤ 20 from q) (by omega), fun q => absurd (show sgK (σ.1 83 P) (by0 (σ.1 83) (σ.1 82 21) (P + 1)) = 21 from q) (by omega), fun q => absurd (show sgK (σ.1 83 P) (by0 (σ.1 83) (σ.1 82 21) (P + 1)) = 22 from q) (by omega), fun q r => g4 (fun u => absurd (show sgK (σ.1 83 P) (by0 (σ.1 83) (σ.1 82 21) (P + 1)) ≤ 35 from r) (by omega)), fun q => g3 q, fun q => absurd (show sgK (σ.1 83 P) (by0 (σ.1 83) (σ.1 82 21) (P + 1)) = 37 from q) (by omega), g5⟩
  have lb : ∀ (n : Nat) (τ : Sg), σ.1 82 21 - τ.1 82 22 ≤ n → Fm [] [22] σ τ → 0 ≤ τ.1 82 22 → τ.1 82 22 ≤ σ.1 82 21 → sc isBl (σ.1 83) (σ.1 82 21) (τ.1 82 22) = P → J G 6 mX12_token (pV (fun σ' => MS σ σ' T)) τ 0 [some (.ref (G.2.2.2 + 82)), none] [] := by
    intro n
    induction n with
    | zero =>
      intro τ hn hF h0 hle hsc
      have f21 : τ.1 82 21 = σ.1 82 21 := hF.2 21 (by decide)
      have f83 : τ.1 83 = σ.1 83 := hF.c (by decide)
      have hMt : MTp τ := hM.fm hF (by decide)
      refine e_aload_n (q := 1) (i := 0) dX12_token_0 rfl rfl rfl ?_
      refine e_Vip (q := 4) (vs := []) ok_X12_here ml_X12_148 dX12_token_1 rfl ⟨_, _, rfl⟩ (by first | assumption | rfl) rfl rfl (Nat.le_of_ble_eq_true rfl) (by decide) (c_X12_here hMt (by omega) (by omega)) ?_
      rw [hv_ge (by omega)]
      refine e_bipush (q := 6) dX12_token_4 rfl (by decide) ?_
      refine e_icmp_eq (q := 9) (tgt := 18) dX12_token_6 rfl (by decide) (fun c6 => by exfalso; omega) (fun c6 => ?_)
      refine e_aload_n (q := 10) (i := 0) dX12_token_9 rfl rfl rfl ?_
      refine e_Vip (q := 13) (vs := []) ok_X12_here ml_X12_148 dX12_token_10 rfl ⟨_, _, rfl⟩ (by first | assumption | rfl) rfl rfl (Nat.le_of_ble_eq_true rfl) (by decide) (c_X12_here hMt (by omega) (by omega)) ?_
      rw [hv_ge (by omega)]
      refine e_bipush (q := 15) dX12_token_13 rfl (by decide) ?_
      refine e_icmp_ne (q := 18) (tgt := 31) dX12_token_15 rfl (by decide) (fun c15 => ?_) (fun c15 => by exfalso; omega)
      rw [sc_neg (fun q => by have := q.1; omega)] at hsc
      exact rs τ hF hsc
    | succ n ih =>
      intro τ hn hF h0 hle hsc
      have f21 : τ.1 82 21 = σ.1 82 21 := hF.2 21 (by decide)
      have f83 : τ.1 83 = σ.1 83 := hF.c (by decide)
      have hMt : MTp τ := hM.fm hF (by decide)
      refine e_aload_n (q := 1) (i := 0) dX12_token_0 rfl rfl rfl ?_
      refine e_Vip (q := 4) (vs := []) ok_X12_here ml_X12_148 dX12_token_1 rfl ⟨_, _, rfl⟩ (by first | assumption | rfl) rfl rfl (Nat.le_of_ble_eq_true rfl) (by decide) (c_X12_here hMt (by omega) (by omega)) ?_
      by_cases hlt : τ.1 82 22 < σ.1 82 21
      · have hh : hv τ = σ.1 83 (τ.1 82 22) := by rw [hv_lt (by omega), f83]
        have hb8 := hM.2 (τ.1 82 22) (by omega) (by omega)
        rw [hh]
        refine e_bipush (q := 6) dX12_token_4 rfl (by decide) ?_
        refine e_icmp_eq (q := 9) (tgt := 18) dX12_token_6 rfl (by decide) (fun c6 => ?_) (fun c6 => ?_) (hx := ⟨by omega, by omega⟩)
        · refine e_aload_n (q := 19) (i := 0) dX12_token_18 rfl rfl rfl ?_
          refine e_dup (q := 20) dX12_token_19 rfl rfl ?_
          refine e_getI (q := 23) (jz := 22) dX12_token_20 rfl fg_X12_142 rfl (by first | assumption | rfl) rfl ?_
          refine e_iconst (q := 24) dX12_token_23 rfl ?_
          refine e_iadd (q := 25) dX12_token_24 rfl ?_
          refine e_putI (q := 28) (jz := 22) dX12_token_25 rfl fp_X12_142 rfl (by first | assumption | rfl) rfl ?_
          refine e_goto (tgt := 0) dX12_token_28 (by decide) ?_
          refine ih _ ?_ (hF.s82 (by decide) _) ?_ ?_ ?_
          · rw [sI_1, if_pos ⟨rfl, rfl⟩]; omega
          · rw [sI_1, if_pos ⟨rfl, rfl⟩]; omega
          · rw [sI_1, if_pos ⟨rfl, rfl⟩]; omega
          · rw [sI_1, if_pos ⟨rfl, rfl⟩, ← hsc, sc_pos ⟨hlt, Or.inr c6⟩]
        · refine e_aload_n (q := 10) (i := 0) dX12_token_9 rfl rfl rfl ?_
          refine e_Vip (q := 13) (vs := []) ok_X12_here ml_X12_148 dX12_token_10 rfl ⟨_, _, rfl⟩ (by first | assumption | rfl) rfl rfl (Nat.le_of_ble_eq_true rfl) (by decide) (c_X12_here hMt (by omega) (by omega)) ?_
          rw [hh]
          refine e_bipush (q := 15) dX12_token_13 rfl (by decide) ?_
          refine e_icmp_ne (q := 18) (tgt := 31) dX12_token_15 rfl (by decide) (fun c15 => ?_) (fun c15 => ?_) (hx := ⟨by omega, by omega⟩)
          · rw [sc_neg (fun q => by rcases q.2 with r | r; exact c15 r; exact c6 r)] at hsc
            exact rs τ hF hsc
          · refine e_aload_n (q := 19) (i := 0) dX12_token_18 rfl rfl rfl ?_
            refine e_dup (q := 20) dX12_token_19 rfl rfl ?_
            refine e_getI (q := 23) (jz := 22) dX12_token_20 rfl fg_X12_142 rfl (by first | assumption | rfl) rfl ?_
            refine e_iconst (q := 24) dX12_token_23 rfl ?_
            refine e_iadd (q := 25) dX12_token_24 rfl ?_
            refine e_putI (q := 28) (jz := 22) dX12_token_25 rfl fp_X12_142 rfl (by first | assumption | rfl) rfl ?_
            refine e_goto (tgt := 0) dX12_token_28 (by decide) ?_
            refine ih _ ?_ (hF.s82 (by decide) _) ?_ ?_ ?_
            · rw [sI_1, if_pos ⟨rfl, rfl⟩]; omega
            · rw [sI_1, if_pos ⟨rfl, rfl⟩]; omega
            · rw [sI_1, if_pos ⟨rfl, rfl⟩]; omega
            · rw [sI_1, if_pos ⟨rfl, rfl⟩, ← hsc, sc_pos ⟨hlt, Or.inl (by omega)⟩]
      · rw [hv_ge (by omega)]
        refine e_bipush (q := 6) dX12_token_4 rfl (by decide) ?_
        refine e_icmp_eq (q := 9) (tgt := 18) dX12_token_6 rfl (by decide) (fun c6 => by exfalso; omega) (fun c6 => ?_)
        refine e_aload_n (q := 10) (i := 0) dX12_token_9 rfl rfl rfl ?_
        refine e_Vip (q := 13) (vs := []) ok_X12_here ml_X12_148 dX12_token_10 rfl ⟨_, _, rfl⟩ (by first | assumption | rfl) rfl rfl (Nat.le_of_ble_eq_true rfl) (by decide) (c_X12_here hMt (by omega) (by omega)) ?_
        rw [hv_ge (by omega)]
        refine e_bipush (q := 15) dX12_token_13 rfl (by decide) ?_
        refine e_icmp_ne (q := 18) (tgt := 31) dX12_token_15 rfl (by decide) (fun c15 => ?_) (fun c15 => by exfalso; omega)
        rw [sc_neg (fun q => hlt q.1)] at hsc
        exact rs τ hF hsc
  refine e_entry om_X12_token (Nat.le_of_ble_eq_true rfl) (L := [some (.ref (G.2.2.2 + 82)), none]) rfl ?_
  exact lb (σ.1 82 21 - σ.1 82 22).toNat σ (by omega) (Fm.rf _ _ _) h0 h1 hPd.symm

