set_option maxHeartbeats 32000000 in
theorem c_X12_text {G : Gx} {σ0 σ : Sg} (hσ : σ = sI σ0 82 0 0) {m : Int} {δ : Dl} (hm : R32 m) (htp : 0 ≤ σ.1 82 2 ∧ σ.1 82 2 ≤ 700) (hBy : ∀ i, 0 ≤ i → i < 700 → 0 ≤ σ.1 83 i ∧ σ.1 83 i ≤ 255) (hGm : MG σ) (hO : DOk δ) (hZ : DZ δ) : Con G 152 mX12_text [.ref (G.2.2.2 + 82), .int (iZ m)] σ0 (pI (fun z σ' => TxM σ σ' m δ z)) := by
  obtain ⟨v, hv, hvz⟩ : ∃ v, R32 v ∧ iZ v = iZ (σ.1 82 25) := ⟨(iZ (σ.1 82 25)).toInt, R32_of _, iZ_of _⟩
  refine e_entry om_X12_text (Nat.le_of_ble_eq_true rfl) (L := [some (.ref (G.2.2.2 + 82)), some (.int (iZ m)), none]) rfl ?_
  refine e_aload_n (q := 1) (i := 0) dX12_text_0 rfl rfl rfl ?_
  refine e_iconst (q := 2) dX12_text_1 rfl ?_
  refine e_putI (q := 5) (jz := 0) dX12_text_2 rfl fp_X12_136 rfl (by first | assumption | rfl) rfl ?_
  rw [← hσ]
  refine e_iload_n (q := 6) (i := 1) dX12_text_5 rfl rfl rfl ?_
  refine e_if_lt (q := 9) (tgt := 17) dX12_text_6 rfl (by decide) (fun c6 => ?_) (fun c6 => ?_)
  · refine e_bipush (q := 19) dX12_text_17 rfl (by decide) ?_
    exact r_i dX12_text_19 rfl (Or.inl ⟨by omega, rfl, rfl⟩)
  · refine e_iload_n (q := 10) (i := 1) dX12_text_9 rfl rfl rfl ?_
    refine e_aload_n (q := 11) (i := 0) dX12_text_10 rfl rfl rfl ?_
    refine e_getI (q := 14) (jz := 2) dX12_text_11 rfl fg_X12_139 rfl (by first | assumption | rfl) rfl ?_
    refine e_icmp_le (q := 17) (tgt := 20) dX12_text_14 rfl (by decide) (fun c14 => ?_) (fun c14 => ?_) (hy := ⟨by omega, by omega⟩)
    · have hm01 : 0 ≤ m ∧ m ≤ σ.1 82 2 := ⟨by omega, by omega⟩
      have fl : ∀ (T τ : Sg) (x2 : Option Value) (e : Int × Int), TxI σ T m → FM T τ e → lText 701 δ (tkl (σ.1 83) m 0) = .inl e → J G 152 mX12_text (pI (fun z σ' => TxM σ σ' m δ z)) τ 148 [some (.ref (G.2.2.2 + 82)), some (.int (iZ m)), x2] [] := by
        intro T τ x2 e hI hE hl
        refine e_aload_n (q := 149) (i := 0) dX12_text_148 rfl rfl rfl ?_
        refine e_getI (q := 152) (jz := 26) dX12_text_149 rfl fg_X12_190 rfl (by first | assumption | rfl) rfl ?_
        refine e_if_ne (q := 155) (tgt := 170) dX12_text_152 rfl (by decide) (fun c152 => ?_) (fun c152 => by exfalso; exact hE.ne c152) (hx := hE.rf)
        refine e_aload_n (q := 171) (i := 0) dX12_text_170 rfl rfl rfl ?_
        refine e_aload_n (q := 172) (i := 0) dX12_text_171 rfl rfl rfl ?_
        refine e_getI (q := 175) (jz := 26) dX12_text_172 rfl fg_X12_190 rfl (by first | assumption | rfl) rfl ?_
        refine e_putI (q := 178) (jz := 28) dX12_text_175 rfl fp_X12_282 rfl (by first | assumption | rfl) rfl ?_
        refine e_aload_n (q := 179) (i := 0) dX12_text_178 rfl rfl rfl ?_
        refine e_aload_n (q := 180) (i := 0) dX12_text_179 rfl rfl rfl ?_
        refine e_getI (q := 183) (jz := 27) dX12_text_180 rfl fg_X12_193 rfl (by first | assumption | rfl) rfl ?_
        rw [show (sI τ 82 28 (τ.1 82 26)).1 82 27 = τ.1 82 27 from rfl]
        refine e_putI (q := 186) (jz := 29) dX12_text_183 rfl fp_X12_61 rfl (by first | assumption | rfl) rfl ?_
        refine e_aload_n (q := 187) (i := 0) dX12_text_186 rfl rfl rfl ?_
        refine e_getI (q := 190) (jz := 26) dX12_text_187 rfl fg_X12_190 rfl (by first | assumption | rfl) rfl ?_
        rw [show (sI (sI τ 82 28 (τ.1 82 26)) 82 29 (τ.1 82 27)).1 82 26 = τ.1 82 26 from rfl]
        refine e_if_eq (q := 193) (tgt := 195) dX12_text_190 rfl (by decide) (fun c190 => by exfalso; exact hE.ne c190) (fun c190 => ?_) (hx := hE.rf)
        refine e_iconst (q := 194) dX12_text_193 rfl ?_
        exact r_i dX12_text_194 rfl (Or.inr ⟨hm01, hI.1.1 ▸ (hE.1.2.1 2 (by decide)), by rw [hl]; exact ⟨rfl, TxI_MFt hI hE.1 _ _, hE.2.1, hE.2.2.1⟩⟩)
      have fi : ∀ (T τ : Sg) (x2 : Option Value) (δ' : Dl) (ts : List Tk), TxI σ T m → MFr T τ → τ.1 82 26 = 0 → MD τ δ' → DOk δ' → DPi δ' → lText 701 δ (tkl (σ.1 83) m 0) = .inr (δ', ts) → J G 152 mX12_text (pI (fun z σ' => TxM σ σ' m δ z)) τ 170 [some (.ref (G.2.2.2 + 82)), some (.int (iZ m)), x2] [] := by
        intro T τ x2 δ' ts hI hF hf hD hO hP hl
        refine e_aload_n (q := 171) (i := 0) dX12_text_170 rfl rfl rfl ?_
        refine e_aload_n (q := 172) (i := 0) dX12_text_171 rfl rfl rfl ?_
        refine e_getI (q := 175) (jz := 26) dX12_text_172 rfl fg_X12_190 rfl (by first | assumption | rfl) rfl ?_
        refine e_putI (q := 178) (jz := 28) dX12_text_175 rfl fp_X12_282 rfl (by first | assumption | rfl) rfl ?_
        refine e_aload_n (q := 179) (i := 0) dX12_text_178 rfl rfl rfl ?_
        refine e_aload_n (q := 180) (i := 0) dX12_text_179 rfl rfl rfl ?_
        refine e_getI (q := 183) (jz := 27) dX12_text_180 rfl fg_X12_193 rfl (by first | assumption | rfl) rfl ?_
        rw [show (sI τ 82 28 (τ.1 82 26)).1 82 27 = τ.1 82 27 from rfl]
        refine e_putI (q := 186) (jz := 29) dX12_text_183 rfl fp_X12_61 rfl (by first | assumption | rfl) rfl ?_
        refine e_aload_n (q := 187) (i := 0) dX12_text_186 rfl rfl rfl ?_
        refine e_getI (q := 190) (jz := 26) dX12_text_187 rfl fg_X12_190 rfl (by first | assumption | rfl) rfl ?_
        rw [show (sI (sI τ 82 28 (τ.1 82 26)) 82 29 (τ.1 82 27)).1 82 26 = τ.1 82 26 from rfl]
        refine e_if_eq (q := 193) (tgt := 195) dX12_text_190 rfl (by decide) (fun c190 => ?_) (fun c190 => by exfalso; exact c190 hf) (hx := ⟨by omega, by omega⟩)
        obtain ⟨A, hA⟩ : ∃ A, A = (sI (sI τ 82 28 (τ.1 82 26)) 82 29 (τ.1 82 27)) := ⟨_, rfl⟩
        rw [← hA, ← hvp_0 A]
        refine e_aload_n (q := 196) (i := 0) dX12_text_195 rfl rfl rfl ?_
        refine e_getR (q := 199) dX12_text_196 rfl fg_X12_13 (by first | assumption | rfl) rfl ?_
        refine e_Sv (q := 202) (vs := [_]) ok_X12_half ml_X12_285 dX12_text_199 rfl rfl rfl (Nat.le_of_ble_eq_true rfl) (by decide) (c_X12_half (σ := A) (u := 84) (n := 7) rfl (by decide) rfl (by decide)) (fun sh0 hh0 => ?_)
        subst hh0
        refine e_aload_n (q := 203) (i := 0) dX12_text_202 rfl rfl rfl ?_
        refine e_getR (q := 206) dX12_text_203 rfl fg_X12_16 (by first | assumption | rfl) rfl ?_
        refine e_Sv (q := 209) (vs := [_]) ok_X12_half ml_X12_285 dX12_text_206 rfl rfl rfl (Nat.le_of_ble_eq_true rfl) (by decide) (c_X12_half (σ := A) (u := 85) (n := 4) rfl (by decide) rfl (by decide)) (fun sh1 hh1 => ?_)
        subst hh1
        refine e_aload_n (q := 210) (i := 0) dX12_text_209 rfl rfl rfl ?_
        refine e_getR (q := 213) dX12_text_210 rfl fg_X12_19 (by first | assumption | rfl) rfl ?_
        refine e_Sv (q := 216) (vs := [_]) ok_X12_half ml_X12_285 dX12_text_213 rfl rfl rfl (Nat.le_of_ble_eq_true rfl) (by decide) (c_X12_half (σ := A) (u := 86) (n := 4) rfl (by decide) rfl (by decide)) (fun sh2 hh2 => ?_)
        subst hh2
        refine e_aload_n (q := 217) (i := 0) dX12_text_216 rfl rfl rfl ?_
        refine e_getR (q := 220) dX12_text_217 rfl fg_X12_22 (by first | assumption | rfl) rfl ?_
        refine e_Sv (q := 223) (vs := [_]) ok_X12_half ml_X12_285 dX12_text_220 rfl rfl rfl (Nat.le_of_ble_eq_true rfl) (by decide) (c_X12_half (σ := A) (u := 87) (n := 4) rfl (by decide) rfl (by decide)) (fun sh3 hh3 => ?_)
        subst hh3
        refine e_aload_n (q := 224) (i := 0) dX12_text_223 rfl rfl rfl ?_
        refine e_getR (q := 227) dX12_text_224 rfl fg_X12_25 (by first | assumption | rfl) rfl ?_
        refine e_Sv (q := 230) (vs := [_]) ok_X12_half ml_X12_285 dX12_text_227 rfl rfl rfl (Nat.le_of_ble_eq_true rfl) (by decide) (c_X12_half (σ := A) (u := 88) (n := 16) rfl (by decide) rfl (by decide)) (fun sh4 hh4 => ?_)
        subst hh4
        refine e_aload_n (q := 231) (i := 0) dX12_text_230 rfl rfl rfl ?_
        refine e_getR (q := 234) dX12_text_231 rfl fg_X12_28 (by first | assumption | rfl) rfl ?_
        refine e_Sv (q := 237) (vs := [_]) ok_X12_half ml_X12_285 dX12_text_234 rfl rfl rfl (Nat.le_of_ble_eq_true rfl) (by decide) (c_X12_half (σ := A) (u := 89) (n := 6) rfl (by decide) rfl (by decide)) (fun sh5 hh5 => ?_)
        subst hh5
        refine e_aload_n (q := 238) (i := 0) dX12_text_237 rfl rfl rfl ?_
        refine e_getR (q := 241) dX12_text_238 rfl fg_X12_31 (by first | assumption | rfl) rfl ?_
        refine e_Sv (q := 244) (vs := [_]) ok_X12_half ml_X12_285 dX12_text_241 rfl rfl rfl (Nat.le_of_ble_eq_true rfl) (by decide) (c_X12_half (σ := A) (u := 90) (n := 6) rfl (by decide) rfl (by decide)) (fun sh6 hh6 => ?_)
        subst hh6
        refine e_aload_n (q := 245) (i := 0) dX12_text_244 rfl rfl rfl ?_
        refine e_getR (q := 248) dX12_text_245 rfl fg_X12_34 (by first | assumption | rfl) rfl ?_
        refine e_Sv (q := 251) (vs := [_]) ok_X12_half ml_X12_285 dX12_text_248 rfl rfl rfl (Nat.le_of_ble_eq_true rfl) (by decide) (c_X12_half (σ := A) (u := 91) (n := 6) rfl (by decide) rfl (by decide)) (fun sh7 hh7 => ?_)
        subst hh7
        refine e_aload_n (q := 252) (i := 0) dX12_text_251 rfl rfl rfl ?_
        refine e_getR (q := 255) dX12_text_252 rfl fg_X12_37 (by first | assumption | rfl) rfl ?_
        refine e_Sv (q := 258) (vs := [_]) ok_X12_half ml_X12_285 dX12_text_255 rfl rfl rfl (Nat.le_of_ble_eq_true rfl) (by decide) (c_X12_half (σ := A) (u := 92) (n := 12) rfl (by decide) rfl (by decide)) (fun sh8 hh8 => ?_)
        subst hh8
        refine e_aload_n (q := 259) (i := 0) dX12_text_258 rfl rfl rfl ?_
        refine e_getR (q := 262) dX12_text_259 rfl fg_X12_40 (by first | assumption | rfl) rfl ?_
        refine e_Sv (q := 265) (vs := [_]) ok_X12_half ml_X12_285 dX12_text_262 rfl rfl rfl (Nat.le_of_ble_eq_true rfl) (by decide) (c_X12_half (σ := A) (u := 93) (n := 12) rfl (by decide) rfl (by decide)) (fun sh9 hh9 => ?_)
        subst hh9
        refine e_aload_n (q := 266) (i := 0) dX12_text_265 rfl rfl rfl ?_
        refine e_getR (q := 269) dX12_text_266 rfl fg_X12_43 (by first | assumption | rfl) rfl ?_
        refine e_Sv (q := 272) (vs := [_]) ok_X12_half ml_X12_285 dX12_text_269 rfl rfl rfl (Nat.le_of_ble_eq_true rfl) (by decide) (c_X12_half (σ := A) (u := 94) (n := 12) rfl (by decide) rfl (by decide)) (fun sh10 hh10 => ?_)
        subst hh10
        refine e_aload_n (q := 273) (i := 0) dX12_text_272 rfl rfl rfl ?_
        refine e_getR (q := 276) dX12_text_273 rfl fg_X12_46 (by first | assumption | rfl) rfl ?_
        refine e_Sv (q := 279) (vs := [_]) ok_X12_half ml_X12_285 dX12_text_276 rfl rfl rfl (Nat.le_of_ble_eq_true rfl) (by decide) (c_X12_half (σ := A) (u := 95) (n := 12) rfl (by decide) rfl (by decide)) (fun sh11 hh11 => ?_)
        subst hh11
        refine e_aload_n (q := 280) (i := 0) dX12_text_279 rfl rfl rfl ?_
        refine e_getR (q := 283) dX12_text_280 rfl fg_X12_49 (by first | assumption | rfl) rfl ?_
        refine e_Sv (q := 286) (vs := [_]) ok_X12_half ml_X12_285 dX12_text_283 rfl rfl rfl (Nat.le_of_ble_eq_true rfl) (by decide) (c_X12_half (σ := A) (u := 96) (n := 3) rfl (by decide) rfl (by decide)) (fun sh12 hh12 => ?_)
        subst hh12
        refine e_aload_n (q := 287) (i := 0) dX12_text_286 rfl rfl rfl ?_
        refine e_getR (q := 290) dX12_text_287 rfl fg_X12_52 (by first | assumption | rfl) rfl ?_
        refine e_Sv (q := 293) (vs := [_]) ok_X12_half ml_X12_285 dX12_text_290 rfl rfl rfl (Nat.le_of_ble_eq_true rfl) (by decide) (c_X12_half (σ := A) (u := 97) (n := 3) rfl (by decide) rfl (by decide)) (fun sh13 hh13 => ?_)
        subst hh13
        refine e_aload_n (q := 294) (i := 0) dX12_text_293 rfl rfl rfl ?_
        refine e_getR (q := 297) dX12_text_294 rfl fg_X12_55 (by first | assumption | rfl) rfl ?_
        refine e_Sv (q := 300) (vs := [_]) ok_X12_half ml_X12_285 dX12_text_297 rfl rfl rfl (Nat.le_of_ble_eq_true rfl) (by decide) (c_X12_half (σ := A) (u := 98) (n := 64) rfl (by decide) rfl (by decide)) (fun sh14 hh14 => ?_)
        subst hh14
        refine e_aload_n (q := 301) (i := 0) dX12_text_300 rfl rfl rfl ?_
        refine e_getR (q := 304) dX12_text_301 rfl fg_X12_58 (by first | assumption | rfl) rfl ?_
        refine e_Sv (q := 307) (vs := [_]) ok_X12_half ml_X12_285 dX12_text_304 rfl rfl rfl (Nat.le_of_ble_eq_true rfl) (by decide) (c_X12_half (σ := A) (u := 99) (n := 64) rfl (by decide) rfl (by decide)) (fun sh15 hh15 => ?_)
        subst hh15
        refine e_aload_n (q := 308) (i := 0) dX12_text_307 rfl rfl rfl ?_
        refine e_iconst (q := 309) dX12_text_308 rfl ?_
        refine e_putI (q := 312) (jz := 53) dX12_text_309 rfl fp_X12_289 rfl (by first | assumption | rfl) rfl ?_
        refine e_aload_n (q := 313) (i := 0) dX12_text_312 rfl rfl rfl ?_
        refine e_iconst (q := 314) dX12_text_313 rfl ?_
        refine e_putI (q := 317) (jz := 54) dX12_text_314 rfl fp_X12_105 rfl (by first | assumption | rfl) rfl ?_
        refine e_aload_n (q := 318) (i := 0) dX12_text_317 rfl rfl rfl ?_
        refine e_iconst (q := 319) dX12_text_318 rfl ?_
        refine e_putZ (q := 322) (jz := 42) dX12_text_319 rfl fp_X12_292 rfl (by first | assumption | rfl) rfl (by first | exact Or.inl rfl | exact Or.inr rfl | omega) ?_
        refine e_aload_n (q := 323) (i := 0) dX12_text_322 rfl rfl rfl ?_
        refine e_iconst (q := 324) dX12_text_323 rfl ?_
        refine e_putI (q := 327) (jz := 43) dX12_text_324 rfl fp_X12_296 rfl (by first | assumption | rfl) rfl ?_
        refine J_eq (τ := bgS τ) (fun a i => by rw [hA]; exact nr2_iZ _ a i) (by rw [hA]; rfl) ?_
        have hG0 : MG T := by
          obtain ⟨-, -, a3, -⟩ := hI
          unfold MG
          rw [(a3 86 (by decide)).1, (a3 87 (by decide)).1, (a3 90 (by decide)).1, (a3 91 (by decide)).1, (a3 92 (by decide)).1, (a3 93 (by decide)).1, (a3 94 (by decide)).1, (a3 95 (by decide)).1]
          exact hGm
        have hGt : MG τ := hF.2.2.2.2 hG0
        refine e_aload_n (q := 328) (i := 0) dX12_text_327 rfl rfl rfl ?_
        refine e_Vv (q := 331) (vs := []) ok_X12_begins ml_X12_133 dX12_text_328 rfl ⟨_, _, rfl⟩ (by first | assumption | rfl) rfl rfl (Nat.le_of_ble_eq_true rfl) (by decide) (c_X12_begins (bgS_MT hD.1 hO hGt)) (fun s28 h28 => ?_)
        refine e_aload_n (q := 332) (i := 0) dX12_text_331 rfl rfl rfl ?_
        refine e_getI (q := 335) (jz := 20) dX12_text_332 rfl fg_X12_213 rfl (by first | assumption | rfl) rfl ?_
        have F28 := h28.1
        have e20 : s28.1 82 20 = δ' 23 1 := by rw [F28.2 20 (by decide), bgS_82]; exact hD.1.1.2.2.2.2.2.2.1
        have e2 : s28.1 82 2 = 0 := by rw [F28.2 2 (by decide), bgS_82]; exact (hF.2.1 2 (by decide)).trans hI.1.1
        refine r_i dX12_text_335 rfl (Or.inr ⟨hm01, e2, ?_⟩)
        rw [hl]
        refine ⟨e20, hO, hP, bgS τ, h28, bgS_MT hD.1 hO hGt, bgS_Lo hD.1 hO, bgS_MG hGt, ((hI.2.2.1.mono (by decide)).tr hF.1).tr (bgS_Fr τ), ?_, ?_, ?_, ?_, ?_, ?_, ?_⟩
        · intro j hj
          simp only [FTB, List.mem_cons, List.not_mem_nil, or_false] at hj
          rw [bgS_82, if_neg (by omega), if_neg (by omega), if_neg (by omega), if_neg (by omega), if_neg (by omega), if_neg (by omega), hF.2.1 j (by simp only [List.mem_cons, List.not_mem_nil, or_false]; omega), hI.2.1 j (by simp only [List.mem_cons, List.not_mem_nil, or_false]; omega)]
        · rw [bgS_82]; exact hf
        · rw [bgS_82]; exact (hF.2.2.2.1 hf).2.trans hI.1.2.2.2.2.2.2.1
        · rw [bgS_82]; rfl
        · rw [bgS_82]; rfl
        · rw [bgS_82]; rfl
        · rw [bgS_82]; rfl
      have lp : ∀ (T : Sg) (k : Nat) (τ : Sg) (x2 : Option Value) (δ' : Dl) (ts : List Tk), TxI σ T m → MFr T τ → MK τ ts → τ.1 82 26 = 0 → MD τ δ' → DOk δ' → DPi δ' → (∀ x ∈ ts, tkG x) → ts.length ≤ k → δ' 23 1 + ts.length ≤ 701 → lText 701 δ (tkl (σ.1 83) m 0) = lText k δ' ts → J G 152 mX12_text (pI (fun z σ' => TxM σ σ' m δ z)) τ 148 [some (.ref (G.2.2.2 + 82)), some (.int (iZ m)), x2] [] := by
        intro T k
        induction k with
        | zero =>
          intro τ x2 δ' ts hI hF hC hf hD hO hP hG hk hl he
          obtain ⟨t, r, et⟩ := hC.ne
          rw [et] at hk
          simp only [List.length_cons] at hk
          omega
        | succ k ih =>
          intro τ x2 δ' ts hI hF hC hf hD hO hP hG hk hl he
          obtain ⟨t, r, et⟩ := hC.ne
          subst et
          obtain ⟨m1, m2, m3, m4⟩ := hC.hd
          have ms := m2.s m3.1 m3.2
          have mk := m2.k m3.1 m3.2
          have hl1 : δ' 23 1 + 1 ≤ 701 := by simp only [List.length_cons] at hl; omega
          refine e_aload_n (q := 149) (i := 0) dX12_text_148 rfl rfl rfl ?_
          refine e_getI (q := 152) (jz := 26) dX12_text_149 rfl fg_X12_190 rfl (by first | assumption | rfl) rfl ?_
          rw [hf]
          refine e_if_ne (q := 155) (tgt := 170) dX12_text_152 rfl (by decide) (fun c152 => by exfalso; omega) (fun c152 => ?_)
          refine e_aload_n (q := 156) (i := 0) dX12_text_155 rfl rfl rfl ?_
          refine e_getI (q := 159) (jz := 24) dX12_text_156 rfl fg_X12_155 rfl (by first | assumption | rfl) rfl ?_
          refine e_iconst (q := 160) dX12_text_159 rfl ?_
          refine e_icmp_eq (q := 163) (tgt := 170) dX12_text_160 rfl (by decide) (fun c160 => ?_) (fun c160 => ?_) (hx := ⟨by omega, by omega⟩)
          · exact fi T τ _ δ' (t :: r) hI hF hf hD hO hP (he.trans (lText_0 (show t.1 = 37 from mk.2.2.2.2.1.1 c160)))
          · refine e_aload_n (q := 164) (i := 0) dX12_text_163 rfl rfl rfl ?_
            refine e_Vv (q := 167) (vs := []) ok_X12_line ml_X12_279 dX12_text_164 rfl ⟨_, _, rfl⟩ (by first | assumption | rfl) rfl rfl (Nat.le_of_ble_eq_true rfl) (by decide) (c_X12_line hC hf hD.1 hD.2 hO hG) (fun s1 h1 => ?_)
            refine e_goto (tgt := 148) dX12_text_167 (by decide) ?_
            have h37 : hkd (t :: r) ≠ 37 := fun q => c160 (mk.2.2.2.2.1.2 q)
            cases hq : lLE δ' (t :: r) with
            | inl e =>
              rw [hq] at h1
              exact fl T s1 _ e hI ⟨hF.tr h1.1, h1.2⟩ (he.trans (lText_l h37 hq))
            | inr q =>
              rw [hq] at h1
              obtain ⟨g1, g2, g3, g4⟩ := h1
              have ok := lLE_ok hO hP hG hl1 hq
              have hk2 := ok.2.2.2.1
              simp only [List.length_cons] at hk hl hk2
              exact ih s1 _ q.1 q.2 hI (hF.tr g2) g3 g1 g4 ok.1 ok.2.1 ok.2.2.2.2 (by omega) (by have := ok.2.2.1; omega) (he.trans (lText_r h37 hq))
      have mn : ∀ (T : Sg) (x2 : Option Value), TxI σ T m → J G 152 mX12_text (pI (fun z σ' => TxM σ σ' m δ z)) T 144 [some (.ref (G.2.2.2 + 82)), some (.int (iZ m)), x2] [] := by
        intro T x2 hI
        have e83 : T.1 83 = σ.1 83 := (hI.2.2.1 83 (by decide)).1
        obtain ⟨g2, g19, g20, g21, g22, g26, g27, g30, g31, g25⟩ := hI.1
        have hM : MTp T := ⟨by rw [g21]; omega, by rw [e83]; exact hBy⟩
        refine e_aload_n (q := 145) (i := 0) dX12_text_144 rfl rfl rfl ?_
        refine e_Vv (q := 148) (vs := []) ok_X12_token ml_X12_196 dX12_text_145 rfl ⟨_, _, rfl⟩ (by first | assumption | rfl) rfl rfl (Nat.le_of_ble_eq_true rfl) (by decide) (c_X12_token (σ := T) hM (by omega) (by omega) g25) (fun s5 h5 => ?_)
        have k5 := h5.mk hM (by omega) (by omega)
        rw [e83, g21, g22] at k5
        have F5 : MFr T s5 := MFr.fm h5.1 (by decide)
        have d5 := TxI_MD hI hZ
        have e1 : δ 23 1 = 0 := hZ.1.2.1
        exact lp T 701 s5 _ δ _ hI F5 k5 (by rw [h5.1.2 26 (by decide)]; exact g26) ⟨d5.1.fm h5.1 (by decide), by rw [h5.1.2 19 (by decide)]; exact d5.2⟩ hO (DZ_dp hZ) (tkl_good (by decide) (by omega)) (tkl_len (by decide) (by omega)) (by have := tkl_len (b := σ.1 83) (n := m) (a := 0) (by decide) (by omega); omega) rfl
      have l3 : ∀ (n : Nat) (i : Int), 16 ≤ i → i + n = 32 → J G 152 mX12_text (pI (fun z σ' => TxM σ σ' m δ z)) (flA (flA (flA (flA (sI (sI (sI (sI (sI (sI σ 82 25 v) 82 21 m) 82 2 0) 82 22 0) 82 26 0) 82 27 (-1)) 84 7 7 (fun j => if j = 7 then 20 else 0)) 96 3 3 (fun _ => 0)) 97 3 3 (fun _ => 0)) 88 16 (i - 16) (fun _ => 0)) 105 [some (.ref (G.2.2.2 + 82)), some (.int (iZ m)), some (.int (iZ i))] [] := by
        intro n
        induction n with
        | zero =>
          intro i i0 hi
          refine e_iload_n (q := 106) (i := 2) dX12_text_105 rfl rfl rfl ?_
          refine e_bipush (q := 108) dX12_text_106 rfl (by decide) ?_
          refine e_icmp_ge (q := 111) (tgt := 124) dX12_text_108 rfl (by decide) (fun c108 => ?_) (fun c108 => by exfalso; omega)
          refine e_aload_n (q := 125) (i := 0) dX12_text_124 rfl rfl rfl ?_
          refine e_iconst (q := 126) dX12_text_125 rfl ?_
          refine e_putI (q := 129) (jz := 19) dX12_text_126 rfl fp_X12_219 rfl (by first | assumption | rfl) rfl ?_
          refine e_aload_n (q := 130) (i := 0) dX12_text_129 rfl rfl rfl ?_
          refine e_iconst (q := 131) dX12_text_130 rfl ?_
          refine e_putI (q := 134) (jz := 20) dX12_text_131 rfl fp_X12_213 rfl (by first | assumption | rfl) rfl ?_
          refine e_aload_n (q := 135) (i := 0) dX12_text_134 rfl rfl rfl ?_
          refine e_iconst (q := 136) dX12_text_135 rfl ?_
          refine e_putI (q := 139) (jz := 30) dX12_text_136 rfl fp_X12_276 rfl (by first | assumption | rfl) rfl ?_
          refine e_aload_n (q := 140) (i := 0) dX12_text_139 rfl rfl rfl ?_
          refine e_iconst (q := 141) dX12_text_140 rfl ?_
          refine e_putI (q := 144) (jz := 31) dX12_text_141 rfl fp_X12_249 rfl (by first | assumption | rfl) rfl ?_
          exact mn _ _ (by rw [show i - 16 = 16 by omega]; exact txS_I (σ := σ) (m := m) hv)
        | succ n ih =>
          intro i i0 hi
          refine e_iload_n (q := 106) (i := 2) dX12_text_105 rfl rfl rfl ?_
          refine e_bipush (q := 108) dX12_text_106 rfl (by decide) ?_
          refine e_icmp_ge (q := 111) (tgt := 124) dX12_text_108 rfl (by decide) (fun c108 => by exfalso; omega) (fun c108 => ?_)
          refine e_aload_n (q := 112) (i := 0) dX12_text_111 rfl rfl rfl ?_
          refine e_getR (q := 115) dX12_text_112 rfl fg_X12_25 (by first | assumption | rfl) rfl ?_
          refine e_iload_n (q := 116) (i := 2) dX12_text_115 rfl rfl rfl ?_
          refine e_iconst (q := 117) dX12_text_116 rfl ?_
          refine e_iast (q := 118) dX12_text_117 rfl (by first | assumption | rfl) ?_ (by omega) (by omega)
          rw [flA_s (flA (flA (flA (sI (sI (sI (sI (sI (sI σ 82 25 v) 82 21 m) 82 2 0) 82 22 0) 82 26 0) 82 27 (-1)) 84 7 7 (fun j => if j = 7 then 20 else 0)) 96 3 3 (fun _ => 0)) 97 3 3 (fun _ => 0)) 88 (by omega) (show i = 16 + (i - 16) by omega) rfl, show i - 16 + 1 = i + 1 - 16 by omega]
          refine e_iinc (q := 121) (L' := [_, _, _]) dX12_text_118 rfl rfl (by decide) rfl rfl ?_
          refine e_goto (tgt := 105) dX12_text_121 (by decide) ?_
          exact ih (i + 1) (by omega) (by omega)
      have l2 : ∀ (n : Nat) (i : Int), 3 ≤ i → i + n = 6 → J G 152 mX12_text (pI (fun z σ' => TxM σ σ' m δ z)) (flA (flA (flA (sI (sI (sI (sI (sI (sI σ 82 25 v) 82 21 m) 82 2 0) 82 22 0) 82 26 0) 82 27 (-1)) 84 7 7 (fun j => if j = 7 then 20 else 0)) 96 3 (i - 3) (fun _ => 0)) 97 3 (i - 3) (fun _ => 0)) 76 [some (.ref (G.2.2.2 + 82)), some (.int (iZ m)), some (.int (iZ i))] [] := by
        intro n
        induction n with
        | zero =>
          intro i i0 hi
          refine e_iload_n (q := 77) (i := 2) dX12_text_76 rfl rfl rfl ?_
          refine e_bipush (q := 79) dX12_text_77 rfl (by decide) ?_
          refine e_icmp_ge (q := 82) (tgt := 102) dX12_text_79 rfl (by decide) (fun c79 => ?_) (fun c79 => by exfalso; omega)
          refine e_bipush (q := 104) dX12_text_102 rfl (by decide) ?_
          refine e_istore_n (q := 105) (i := 2) (L' := [_, _, _]) dX12_text_104 rfl rfl (by decide) rfl rfl ?_
          have h0 := l3 16 16 (by decide) (by decide)
          rw [show (16 : Int) - 16 = 0 by decide, flA_0] at h0
          rw [show i - 3 = 3 by omega]
          exact h0
        | succ n ih =>
          intro i i0 hi
          refine e_iload_n (q := 77) (i := 2) dX12_text_76 rfl rfl rfl ?_
          refine e_bipush (q := 79) dX12_text_77 rfl (by decide) ?_
          refine e_icmp_ge (q := 82) (tgt := 102) dX12_text_79 rfl (by decide) (fun c79 => by exfalso; omega) (fun c79 => ?_)
          refine e_aload_n (q := 83) (i := 0) dX12_text_82 rfl rfl rfl ?_
          refine e_getR (q := 86) dX12_text_83 rfl fg_X12_49 (by first | assumption | rfl) rfl ?_
          refine e_iload_n (q := 87) (i := 2) dX12_text_86 rfl rfl rfl ?_
          refine e_iconst (q := 88) dX12_text_87 rfl ?_
          refine e_iast (q := 89) dX12_text_88 rfl (by first | assumption | rfl) ?_ (by omega) (by omega)
          refine e_aload_n (q := 90) (i := 0) dX12_text_89 rfl rfl rfl ?_
          refine e_getR (q := 93) dX12_text_90 rfl fg_X12_52 (by first | assumption | rfl) rfl ?_
          refine e_iload_n (q := 94) (i := 2) dX12_text_93 rfl rfl rfl ?_
          refine e_iconst (q := 95) dX12_text_94 rfl ?_
          refine e_iast (q := 96) dX12_text_95 rfl (by first | assumption | rfl) ?_ (by omega) (by omega)
          rw [flA_c _ (show (97 : Nat) ≠ 96 by decide), flA_s _ 96 (by omega) (show i = 3 + (i - 3) by omega) rfl, flA_s _ 97 (by omega) (show i = 3 + (i - 3) by omega) rfl, show i - 3 + 1 = i + 1 - 3 by omega]
          refine e_iinc (q := 99) (L' := [_, _, _]) dX12_text_96 rfl rfl (by decide) rfl rfl ?_
          refine e_goto (tgt := 76) dX12_text_99 (by decide) ?_
          exact ih (i + 1) (by omega) (by omega)
      have l1 : ∀ (n : Nat) (i : Int), 0 ≤ i → i + n = 7 → J G 152 mX12_text (pI (fun z σ' => TxM σ σ' m δ z)) (flA (sI (sI (sI (sI (sI (sI σ 82 25 v) 82 21 m) 82 2 0) 82 22 0) 82 26 0) 82 27 (-1)) 84 7 i (fun j => if j = 7 then 20 else 0)) 47 [some (.ref (G.2.2.2 + 82)), some (.int (iZ m)), some (.int (iZ i))] [] := by
        intro n
        induction n with
        | zero =>
          intro i i0 hi
          refine e_iload_n (q := 48) (i := 2) dX12_text_47 rfl rfl rfl ?_
          refine e_bipush (q := 50) dX12_text_48 rfl (by decide) ?_
          refine e_icmp_ge (q := 53) (tgt := 74) dX12_text_50 rfl (by decide) (fun c50 => ?_) (fun c50 => by exfalso; omega)
          refine e_iconst (q := 75) dX12_text_74 rfl ?_
          refine e_istore_n (q := 76) (i := 2) (L' := [_, _, _]) dX12_text_75 rfl rfl (by decide) rfl rfl ?_
          have h0 := l2 3 3 (by decide) (by decide)
          rw [show (3 : Int) - 3 = 0 by decide, flA_0, flA_0] at h0
          rw [show i = 7 by omega]
          exact h0
        | succ n ih =>
          intro i i0 hi
          refine e_iload_n (q := 48) (i := 2) dX12_text_47 rfl rfl rfl ?_
          refine e_bipush (q := 50) dX12_text_48 rfl (by decide) ?_
          refine e_icmp_ge (q := 53) (tgt := 74) dX12_text_50 rfl (by decide) (fun c50 => by exfalso; omega) (fun c50 => ?_)
          refine e_aload_n (q := 54) (i := 0) dX12_text_53 rfl rfl rfl ?_
          refine e_iload_n (q := 55) (i := 2) dX12_text_54 rfl rfl rfl ?_
          refine e_iload_n (q := 56) (i := 2) dX12_text_55 rfl rfl rfl ?_
          refine e_if_ne (q := 59) (tgt := 64) dX12_text_56 rfl (by decide) (fun c56 => ?_) (fun c56 => ?_)
          · refine e_iconst (q := 65) dX12_text_64 rfl ?_
            refine e_Vv (q := 68) (vs := [_, _]) ok_X12_reads ml_X12_226 dX12_text_65 rfl ⟨_, _, rfl⟩ (by first | assumption | rfl) rfl rfl (Nat.le_of_ble_eq_true rfl) (by decide) (c_X12_reads (by omega) (by omega)) (fun s65 h65 => ?_)
            subst h65
            rw [flA_s (sI (sI (sI (sI (sI (sI σ 82 25 v) 82 21 m) 82 2 0) 82 22 0) 82 26 0) 82 27 (-1)) 84 i0 rfl (show (0 : Int) = if 7 + i = 7 then 20 else 0 from (if_neg (by omega)).symm)]
            refine e_iinc (q := 71) (L' := [_, _, _]) dX12_text_68 rfl rfl (by decide) rfl rfl ?_
            refine e_goto (tgt := 47) dX12_text_71 (by decide) ?_
            exact ih (i + 1) (by omega) (by omega)
          · refine e_bipush (q := 61) dX12_text_59 rfl (by decide) ?_
            refine e_goto (tgt := 65) dX12_text_61 (by decide) ?_
            refine e_Vv (q := 68) (vs := [_, _]) ok_X12_reads ml_X12_226 dX12_text_65 rfl ⟨_, _, rfl⟩ (by first | assumption | rfl) rfl rfl (Nat.le_of_ble_eq_true rfl) (by decide) (c_X12_reads (by omega) (by omega)) (fun s65 h65 => ?_)
            subst h65
            rw [flA_s (sI (sI (sI (sI (sI (sI σ 82 25 v) 82 21 m) 82 2 0) 82 22 0) 82 26 0) 82 27 (-1)) 84 i0 rfl (show (20 : Int) = if 7 + i = 7 then 20 else 0 from (if_pos (by omega)).symm)]
            refine e_iinc (q := 71) (L' := [_, _, _]) dX12_text_68 rfl rfl (by decide) rfl rfl ?_
            refine e_goto (tgt := 47) dX12_text_71 (by decide) ?_
            exact ih (i + 1) (by omega) (by omega)
      refine J_eq (τ := sI σ 82 25 v) (fun a i => ?_) rfl ?_
      · rw [sI_1]
        by_cases q : a = 82 ∧ i = 25
        · rw [if_pos q, q.1, q.2]; exact hvz
        · rw [if_neg q]
      refine e_aload_n (q := 21) (i := 0) dX12_text_20 rfl rfl rfl ?_
      refine e_iload_n (q := 22) (i := 1) dX12_text_21 rfl rfl rfl ?_
      refine e_putI (q := 25) (jz := 21) dX12_text_22 rfl fp_X12_145 rfl (by first | assumption | rfl) rfl ?_
      refine e_aload_n (q := 26) (i := 0) dX12_text_25 rfl rfl rfl ?_
      refine e_iconst (q := 27) dX12_text_26 rfl ?_
      refine e_putI (q := 30) (jz := 2) dX12_text_27 rfl fp_X12_139 rfl (by first | assumption | rfl) rfl ?_
      refine e_aload_n (q := 31) (i := 0) dX12_text_30 rfl rfl rfl ?_
      refine e_iconst (q := 32) dX12_text_31 rfl ?_
      refine e_putI (q := 35) (jz := 22) dX12_text_32 rfl fp_X12_142 rfl (by first | assumption | rfl) rfl ?_
      refine e_aload_n (q := 36) (i := 0) dX12_text_35 rfl rfl rfl ?_
      refine e_iconst (q := 37) dX12_text_36 rfl ?_
      refine e_putI (q := 40) (jz := 26) dX12_text_37 rfl fp_X12_190 rfl (by first | assumption | rfl) rfl ?_
      refine e_aload_n (q := 41) (i := 0) dX12_text_40 rfl rfl rfl ?_
      refine e_iconst (q := 42) dX12_text_41 rfl ?_
      refine e_putI (q := 45) (jz := 27) dX12_text_42 rfl fp_X12_193 rfl (by first | assumption | rfl) rfl ?_
      refine e_iconst (q := 46) dX12_text_45 rfl ?_
      refine e_istore_n (q := 47) (i := 2) (L' := [_, _, _]) dX12_text_46 rfl rfl (by decide) rfl rfl ?_
      have h0 := l1 7 0 (by decide) (by decide)
      rw [flA_0] at h0
      exact h0
    · refine e_bipush (q := 19) dX12_text_17 rfl (by decide) ?_
      exact r_i dX12_text_19 rfl (Or.inl ⟨by omega, rfl, rfl⟩)

