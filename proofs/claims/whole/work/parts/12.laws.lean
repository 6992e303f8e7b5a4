theorem tdiv_lim {a b : Int} (h0 : -1000000000000 ≤ a) (h1 : a ≤ 1000000000000) : -1000000000000 ≤ a.tdiv b ∧ a.tdiv b ≤ 1000000000000 := by
  have := Int.natAbs_tdiv_le_natAbs a b
  omega
theorem mul_abs {a b : Int} (h : ¬ (a ≠ 0 ∧ 1000000000000 / max a (-a) < max b (-b))) : -1000000000000 ≤ a * b ∧ a * b ≤ 1000000000000 := by
  by_cases ha : a = 0
  · subst ha
    rw [Int.zero_mul]
    omega
  have h2 : max b (-b) ≤ 1000000000000 / max a (-a) := by
    have : ¬ 1000000000000 / max a (-a) < max b (-b) := fun q => h ⟨ha, q⟩
    omega
  have h3 := mul_lim (a := max a (-a)) (b := max b (-b)) (by omega) (by omega) h2
  have e : max a (-a) * max b (-b) = max (a * b) (-(a * b)) := by
    rcases Int.le_total 0 a with p | p <;> rcases Int.le_total 0 b with q | q
    · have := Int.mul_nonneg p q
      rw [show max a (-a) = a by omega, show max b (-b) = b by omega]; omega
    · have := Int.mul_nonneg p (show 0 ≤ -b by omega)
      rw [Int.mul_neg] at this
      rw [show max a (-a) = a by omega, show max b (-b) = -b by omega, Int.mul_neg]; omega
    · have := Int.mul_nonneg (show 0 ≤ -a by omega) q
      rw [Int.neg_mul] at this
      rw [show max a (-a) = -a by omega, show max b (-b) = b by omega, Int.neg_mul]; omega
    · have := Int.mul_nonneg (show 0 ≤ -a by omega) (show 0 ≤ -b by omega)
      rw [Int.neg_mul_neg] at this
      rw [show max a (-a) = -a by omega, show max b (-b) = -b by omega, Int.neg_mul_neg]; omega
  omega
theorem jn_R {t a b : Int} (ha : -1000000000000 ≤ a ∧ a ≤ 1000000000000) (hb : -1000000000000 ≤ b ∧ b ≤ 1000000000000) : R64 (jn t a b) := by
  have hm : R64 (-9223372036854775808) := ⟨by decide, by decide⟩
  have h1 : R64 1 := ⟨by decide, by decide⟩
  have h0 : R64 0 := ⟨by decide, by decide⟩
  have ht := tdiv_lim (b := b) ha.1 ha.2
  unfold jn
  by_cases t11 : t = 11
  · rw [if_pos t11]
    split <;> assumption
  rw [if_neg t11]
  by_cases t12 : t = 12
  · rw [if_pos t12]
    split <;> assumption
  rw [if_neg t12]
  by_cases t30 : t = 30
  · rw [if_pos t30]
    split <;> assumption
  rw [if_neg t30]
  by_cases t31 : t = 31
  · rw [if_pos t31]
    split <;> assumption
  rw [if_neg t31]
  by_cases t32 : t = 32
  · rw [if_pos t32]
    split <;> assumption
  rw [if_neg t32]
  by_cases t33 : t = 33
  · rw [if_pos t33]
    split <;> assumption
  rw [if_neg t33]
  by_cases t34 : t = 34
  · rw [if_pos t34]
    split <;> assumption
  rw [if_neg t34]
  by_cases t35 : t = 35
  · rw [if_pos t35]
    split <;> assumption
  rw [if_neg t35]
  by_cases t26 : t = 26
  · rw [if_pos t26]
    exact ⟨by omega, by omega⟩
  rw [if_neg t26]
  by_cases t27 : t = 27
  · rw [if_pos t27]
    exact ⟨by omega, by omega⟩
  rw [if_neg t27]
  by_cases t28 : t = 28
  · rw [if_pos t28]
    by_cases q : a ≠ 0 ∧ 1000000000000 / max a (-a) < max b (-b)
    · rw [if_pos q]
      exact hm
    · rw [if_neg q]
      have := mul_abs q
      exact ⟨by omega, by omega⟩
  rw [if_neg t28]
  by_cases q : b = 0
  · rw [if_pos q]
    exact hm
  · rw [if_neg q]
    exact ⟨by omega, by omega⟩

set_option maxHeartbeats 4000000 in
theorem c_X3_joined {G : Gx} {σ : Sg} {t a b : Int} (ht : t = 11 ∨ t = 12 ∨ (26 ≤ t ∧ t ≤ 35)) (ha : -1000000000000 ≤ a ∧ a ≤ 1000000000000) (hb : -1000000000000 ≤ b ∧ b ≤ 1000000000000) : Con G 1 mX3_joined [.int (iZ t), .long (lZ a), .long (lZ b)] σ (pL (pE σ (jn t a b))) := by
  refine e_entry om_X3_joined (Nat.le_of_ble_eq_true rfl) (L := [some (.int (iZ t)), some (.long (lZ a)), none, some (.long (lZ b)), none, none, none]) rfl ?_
  refine e_iload_n (q := 1) (i := 0) dX3_joined_0 rfl rfl rfl ?_
  by_cases k1_11 : t = 11
  · refine e_tabIn (tgt := 116) dX3_joined_1 ⟨by omega, by omega⟩ (by omega) (by omega) (by rw [k1_11]; rfl) (by decide) ?_
    refine e_lload_n (q := 117) (i := 1) dX3_joined_116 rfl rfl rfl ?_
    refine e_lconst (q := 118) (z := 0) dX3_joined_117 rfl (by decide) ?_
    refine e_lcmp (q := 119) dX3_joined_118 rfl (by first | assumption | exact ⟨by omega, by omega⟩) (by first | assumption | exact ⟨by omega, by omega⟩) ?_
    refine e_if_ne (q := 122) (tgt := 128) dX3_joined_119 rfl (by decide) (fun c119 => ?_) (fun c119 => ?_)
    · refine e_lconst (q := 129) (z := 1) dX3_joined_128 rfl (by decide) ?_
      refine e_goto (tgt := 133) dX3_joined_129 (by decide) ?_
      exact r_l dX3_joined_133 rfl ⟨by rw [k1_11]; show _ = (if a ≠ 0 ∨ b ≠ 0 then 1 else 0); split <;> omega, rfl⟩
    · refine e_lload_n (q := 123) (i := 3) dX3_joined_122 rfl rfl rfl ?_
      refine e_lconst (q := 124) (z := 0) dX3_joined_123 rfl (by decide) ?_
      refine e_lcmp (q := 125) dX3_joined_124 rfl (by first | assumption | exact ⟨by omega, by omega⟩) (by first | assumption | exact ⟨by omega, by omega⟩) ?_
      refine e_if_eq (q := 128) (tgt := 132) dX3_joined_125 rfl (by decide) (fun c125 => ?_) (fun c125 => ?_)
      · refine e_lconst (q := 133) (z := 0) dX3_joined_132 rfl (by decide) ?_
        exact r_l dX3_joined_133 rfl ⟨by rw [k1_11]; show _ = (if a ≠ 0 ∨ b ≠ 0 then 1 else 0); split <;> omega, rfl⟩
      · refine e_lconst (q := 129) (z := 1) dX3_joined_128 rfl (by decide) ?_
        refine e_goto (tgt := 133) dX3_joined_129 (by decide) ?_
        exact r_l dX3_joined_133 rfl ⟨by rw [k1_11]; show _ = (if a ≠ 0 ∨ b ≠ 0 then 1 else 0); split <;> omega, rfl⟩
  by_cases k1_12 : t = 12
  · refine e_tabIn (tgt := 134) dX3_joined_1 ⟨by omega, by omega⟩ (by omega) (by omega) (by rw [k1_12]; rfl) (by decide) ?_
    refine e_lload_n (q := 135) (i := 1) dX3_joined_134 rfl rfl rfl ?_
    refine e_lconst (q := 136) (z := 0) dX3_joined_135 rfl (by decide) ?_
    refine e_lcmp (q := 137) dX3_joined_136 rfl (by first | assumption | exact ⟨by omega, by omega⟩) (by first | assumption | exact ⟨by omega, by omega⟩) ?_
    refine e_if_eq (q := 140) (tgt := 150) dX3_joined_137 rfl (by decide) (fun c137 => ?_) (fun c137 => ?_)
    · refine e_lconst (q := 151) (z := 0) dX3_joined_150 rfl (by decide) ?_
      exact r_l dX3_joined_151 rfl ⟨by rw [k1_12]; show _ = (if a ≠ 0 ∧ b ≠ 0 then 1 else 0); split <;> omega, rfl⟩
    · refine e_lload_n (q := 141) (i := 3) dX3_joined_140 rfl rfl rfl ?_
      refine e_lconst (q := 142) (z := 0) dX3_joined_141 rfl (by decide) ?_
      refine e_lcmp (q := 143) dX3_joined_142 rfl (by first | assumption | exact ⟨by omega, by omega⟩) (by first | assumption | exact ⟨by omega, by omega⟩) ?_
      refine e_if_eq (q := 146) (tgt := 150) dX3_joined_143 rfl (by decide) (fun c143 => ?_) (fun c143 => ?_)
      · refine e_lconst (q := 151) (z := 0) dX3_joined_150 rfl (by decide) ?_
        exact r_l dX3_joined_151 rfl ⟨by rw [k1_12]; show _ = (if a ≠ 0 ∧ b ≠ 0 then 1 else 0); split <;> omega, rfl⟩
      · refine e_lconst (q := 147) (z := 1) dX3_joined_146 rfl (by decide) ?_
        refine e_goto (tgt := 151) dX3_joined_147 (by decide) ?_
        exact r_l dX3_joined_151 rfl ⟨by rw [k1_12]; show _ = (if a ≠ 0 ∧ b ≠ 0 then 1 else 0); split <;> omega, rfl⟩
  by_cases k1_26 : t = 26
  · refine e_tabIn (tgt := 224) dX3_joined_1 ⟨by omega, by omega⟩ (by omega) (by omega) (by rw [k1_26]; rfl) (by decide) ?_
    refine e_lload_n (q := 225) (i := 1) dX3_joined_224 rfl rfl rfl ?_
    refine e_lload_n (q := 226) (i := 3) dX3_joined_225 rfl rfl rfl ?_
    refine e_ladd (q := 227) dX3_joined_226 rfl ?_
    exact r_l dX3_joined_227 rfl ⟨by rw [k1_26]; rfl, rfl⟩
  by_cases k1_27 : t = 27
  · refine e_tabIn (tgt := 228) dX3_joined_1 ⟨by omega, by omega⟩ (by omega) (by omega) (by rw [k1_27]; rfl) (by decide) ?_
    refine e_lload_n (q := 229) (i := 1) dX3_joined_228 rfl rfl rfl ?_
    refine e_lload_n (q := 230) (i := 3) dX3_joined_229 rfl rfl rfl ?_
    refine e_lsub (q := 231) dX3_joined_230 rfl ?_
    exact r_l dX3_joined_231 rfl ⟨by rw [k1_27]; rfl, rfl⟩
  by_cases k1_28 : t = 28
  · refine e_tabIn (tgt := 232) dX3_joined_1 ⟨by omega, by omega⟩ (by omega) (by omega) (by rw [k1_28]; rfl) (by decide) ?_
    refine e_lload_n (q := 233) (i := 1) dX3_joined_232 rfl rfl rfl ?_
    refine e_lconst (q := 234) (z := 0) dX3_joined_233 rfl (by decide) ?_
    refine e_lcmp (q := 235) dX3_joined_234 rfl (by first | assumption | exact ⟨by omega, by omega⟩) (by first | assumption | exact ⟨by omega, by omega⟩) ?_
    refine e_if_ne (q := 238) (tgt := 244) dX3_joined_235 rfl (by decide) (fun c235 => ?_) (fun c235 => ?_)
    · refine e_ldc2 (q := 247) (z := 1000000000000) dX3_joined_244 rfl kw_X3_53 (by decide) ?_
      refine e_lload_n (q := 248) (i := 1) dX3_joined_247 rfl rfl rfl ?_
      refine e_lconst (q := 249) (z := 0) dX3_joined_248 rfl (by decide) ?_
      refine e_lcmp (q := 250) dX3_joined_249 rfl (by first | assumption | exact ⟨by omega, by omega⟩) (by first | assumption | exact ⟨by omega, by omega⟩) ?_
      refine e_if_ge (q := 253) (tgt := 258) dX3_joined_250 rfl (by decide) (fun c250 => ?_) (fun c250 => ?_)
      · refine e_lload_n (q := 259) (i := 1) dX3_joined_258 rfl rfl rfl ?_
        refine e_ldiv (q := 260) dX3_joined_259 rfl (lZ_ne0 ⟨by omega, by omega⟩ (by omega)) (lZ_div (by omega) (by omega) (by omega) (by omega)) ?_
        have hm0 := Int.ediv_nonneg (show (0 : Int) ≤ 1000000000000 by decide) (show 0 ≤ a by omega)
        have hm1 := Int.ediv_le_self a (show (0 : Int) ≤ 1000000000000 by decide)
        have hmx : max a (-a) = a := by omega
        refine e_lstore (q := 262) (L' := [_, _, _, _, _, _, _]) dX3_joined_260 rfl (by decide) rfl rfl ?_
        refine e_lload_n (q := 263) (i := 3) dX3_joined_262 rfl rfl rfl ?_
        refine e_lload (q := 265) dX3_joined_263 rfl rfl ?_
        refine e_lcmp (q := 266) dX3_joined_265 rfl (by first | assumption | exact ⟨by omega, by omega⟩) (by first | assumption | exact ⟨by omega, by omega⟩) ?_
        refine e_if_gt (q := 269) (tgt := 277) dX3_joined_266 rfl (by decide) (fun c266 => ?_) (fun c266 => ?_)
        · refine e_ldc2 (q := 280) (z := -9223372036854775808) dX3_joined_277 rfl kw_X3_45 (by decide) ?_
          refine e_goto (tgt := 286) dX3_joined_280 (by decide) ?_
          exact r_l dX3_joined_286 rfl ⟨by rw [k1_28]; show _ = (if a ≠ 0 ∧ 1000000000000 / max a (-a) < max b (-b) then (-9223372036854775808) else a * b); rw [hmx]; first | (rw [if_pos (by omega)]; done) | (rw [if_neg (by omega)]; done), rfl⟩
        · refine e_lload_n (q := 270) (i := 3) dX3_joined_269 rfl rfl rfl ?_
          refine e_lload (q := 272) dX3_joined_270 rfl rfl ?_
          refine e_lneg (q := 273) dX3_joined_272 rfl ?_
          refine e_lcmp (q := 274) dX3_joined_273 rfl (by first | assumption | exact ⟨by omega, by omega⟩) (by first | assumption | exact ⟨by omega, by omega⟩) ?_
          refine e_if_ge (q := 277) (tgt := 283) dX3_joined_274 rfl (by decide) (fun c274 => ?_) (fun c274 => ?_)
          · refine e_lload_n (q := 284) (i := 1) dX3_joined_283 rfl rfl rfl ?_
            refine e_lload_n (q := 285) (i := 3) dX3_joined_284 rfl rfl rfl ?_
            refine e_lmul (q := 286) dX3_joined_285 rfl ?_
            exact r_l dX3_joined_286 rfl ⟨by rw [k1_28]; show _ = (if a ≠ 0 ∧ 1000000000000 / max a (-a) < max b (-b) then (-9223372036854775808) else a * b); rw [hmx]; first | (rw [if_pos (by omega)]; done) | (rw [if_neg (by omega)]; done), rfl⟩
          · refine e_ldc2 (q := 280) (z := -9223372036854775808) dX3_joined_277 rfl kw_X3_45 (by decide) ?_
            refine e_goto (tgt := 286) dX3_joined_280 (by decide) ?_
            exact r_l dX3_joined_286 rfl ⟨by rw [k1_28]; show _ = (if a ≠ 0 ∧ 1000000000000 / max a (-a) < max b (-b) then (-9223372036854775808) else a * b); rw [hmx]; first | (rw [if_pos (by omega)]; done) | (rw [if_neg (by omega)]; done), rfl⟩
      · refine e_lload_n (q := 254) (i := 1) dX3_joined_253 rfl rfl rfl ?_
        refine e_lneg (q := 255) dX3_joined_254 rfl ?_
        refine e_goto (tgt := 259) dX3_joined_255 (by decide) ?_
        refine e_ldiv (q := 260) dX3_joined_259 rfl (lZ_ne0 ⟨by omega, by omega⟩ (by omega)) (lZ_div (by omega) (by omega) (by omega) (by omega)) ?_
        have hm0 := Int.ediv_nonneg (show (0 : Int) ≤ 1000000000000 by decide) (show 0 ≤ -a by omega)
        have hm1 := Int.ediv_le_self (-a) (show (0 : Int) ≤ 1000000000000 by decide)
        have hmx : max a (-a) = -a := by omega
        refine e_lstore (q := 262) (L' := [_, _, _, _, _, _, _]) dX3_joined_260 rfl (by decide) rfl rfl ?_
        refine e_lload_n (q := 263) (i := 3) dX3_joined_262 rfl rfl rfl ?_
        refine e_lload (q := 265) dX3_joined_263 rfl rfl ?_
        refine e_lcmp (q := 266) dX3_joined_265 rfl (by first | assumption | exact ⟨by omega, by omega⟩) (by first | assumption | exact ⟨by omega, by omega⟩) ?_
        refine e_if_gt (q := 269) (tgt := 277) dX3_joined_266 rfl (by decide) (fun c266 => ?_) (fun c266 => ?_)
        · refine e_ldc2 (q := 280) (z := -9223372036854775808) dX3_joined_277 rfl kw_X3_45 (by decide) ?_
          refine e_goto (tgt := 286) dX3_joined_280 (by decide) ?_
          exact r_l dX3_joined_286 rfl ⟨by rw [k1_28]; show _ = (if a ≠ 0 ∧ 1000000000000 / max a (-a) < max b (-b) then (-9223372036854775808) else a * b); rw [hmx]; first | (rw [if_pos (by omega)]; done) | (rw [if_neg (by omega)]; done), rfl⟩
        · refine e_lload_n (q := 270) (i := 3) dX3_joined_269 rfl rfl rfl ?_
          refine e_lload (q := 272) dX3_joined_270 rfl rfl ?_
          refine e_lneg (q := 273) dX3_joined_272 rfl ?_
          refine e_lcmp (q := 274) dX3_joined_273 rfl (by first | assumption | exact ⟨by omega, by omega⟩) (by first | assumption | exact ⟨by omega, by omega⟩) ?_
          refine e_if_ge (q := 277) (tgt := 283) dX3_joined_274 rfl (by decide) (fun c274 => ?_) (fun c274 => ?_)
          · refine e_lload_n (q := 284) (i := 1) dX3_joined_283 rfl rfl rfl ?_
            refine e_lload_n (q := 285) (i := 3) dX3_joined_284 rfl rfl rfl ?_
            refine e_lmul (q := 286) dX3_joined_285 rfl ?_
            exact r_l dX3_joined_286 rfl ⟨by rw [k1_28]; show _ = (if a ≠ 0 ∧ 1000000000000 / max a (-a) < max b (-b) then (-9223372036854775808) else a * b); rw [hmx]; first | (rw [if_pos (by omega)]; done) | (rw [if_neg (by omega)]; done), rfl⟩
          · refine e_ldc2 (q := 280) (z := -9223372036854775808) dX3_joined_277 rfl kw_X3_45 (by decide) ?_
            refine e_goto (tgt := 286) dX3_joined_280 (by decide) ?_
            exact r_l dX3_joined_286 rfl ⟨by rw [k1_28]; show _ = (if a ≠ 0 ∧ 1000000000000 / max a (-a) < max b (-b) then (-9223372036854775808) else a * b); rw [hmx]; first | (rw [if_pos (by omega)]; done) | (rw [if_neg (by omega)]; done), rfl⟩
    · refine e_ldc2 (q := 241) (z := 1000000000000) dX3_joined_238 rfl kw_X3_53 (by decide) ?_
      refine e_goto (tgt := 260) dX3_joined_241 (by decide) ?_
      refine e_lstore (q := 262) (L' := [_, _, _, _, _, _, _]) dX3_joined_260 rfl (by decide) rfl rfl ?_
      refine e_lload_n (q := 263) (i := 3) dX3_joined_262 rfl rfl rfl ?_
      refine e_lload (q := 265) dX3_joined_263 rfl rfl ?_
      refine e_lcmp (q := 266) dX3_joined_265 rfl (by first | assumption | exact ⟨by omega, by omega⟩) (by first | assumption | exact ⟨by omega, by omega⟩) ?_
      refine e_if_gt (q := 269) (tgt := 277) dX3_joined_266 rfl (by decide) (fun c266 => ?_) (fun c266 => ?_)
      · refine e_ldc2 (q := 280) (z := -9223372036854775808) dX3_joined_277 rfl kw_X3_45 (by decide) ?_
        refine e_goto (tgt := 286) dX3_joined_280 (by decide) ?_
        exact r_l dX3_joined_286 rfl ⟨by rw [k1_28]; show _ = (if a ≠ 0 ∧ 1000000000000 / max a (-a) < max b (-b) then (-9223372036854775808) else a * b); first | (rw [if_neg (by omega)]; done) | (exfalso; omega), rfl⟩
      · refine e_lload_n (q := 270) (i := 3) dX3_joined_269 rfl rfl rfl ?_
        refine e_lload (q := 272) dX3_joined_270 rfl rfl ?_
        refine e_lneg (q := 273) dX3_joined_272 rfl ?_
        refine e_lcmp (q := 274) dX3_joined_273 rfl (by first | assumption | exact ⟨by omega, by omega⟩) (by first | assumption | exact ⟨by omega, by omega⟩) ?_
        refine e_if_ge (q := 277) (tgt := 283) dX3_joined_274 rfl (by decide) (fun c274 => ?_) (fun c274 => ?_)
        · refine e_lload_n (q := 284) (i := 1) dX3_joined_283 rfl rfl rfl ?_
          refine e_lload_n (q := 285) (i := 3) dX3_joined_284 rfl rfl rfl ?_
          refine e_lmul (q := 286) dX3_joined_285 rfl ?_
          exact r_l dX3_joined_286 rfl ⟨by rw [k1_28]; show _ = (if a ≠ 0 ∧ 1000000000000 / max a (-a) < max b (-b) then (-9223372036854775808) else a * b); first | (rw [if_neg (by omega)]; done) | (exfalso; omega), rfl⟩
        · refine e_ldc2 (q := 280) (z := -9223372036854775808) dX3_joined_277 rfl kw_X3_45 (by decide) ?_
          refine e_goto (tgt := 286) dX3_joined_280 (by decide) ?_
          exact r_l dX3_joined_286 rfl ⟨by rw [k1_28]; show _ = (if a ≠ 0 ∧ 1000000000000 / max a (-a) < max b (-b) then (-9223372036854775808) else a * b); first | (rw [if_neg (by omega)]; done) | (exfalso; omega), rfl⟩
  by_cases k1_29 : t = 29
  · refine e_tabIn (tgt := 287) dX3_joined_1 ⟨by omega, by omega⟩ (by omega) (by omega) (by rw [k1_29]; rfl) (by decide) ?_
    refine e_lload_n (q := 288) (i := 3) dX3_joined_287 rfl rfl rfl ?_
    refine e_lconst (q := 289) (z := 0) dX3_joined_288 rfl (by decide) ?_
    refine e_lcmp (q := 290) dX3_joined_289 rfl (by first | assumption | exact ⟨by omega, by omega⟩) (by first | assumption | exact ⟨by omega, by omega⟩) ?_
    refine e_if_ne (q := 293) (tgt := 299) dX3_joined_290 rfl (by decide) (fun c290 => ?_) (fun c290 => ?_)
    · refine e_lload_n (q := 300) (i := 1) dX3_joined_299 rfl rfl rfl ?_
      refine e_lload_n (q := 301) (i := 3) dX3_joined_300 rfl rfl rfl ?_
      refine e_ldiv (q := 302) dX3_joined_301 rfl (lZ_ne0 ⟨by omega, by omega⟩ (by omega)) (lZ_tdiv ⟨by omega, by omega⟩ ⟨by omega, by omega⟩ (by omega)) ?_
      exact r_l dX3_joined_302 rfl ⟨by rw [k1_29]; show _ = (if b = 0 then (-9223372036854775808) else a.tdiv b); first | (rw [if_pos (by omega)]; done) | (rw [if_neg (by omega)]; done), rfl⟩
    · refine e_ldc2 (q := 296) (z := -9223372036854775808) dX3_joined_293 rfl kw_X3_45 (by decide) ?_
      refine e_goto (tgt := 302) dX3_joined_296 (by decide) ?_
      exact r_l dX3_joined_302 rfl ⟨by rw [k1_29]; show _ = (if b = 0 then (-9223372036854775808) else a.tdiv b); first | (rw [if_pos (by omega)]; done) | (rw [if_neg (by omega)]; done), rfl⟩
  by_cases k1_30 : t = 30
  · refine e_tabIn (tgt := 152) dX3_joined_1 ⟨by omega, by omega⟩ (by omega) (by omega) (by rw [k1_30]; rfl) (by decide) ?_
    refine e_lload_n (q := 153) (i := 1) dX3_joined_152 rfl rfl rfl ?_
    refine e_lload_n (q := 154) (i := 3) dX3_joined_153 rfl rfl rfl ?_
    refine e_lcmp (q := 155) dX3_joined_154 rfl (by first | assumption | exact ⟨by omega, by omega⟩) (by first | assumption | exact ⟨by omega, by omega⟩) ?_
    refine e_if_ge (q := 158) (tgt := 162) dX3_joined_155 rfl (by decide) (fun c155 => ?_) (fun c155 => ?_)
    · refine e_lconst (q := 163) (z := 0) dX3_joined_162 rfl (by decide) ?_
      exact r_l dX3_joined_163 rfl ⟨by rw [k1_30]; show _ = (if a < b then 1 else 0); split <;> omega, rfl⟩
    · refine e_lconst (q := 159) (z := 1) dX3_joined_158 rfl (by decide) ?_
      refine e_goto (tgt := 163) dX3_joined_159 (by decide) ?_
      exact r_l dX3_joined_163 rfl ⟨by rw [k1_30]; show _ = (if a < b then 1 else 0); split <;> omega, rfl⟩
  by_cases k1_31 : t = 31
  · refine e_tabIn (tgt := 164) dX3_joined_1 ⟨by omega, by omega⟩ (by omega) (by omega) (by rw [k1_31]; rfl) (by decide) ?_
    refine e_lload_n (q := 165) (i := 1) dX3_joined_164 rfl rfl rfl ?_
    refine e_lload_n (q := 166) (i := 3) dX3_joined_165 rfl rfl rfl ?_
    refine e_lcmp (q := 167) dX3_joined_166 rfl (by first | assumption | exact ⟨by omega, by omega⟩) (by first | assumption | exact ⟨by omega, by omega⟩) ?_
    refine e_if_gt (q := 170) (tgt := 174) dX3_joined_167 rfl (by decide) (fun c167 => ?_) (fun c167 => ?_)
    · refine e_lconst (q := 175) (z := 0) dX3_joined_174 rfl (by decide) ?_
      exact r_l dX3_joined_175 rfl ⟨by rw [k1_31]; show _ = (if a ≤ b then 1 else 0); split <;> omega, rfl⟩
    · refine e_lconst (q := 171) (z := 1) dX3_joined_170 rfl (by decide) ?_
      refine e_goto (tgt := 175) dX3_joined_171 (by decide) ?_
      exact r_l dX3_joined_175 rfl ⟨by rw [k1_31]; show _ = (if a ≤ b then 1 else 0); split <;> omega, rfl⟩
  by_cases k1_32 : t = 32
  · refine e_tabIn (tgt := 176) dX3_joined_1 ⟨by omega, by omega⟩ (by omega) (by omega) (by rw [k1_32]; rfl) (by decide) ?_
    refine e_lload_n (q := 177) (i := 1) dX3_joined_176 rfl rfl rfl ?_
    refine e_lload_n (q := 178) (i := 3) dX3_joined_177 rfl rfl rfl ?_
    refine e_lcmp (q := 179) dX3_joined_178 rfl (by first | assumption | exact ⟨by omega, by omega⟩) (by first | assumption | exact ⟨by omega, by omega⟩) ?_
    refine e_if_ne (q := 182) (tgt := 186) dX3_joined_179 rfl (by decide) (fun c179 => ?_) (fun c179 => ?_)
    · refine e_lconst (q := 187) (z := 0) dX3_joined_186 rfl (by decide) ?_
      exact r_l dX3_joined_187 rfl ⟨by rw [k1_32]; show _ = (if a = b then 1 else 0); split <;> omega, rfl⟩
    · refine e_lconst (q := 183) (z := 1) dX3_joined_182 rfl (by decide) ?_
      refine e_goto (tgt := 187) dX3_joined_183 (by decide) ?_
      exact r_l dX3_joined_187 rfl ⟨by rw [k1_32]; show _ = (if a = b then 1 else 0); split <;> omega, rfl⟩
  by_cases k1_33 : t = 33
  · refine e_tabIn (tgt := 188) dX3_joined_1 ⟨by omega, by omega⟩ (by omega) (by omega) (by rw [k1_33]; rfl) (by decide) ?_
    refine e_lload_n (q := 189) (i := 1) dX3_joined_188 rfl rfl rfl ?_
    refine e_lload_n (q := 190) (i := 3) dX3_joined_189 rfl rfl rfl ?_
    refine e_lcmp (q := 191) dX3_joined_190 rfl (by first | assumption | exact ⟨by omega, by omega⟩) (by first | assumption | exact ⟨by omega, by omega⟩) ?_
    refine e_if_eq (q := 194) (tgt := 198) dX3_joined_191 rfl (by decide) (fun c191 => ?_) (fun c191 => ?_)
    · refine e_lconst (q := 199) (z := 0) dX3_joined_198 rfl (by decide) ?_
      exact r_l dX3_joined_199 rfl ⟨by rw [k1_33]; show _ = (if a ≠ b then 1 else 0); split <;> omega, rfl⟩
    · refine e_lconst (q := 195) (z := 1) dX3_joined_194 rfl (by decide) ?_
      refine e_goto (tgt := 199) dX3_joined_195 (by decide) ?_
      exact r_l dX3_joined_199 rfl ⟨by rw [k1_33]; show _ = (if a ≠ b then 1 else 0); split <;> omega, rfl⟩
  by_cases k1_34 : t = 34
  · refine e_tabIn (tgt := 200) dX3_joined_1 ⟨by omega, by omega⟩ (by omega) (by omega) (by rw [k1_34]; rfl) (by decide) ?_
    refine e_lload_n (q := 201) (i := 1) dX3_joined_200 rfl rfl rfl ?_
    refine e_lload_n (q := 202) (i := 3) dX3_joined_201 rfl rfl rfl ?_
    refine e_lcmp (q := 203) dX3_joined_202 rfl (by first | assumption | exact ⟨by omega, by omega⟩) (by first | assumption | exact ⟨by omega, by omega⟩) ?_
    refine e_if_lt (q := 206) (tgt := 210) dX3_joined_203 rfl (by decide) (fun c203 => ?_) (fun c203 => ?_)
    · refine e_lconst (q := 211) (z := 0) dX3_joined_210 rfl (by decide) ?_
      exact r_l dX3_joined_211 rfl ⟨by rw [k1_34]; show _ = (if b ≤ a then 1 else 0); split <;> omega, rfl⟩
    · refine e_lconst (q := 207) (z := 1) dX3_joined_206 rfl (by decide) ?_
      refine e_goto (tgt := 211) dX3_joined_207 (by decide) ?_
      exact r_l dX3_joined_211 rfl ⟨by rw [k1_34]; show _ = (if b ≤ a then 1 else 0); split <;> omega, rfl⟩
  have k1_35 : t = 35 := by omega
  refine e_tabIn (tgt := 212) dX3_joined_1 ⟨by omega, by omega⟩ (by omega) (by omega) (by rw [k1_35]; rfl) (by decide) ?_
  refine e_lload_n (q := 213) (i := 1) dX3_joined_212 rfl rfl rfl ?_
  refine e_lload_n (q := 214) (i := 3) dX3_joined_213 rfl rfl rfl ?_
  refine e_lcmp (q := 215) dX3_joined_214 rfl (by first | assumption | exact ⟨by omega, by omega⟩) (by first | assumption | exact ⟨by omega, by omega⟩) ?_
  refine e_if_le (q := 218) (tgt := 222) dX3_joined_215 rfl (by decide) (fun c215 => ?_) (fun c215 => ?_)
  · refine e_lconst (q := 223) (z := 0) dX3_joined_222 rfl (by decide) ?_
    exact r_l dX3_joined_223 rfl ⟨by rw [k1_35]; show _ = (if b < a then 1 else 0); split <;> omega, rfl⟩
  · refine e_lconst (q := 219) (z := 1) dX3_joined_218 rfl (by decide) ?_
    refine e_goto (tgt := 223) dX3_joined_219 (by decide) ?_
    exact r_l dX3_joined_223 rfl ⟨by rw [k1_35]; show _ = (if b < a then 1 else 0); split <;> omega, rfl⟩

set_option maxHeartbeats 4000000 in
theorem c_X3_work {G : Gx} {σ : Sg} {r : Int} (hr0 : 0 ≤ r) (hr3 : r < 3) (hs0 : 0 ≤ (σ.1 15 r)) (hse : (σ.1 15 r) ≤ (σ.1 16 r)) (he : (σ.1 16 r) ≤ 64) (hk : ∀ k, (σ.1 15 r) ≤ k → k < (σ.1 16 r) → isKnot (σ.1 14 k)) (hn : ∀ i, 0 ≤ i → i < 7 → -1000000000000 ≤ σ.2 55 i ∧ σ.2 55 i ≤ 1000000000000) : Con G 2 mX3_work [.ref (G.2.2.2 + 13), .int (iZ r), .ref (G.2.2.2 + 55)] σ (pL (fun z σ' => z = evLaw (σ.2 55) (σ.1 14) (σ.1 15 r) (σ.1 16 r) ∧ Fr [17] σ σ')) := by
  have lp : ∀ (n : Nat) (τ : Sg) (x5 x6 x7 x8 : Option Value) (top k : Int) (l : List Int), (σ.1 15 r) ≤ k → k + n = (σ.1 16 r) → top = l.length → top ≤ k - (σ.1 15 r) → Fr [17] σ τ → StkIs (τ.2 17) l → allLim l → evEnd (evRun (σ.2 55) (σ.1 14) n k l) = evLaw (σ.2 55) (σ.1 14) (σ.1 15 r) (σ.1 16 r) → J G 2 mX3_work (pL (fun z σ' => z = evLaw (σ.2 55) (σ.1 14) (σ.1 15 r) (σ.1 16 r) ∧ Fr [17] σ σ')) τ 10 [some (.ref (G.2.2.2 + 13)), some (.int (iZ r)), some (.ref (G.2.2.2 + 55)), some (.int (iZ top)), some (.int (iZ k)), x5, x6, x7, x8] [] := by
    intro n
    induction n with
    | zero =>
      intro τ x5 x6 x7 x8 top k l hk0 hkn0 hl hlk hF hS hA hR
      have e16 : τ.1 16 r = (σ.1 16 r) := hF.e1 (by decide) r
      have e14 : τ.1 14 k = σ.1 14 k := hF.e1 (by decide) k
      refine e_iload (q := 12) dX3_work_10 rfl rfl ?_
      refine e_aload_n (q := 13) (i := 0) dX3_work_12 rfl rfl rfl ?_
      refine e_getR (q := 16) dX3_work_13 rfl fg_X3_18 (by first | assumption | rfl) rfl ?_
      refine e_iload_n (q := 17) (i := 1) dX3_work_16 rfl rfl rfl ?_
      refine e_iald (q := 18) dX3_work_17 rfl (by first | assumption | rfl) ?_
      refine e_icmp_ge (q := 21) (tgt := 203) dX3_work_18 rfl (by decide) (fun c18 => ?_) (fun c18 => absurd (by omega) c18)
      refine e_iload_n (q := 204) (i := 3) dX3_work_203 rfl rfl rfl ?_
      refine e_iconst (q := 205) dX3_work_204 rfl ?_
      refine e_icmp_ne (q := 208) (tgt := 217) dX3_work_205 rfl (by decide) (fun c205 => ?_) (fun c205 => ?_)
      · refine e_ldc2 (q := 220) (z := -9223372036854775808) dX3_work_217 rfl kw_X3_45 (by decide) ?_
        exact r_l dX3_work_220 rfl ⟨by rw [← hR]; match l, hl with | [v], hl => exact absurd hl (by simpa using c205) | [], _ => rfl | _ :: _ :: _, _ => rfl, hF⟩
      · refine e_aload_n (q := 209) (i := 0) dX3_work_208 rfl rfl rfl ?_
        refine e_getR (q := 212) dX3_work_209 rfl fg_X3_21 (by first | assumption | rfl) rfl ?_
        refine e_iconst (q := 213) dX3_work_212 rfl ?_
        refine e_lald (q := 214) dX3_work_213 rfl (by first | assumption | rfl) ?_
        refine e_goto (tgt := 220) dX3_work_214 (by decide) ?_
        exact r_l dX3_work_220 rfl ⟨by rw [← hR]; match l, hl, hS with | [v], _, hS => exact hS.1 | [], hl, _ => simp at hl; omega | _ :: _ :: _, hl, _ => simp at hl; omega, hF⟩
    | succ n ih =>
      intro τ x5 x6 x7 x8 top k l hk0 hkn0 hl hlk hF hS hA hR
      have e16 : τ.1 16 r = (σ.1 16 r) := hF.e1 (by decide) r
      have e14 : τ.1 14 k = σ.1 14 k := hF.e1 (by decide) k
      refine e_iload (q := 12) dX3_work_10 rfl rfl ?_
      refine e_aload_n (q := 13) (i := 0) dX3_work_12 rfl rfl rfl ?_
      refine e_getR (q := 16) dX3_work_13 rfl fg_X3_18 (by first | assumption | rfl) rfl ?_
      refine e_iload_n (q := 17) (i := 1) dX3_work_16 rfl rfl rfl ?_
      refine e_iald (q := 18) dX3_work_17 rfl (by first | assumption | rfl) ?_
      refine e_icmp_ge (q := 21) (tgt := 203) dX3_work_18 rfl (by decide) (fun c18 => absurd c18 (by omega)) (fun c18 => ?_)
      refine e_aload_n (q := 22) (i := 0) dX3_work_21 rfl rfl rfl ?_
      refine e_getR (q := 25) dX3_work_22 rfl fg_X3_11 (by first | assumption | rfl) rfl ?_
      refine e_iload (q := 27) dX3_work_25 rfl rfl ?_
      refine e_iald (q := 28) dX3_work_27 rfl (by first | assumption | rfl) ?_
      refine e_istore (q := 30) (L' := [_, _, _, _, _, _, _, _, _]) dX3_work_28 rfl (by decide) rfl rfl ?_
      have hkn := hk k hk0 (by omega)
      unfold isKnot isOp at hkn
      refine e_iload (q := 32) dX3_work_30 rfl rfl ?_
      refine e_ineg (q := 33) dX3_work_32 rfl ?_
      refine e_istore (q := 35) (L' := [_, _, _, _, _, _, _, _, _]) dX3_work_33 rfl (by decide) rfl rfl ?_
      refine e_iload (q := 37) dX3_work_35 rfl rfl ?_
      refine e_if_ge (q := 40) (tgt := 48) dX3_work_37 rfl (by decide) (fun c37 => ?_) (fun c37 => ?_) (hx := ⟨by omega, by omega⟩)
      · refine e_iload_n (q := 49) (i := 3) dX3_work_48 rfl rfl rfl ?_
        refine e_bipush (q := 51) dX3_work_49 rfl (by decide) ?_
        refine e_icmp_lt (q := 54) (tgt := 58) dX3_work_51 rfl (by decide) (fun c51 => ?_) (fun c51 => absurd (by omega) c51)
        refine e_aload_n (q := 59) (i := 0) dX3_work_58 rfl rfl rfl ?_
        refine e_getR (q := 62) dX3_work_59 rfl fg_X3_21 (by first | assumption | rfl) rfl ?_
        refine e_iload_n (q := 63) (i := 3) dX3_work_62 rfl rfl rfl ?_
        refine e_iload (q := 65) dX3_work_63 rfl rfl ?_
        refine e_if_lt (q := 68) (tgt := 74) dX3_work_65 rfl (by decide) (fun c65 => absurd c65 (by omega)) (fun c65 => ?_) (hx := ⟨by omega, by omega⟩)
        refine e_iload (q := 70) dX3_work_68 rfl rfl ?_
        refine e_i2l (q := 71) dX3_work_70 rfl (by first | assumption | exact ⟨by omega, by omega⟩) ?_
        refine e_goto (tgt := 81) dX3_work_71 (by decide) ?_
        refine e_last (q := 82) dX3_work_81 rfl (by first | assumption | rfl) ?_
        refine e_iinc (q := 85) (L' := [_, _, _, _, _, _, _, _, _]) dX3_work_82 rfl rfl (by decide) rfl rfl ?_
        refine e_goto (tgt := 197) dX3_work_85 (by decide) ?_
        refine e_iinc (q := 200) (L' := [_, _, _, _, _, _, _, _, _]) dX3_work_197 rfl rfl (by decide) rfl rfl ?_
        refine e_goto (tgt := 10) dX3_work_200 (by decide) ?_
        have hst : evStep (σ.2 55) l (σ.1 14 k) = some (σ.1 14 k :: l) := by unfold evStep; rw [if_pos (by omega)]
        refine ih _ _ _ _ _ _ _ (σ.1 14 k :: l) (by omega) (by omega) (by simp only [List.length_cons]; omega) (by omega) (hF.sJ (by decide) _ _) ?_ ?_ (by rw [← hR]; simp only [evRun, hst])
        · refine ⟨?_, hS.upd (fun i i0 i1 => ?_)⟩
          · rw [sJ_2, if_pos ⟨rfl, by omega⟩, e14]
          · rw [sJ_2, if_neg (by omega)]
        · intro v hv
          rcases List.mem_cons.mp hv with rfl | hv
          · omega
          · exact hA v hv
      · refine e_iload (q := 42) dX3_work_40 rfl rfl ?_
        refine e_Sip (q := 45) (vs := [_]) ok_X3_isName ml_X3_41 dX3_work_42 rfl rfl rfl (Nat.le_of_ble_eq_true rfl) (by decide) (c_X3_isName ⟨by omega, by omega⟩) ?_
        refine e_if_eq (q := 48) (tgt := 88) dX3_work_45 rfl (by decide) (fun c45 => ?_) (fun c45 => ?_) (hx := ⟨by split <;> omega, by split <;> omega⟩)
        · refine e_iload (q := 90) dX3_work_88 rfl rfl ?_
          refine e_bipush (q := 92) dX3_work_90 rfl (by decide) ?_
          refine e_icmp_ne (q := 95) (tgt := 129) dX3_work_92 rfl (by decide) (fun c92 => ?_) (fun c92 => ?_) (hx := ⟨by omega, by omega⟩)
          · refine e_iload_n (q := 130) (i := 3) dX3_work_129 rfl rfl rfl ?_
            refine e_iconst (q := 131) dX3_work_130 rfl ?_
            have hnn : ¬ (14 ≤ -σ.1 14 k ∧ -σ.1 14 k ≤ 20) := by rw [← e14]; intro q; rw [if_pos q] at c45; omega
            refine e_icmp_lt (q := 134) (tgt := 193) dX3_work_131 rfl (by decide) (fun c131 => ?_) (fun c131 => ?_)
            · have hst : evStep (σ.2 55) l (σ.1 14 k) = none := by
                unfold evStep
                rw [if_neg (by omega), if_neg hnn, if_neg (by omega)]
                match l, hl with
                | [], _ => rfl
                | [_], _ => rfl
                | _ :: _ :: _, hl => simp only [List.length_cons] at hl; omega
              refine e_ldc2 (q := 196) (z := -9223372036854775808) dX3_work_193 rfl kw_X3_45 (by decide) ?_
              exact r_l dX3_work_196 rfl ⟨by rw [← hR]; simp only [evRun, hst]; rfl, hF⟩
            · obtain ⟨y, x, l2, rfl⟩ : ∃ y x l2, l = y :: x :: l2 := by
                match l, hl with
                | [], hl => simp at hl; omega
                | [_], hl => simp at hl; omega
                | y :: x :: l2, _ => exact ⟨y, x, l2, rfl⟩
              simp only [List.length_cons] at hl
              have ey : τ.2 17 (top + -1) = y := by rw [show top + -1 = ((x :: l2).length : Int) by simp only [List.length_cons]; omega]; exact hS.1
              have ex : τ.2 17 (top + -1 - 1) = x := by rw [show top + -1 - 1 = (l2.length : Int) by omega]; exact hS.2.1
              have hx := hA x (List.mem_cons_of_mem _ List.mem_cons_self)
              have hy := hA y List.mem_cons_self
              have hj := jn_R (t := -τ.1 14 k) hx hy
              have hop : -τ.1 14 k = 11 ∨ -τ.1 14 k = 12 ∨ (26 ≤ -τ.1 14 k ∧ -τ.1 14 k ≤ 35) := by omega
              have hst := (show evStep (σ.2 55) (y :: x :: l2) (σ.1 14 k) = if 1000000000000 < jn (-σ.1 14 k) x y ∨ jn (-σ.1 14 k) x y < -1000000000000 then none else some (jn (-σ.1 14 k) x y :: l2) by
                unfold evStep
                rw [if_neg (by omega), if_neg hnn, if_neg (by omega)])
              refine e_iinc (q := 137) (L' := [_, _, _, _, _, _, _, _, _]) dX3_work_134 rfl rfl (by decide) rfl rfl ?_
              refine e_iload (q := 139) dX3_work_137 rfl rfl ?_
              refine e_aload_n (q := 140) (i := 0) dX3_work_139 rfl rfl rfl ?_
              refine e_getR (q := 143) dX3_work_140 rfl fg_X3_21 (by first | assumption | rfl) rfl ?_
              refine e_iload_n (q := 144) (i := 3) dX3_work_143 rfl rfl rfl ?_
              refine e_iconst (q := 145) dX3_work_144 rfl ?_
              refine e_isub (q := 146) dX3_work_145 rfl ?_
              refine e_lald (q := 147) dX3_work_146 rfl (by first | assumption | rfl) ?_
              refine e_aload_n (q := 148) (i := 0) dX3_work_147 rfl rfl rfl ?_
              refine e_getR (q := 151) dX3_work_148 rfl fg_X3_21 (by first | assumption | rfl) rfl ?_
              refine e_iload_n (q := 152) (i := 3) dX3_work_151 rfl rfl rfl ?_
              refine e_lald (q := 153) dX3_work_152 rfl (by first | assumption | rfl) ?_
              rw [ex, ey]
              refine e_Slp (q := 156) (vs := [_, _, _]) ok_X3_joined ml_X3_49 dX3_work_153 rfl rfl rfl (Nat.le_of_ble_eq_true rfl) (by decide) (c_X3_joined hop hx hy) ?_
              refine e_lstore (q := 158) (L' := [_, _, _, _, _, _, _, _, _]) dX3_work_156 rfl (by decide) rfl rfl ?_
              refine e_lload (q := 160) dX3_work_158 rfl rfl ?_
              refine e_ldc2 (q := 163) (z := 1000000000000) dX3_work_160 rfl kw_X3_53 (by decide) ?_
              refine e_lcmp (q := 164) dX3_work_163 rfl hj ⟨by decide, by decide⟩ ?_
              refine e_if_gt (q := 167) (tgt := 176) dX3_work_164 rfl (by decide) (fun c164 => ?_) (fun c164 => ?_)
              · refine e_ldc2 (q := 179) (z := -9223372036854775808) dX3_work_176 rfl kw_X3_45 (by decide) ?_
                exact r_l dX3_work_179 rfl ⟨by rw [← hR]; simp only [evRun, hst]; rw [if_pos (by rw [← e14]; omega)]; rfl, hF⟩
              · refine e_lload (q := 169) dX3_work_167 rfl rfl ?_
                refine e_ldc2 (q := 172) (z := -1000000000000) dX3_work_169 rfl kw_X3_55 (by decide) ?_
                refine e_lcmp (q := 173) dX3_work_172 rfl hj ⟨by decide, by decide⟩ ?_
                refine e_if_ge (q := 176) (tgt := 180) dX3_work_173 rfl (by decide) (fun c173 => ?_) (fun c173 => ?_)
                · refine e_aload_n (q := 181) (i := 0) dX3_work_180 rfl rfl rfl ?_
                  refine e_getR (q := 184) dX3_work_181 rfl fg_X3_21 (by first | assumption | rfl) rfl ?_
                  refine e_iload_n (q := 185) (i := 3) dX3_work_184 rfl rfl rfl ?_
                  refine e_iconst (q := 186) dX3_work_185 rfl ?_
                  refine e_isub (q := 187) dX3_work_186 rfl ?_
                  refine e_lload (q := 189) dX3_work_187 rfl rfl ?_
                  refine e_last (q := 190) dX3_work_189 rfl (by first | assumption | rfl) ?_
                  refine e_goto (tgt := 197) dX3_work_190 (by decide) ?_
                  refine e_iinc (q := 200) (L' := [_, _, _, _, _, _, _, _, _]) dX3_work_197 rfl rfl (by decide) rfl rfl ?_
                  refine e_goto (tgt := 10) dX3_work_200 (by decide) ?_
                  rw [if_neg (by rw [← e14]; omega)] at hst
                  refine ih _ _ _ _ _ _ _ (jn (-σ.1 14 k) x y :: l2) (by omega) (by omega) (by simp only [List.length_cons]; omega) (by omega) (hF.sJ (by decide) _ _) ?_ ?_ (by rw [← hR]; simp only [evRun, hst])
                  · refine ⟨?_, hS.2.2.upd (fun i i0 i1 => ?_)⟩
                    · rw [sJ_2, if_pos ⟨rfl, by omega⟩, e14]
                    · rw [sJ_2, if_neg (by omega)]
                  · intro v hv
                    rcases List.mem_cons.mp hv with rfl | hv
                    · rw [← e14]; omega
                    · exact hA v (List.mem_cons_of_mem _ (List.mem_cons_of_mem _ hv))
                · refine e_ldc2 (q := 179) (z := -9223372036854775808) dX3_work_176 rfl kw_X3_45 (by decide) ?_
                  exact r_l dX3_work_179 rfl ⟨by rw [← hR]; simp only [evRun, hst]; rw [if_pos (by rw [← e14]; omega)]; rfl, hF⟩
          · refine e_iload_n (q := 96) (i := 3) dX3_work_95 rfl rfl rfl ?_
            refine e_iconst (q := 97) dX3_work_96 rfl ?_
            refine e_icmp_lt (q := 100) (tgt := 129) dX3_work_97 rfl (by decide) (fun c97 => ?_) (fun c97 => ?_)
            · refine e_iload_n (q := 130) (i := 3) dX3_work_129 rfl rfl rfl ?_
              refine e_iconst (q := 131) dX3_work_130 rfl ?_
              have hnn : ¬ (14 ≤ -σ.1 14 k ∧ -σ.1 14 k ≤ 20) := by rw [← e14]; intro q; rw [if_pos q] at c45; omega
              refine e_icmp_lt (q := 134) (tgt := 193) dX3_work_131 rfl (by decide) (fun c131 => ?_) (fun c131 => absurd (by omega) c131)
              have hst : evStep (σ.2 55) l (σ.1 14 k) = none := by
                unfold evStep
                rw [if_neg (by omega), if_neg hnn, if_pos (by omega)]
                match l, hl with
                | [], _ => rfl
                | _ :: _, hl => simp only [List.length_cons] at hl; omega
              refine e_ldc2 (q := 196) (z := -9223372036854775808) dX3_work_193 rfl kw_X3_45 (by decide) ?_
              exact r_l dX3_work_196 rfl ⟨by rw [← hR]; simp only [evRun, hst]; rfl, hF⟩
            · have hnn : ¬ (14 ≤ -σ.1 14 k ∧ -σ.1 14 k ≤ 20) := by rw [← e14]; intro q; rw [if_pos q] at c45; omega
              obtain ⟨x, l2, rfl⟩ : ∃ x l2, l = x :: l2 := by
                match l, hl with
                | [], hl => simp at hl; omega
                | x :: l2, _ => exact ⟨x, l2, rfl⟩
              simp only [List.length_cons] at hl
              have ex : τ.2 17 (top - 1) = x := by rw [show top - 1 = (l2.length : Int) by omega]; exact hS.1
              have hx := hA x List.mem_cons_self
              refine e_aload_n (q := 101) (i := 0) dX3_work_100 rfl rfl rfl ?_
              refine e_getR (q := 104) dX3_work_101 rfl fg_X3_21 (by first | assumption | rfl) rfl ?_
              refine e_iload_n (q := 105) (i := 3) dX3_work_104 rfl rfl rfl ?_
              refine e_iconst (q := 106) dX3_work_105 rfl ?_
              refine e_isub (q := 107) dX3_work_106 rfl ?_
              refine e_aload_n (q := 108) (i := 0) dX3_work_107 rfl rfl rfl ?_
              refine e_getR (q := 111) dX3_work_108 rfl fg_X3_21 (by first | assumption | rfl) rfl ?_
              refine e_iload_n (q := 112) (i := 3) dX3_work_111 rfl rfl rfl ?_
              refine e_iconst (q := 113) dX3_work_112 rfl ?_
              refine e_isub (q := 114) dX3_work_113 rfl ?_
              refine e_lald (q := 115) dX3_work_114 rfl (by first | assumption | rfl) ?_
              refine e_lconst (q := 116) (z := 0) dX3_work_115 rfl (by decide) ?_
              refine e_lcmp (q := 117) dX3_work_116 rfl ⟨by rw [ex]; omega, by rw [ex]; omega⟩ (by first | assumption | exact ⟨by omega, by omega⟩) ?_
              refine e_if_ne (q := 120) (tgt := 124) dX3_work_117 rfl (by decide) (fun c117 => ?_) (fun c117 => ?_)
              · refine e_lconst (q := 125) (z := 0) dX3_work_124 rfl (by decide) ?_
                refine e_last (q := 126) dX3_work_125 rfl (by first | assumption | rfl) ?_
                refine e_goto (tgt := 197) dX3_work_126 (by decide) ?_
                refine e_iinc (q := 200) (L' := [_, _, _, _, _, _, _, _, _]) dX3_work_197 rfl rfl (by decide) rfl rfl ?_
                refine e_goto (tgt := 10) dX3_work_200 (by decide) ?_
                have hst : evStep (σ.2 55) (x :: l2) (σ.1 14 k) = some (0 :: l2) := by
                  unfold evStep
                  rw [if_neg (by omega), if_neg hnn, if_pos (by omega)]
                  show some ((if x = 0 then 1 else 0) :: l2) = _
                  rw [if_neg (by omega)]
                refine ih _ _ _ _ _ _ _ (0 :: l2) (by omega) (by omega) (by simp only [List.length_cons]; omega) (by omega) (hF.sJ (by decide) _ _) ?_ ?_ (by rw [← hR]; simp only [evRun, hst])
                · refine ⟨?_, hS.2.upd (fun i i0 i1 => ?_)⟩
                  · rw [sJ_2, if_pos ⟨rfl, by omega⟩]
                  · rw [sJ_2, if_neg (by omega)]
                · intro v hv
                  rcases List.mem_cons.mp hv with rfl | hv
                  · omega
                  · exact hA v (List.mem_cons_of_mem _ hv)
              · refine e_lconst (q := 121) (z := 1) dX3_work_120 rfl (by decide) ?_
                refine e_goto (tgt := 125) dX3_work_121 (by decide) ?_
                refine e_last (q := 126) dX3_work_125 rfl (by first | assumption | rfl) ?_
                refine e_goto (tgt := 197) dX3_work_126 (by decide) ?_
                refine e_iinc (q := 200) (L' := [_, _, _, _, _, _, _, _, _]) dX3_work_197 rfl rfl (by decide) rfl rfl ?_
                refine e_goto (tgt := 10) dX3_work_200 (by decide) ?_
                have hst : evStep (σ.2 55) (x :: l2) (σ.1 14 k) = some (1 :: l2) := by
                  unfold evStep
                  rw [if_neg (by omega), if_neg hnn, if_pos (by omega)]
                  show some ((if x = 0 then 1 else 0) :: l2) = _
                  rw [if_pos (by omega)]
                refine ih _ _ _ _ _ _ _ (1 :: l2) (by omega) (by omega) (by simp only [List.length_cons]; omega) (by omega) (hF.sJ (by decide) _ _) ?_ ?_ (by rw [← hR]; simp only [evRun, hst])
                · refine ⟨?_, hS.2.upd (fun i i0 i1 => ?_)⟩
                  · rw [sJ_2, if_pos ⟨rfl, by omega⟩]
                  · rw [sJ_2, if_neg (by omega)]
                · intro v hv
                  rcases List.mem_cons.mp hv with rfl | hv
                  · omega
                  · exact hA v (List.mem_cons_of_mem _ hv)
        · refine e_iload_n (q := 49) (i := 3) dX3_work_48 rfl rfl rfl ?_
          refine e_bipush (q := 51) dX3_work_49 rfl (by decide) ?_
          refine e_icmp_lt (q := 54) (tgt := 58) dX3_work_51 rfl (by decide) (fun c51 => ?_) (fun c51 => absurd (by omega) c51)
          refine e_aload_n (q := 59) (i := 0) dX3_work_58 rfl rfl rfl ?_
          refine e_getR (q := 62) dX3_work_59 rfl fg_X3_21 (by first | assumption | rfl) rfl ?_
          refine e_iload_n (q := 63) (i := 3) dX3_work_62 rfl rfl rfl ?_
          refine e_iload (q := 65) dX3_work_63 rfl rfl ?_
          refine e_if_lt (q := 68) (tgt := 74) dX3_work_65 rfl (by decide) (fun c65 => ?_) (fun c65 => absurd (by omega) c65) (hx := ⟨by omega, by omega⟩)
          refine e_aload_n (q := 75) (i := 2) dX3_work_74 rfl rfl rfl ?_
          refine e_iload (q := 77) dX3_work_75 rfl rfl ?_
          refine e_bipush (q := 79) dX3_work_77 rfl (by decide) ?_
          refine e_isub (q := 80) dX3_work_79 rfl ?_
          refine e_lald (q := 81) dX3_work_80 rfl (by first | assumption | rfl) ?_ (h0 := by split at c45 <;> omega) (hi := by split at c45 <;> omega)
          refine e_last (q := 82) dX3_work_81 rfl (by first | assumption | rfl) ?_
          refine e_iinc (q := 85) (L' := [_, _, _, _, _, _, _, _, _]) dX3_work_82 rfl rfl (by decide) rfl rfl ?_
          refine e_goto (tgt := 197) dX3_work_85 (by decide) ?_
          refine e_iinc (q := 200) (L' := [_, _, _, _, _, _, _, _, _]) dX3_work_197 rfl rfl (by decide) rfl rfl ?_
          refine e_goto (tgt := 10) dX3_work_200 (by decide) ?_
          have hnm : 14 ≤ -σ.1 14 k ∧ -σ.1 14 k ≤ 20 := by split at c45 <;> omega
          have hst : evStep (σ.2 55) l (σ.1 14 k) = some (σ.2 55 (-σ.1 14 k - 14) :: l) := by unfold evStep; rw [if_neg (by omega), if_pos hnm]
          refine ih _ _ _ _ _ _ _ (σ.2 55 (-σ.1 14 k - 14) :: l) (by omega) (by omega) (by simp only [List.length_cons]; omega) (by omega) (hF.sJ (by decide) _ _) ?_ ?_ (by rw [← hR]; simp only [evRun, hst])
          · refine ⟨?_, hS.upd (fun i i0 i1 => ?_)⟩
            · rw [sJ_2, if_pos ⟨rfl, by omega⟩, hF.e2 (by decide), e14]
            · rw [sJ_2, if_neg (by omega)]
          · intro v hv
            rcases List.mem_cons.mp hv with rfl | hv
            · exact hn _ (by omega) (by omega)
            · exact hA v hv
  refine e_entry om_X3_work (Nat.le_of_ble_eq_true rfl) (L := [some (.ref (G.2.2.2 + 13)), some (.int (iZ r)), some (.ref (G.2.2.2 + 55)), none, none, none, none, none, none]) rfl ?_
  refine e_iconst (q := 1) dX3_work_0 rfl ?_
  refine e_istore_n (q := 2) (i := 3) (L' := [_, _, _, _, _, _, _, _, _]) dX3_work_1 rfl rfl (by decide) rfl rfl ?_
  refine e_aload_n (q := 3) (i := 0) dX3_work_2 rfl rfl rfl ?_
  refine e_getR (q := 6) dX3_work_3 rfl fg_X3_15 (by first | assumption | rfl) rfl ?_
  refine e_iload_n (q := 7) (i := 1) dX3_work_6 rfl rfl rfl ?_
  refine e_iald (q := 8) dX3_work_7 rfl (by first | assumption | rfl) ?_
  refine e_istore (q := 10) (L' := [_, _, _, _, _, _, _, _, _]) dX3_work_8 rfl (by decide) rfl rfl ?_
  exact lp ((σ.1 16 r) - (σ.1 15 r)).toNat σ _ _ _ _ 0 _ [] (by omega) (by omega) rfl (by omega) (Fr.rf _ _) trivial (fun v hv => by cases hv) rfl

