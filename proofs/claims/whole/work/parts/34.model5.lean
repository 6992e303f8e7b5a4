def mYr (σ : Sg) (s wt : Int) (y : Yd) : Yd := yYear (mLaw σ) (σ.1 91) (mCk σ s) (mEd σ) (mBs σ) (σ.1 93) (σ.1 95) (gOv (σ.1 86) (σ.1 87)) (σ.1 84 3) (σ.1 84 1) (σ.1 84 2) (mUn σ) (mTl σ) 0 0 wt y
/-- a land behind some years, with the number -/
def Mn (σ σ' : Sg) (s : Int) (y : Yd × Int) : Prop := Fm [100, 101, 102, 103, 104, 105, 107, 108] [34] σ σ' ∧ ydm σ' s = y.1 ∧ Oth σ σ' s ∧ MI σ' s ∧ σ'.1 103 s = y.2

set_option maxHeartbeats 8000000 in
theorem j_passC {G : Gx} {σ : Sg} {s wt b : Int} {P : Sg → Prop} (hT : MT σ) (hW : MW σ) (hI : MI σ s) (hs0 : 0 ≤ s) (hs1 : s < 23) (hwt : wt = 0 ∨ wt = 1) (hY : σ.1 102 s < 100000) (hP : ∀ σ', Mp σ σ' s ((yGrow (mLaw σ) (σ.1 91) wt ((σ.1 84 2)).toNat (ydm σ s)).1, (yGrow (mLaw σ) (σ.1 91) wt ((σ.1 84 2)).toNat (ydm σ s)).2.1, (yGrow (mLaw σ) (σ.1 91) wt ((σ.1 84 2)).toNat (ydm σ s)).2.2.1, (yGrow (mLaw σ) (σ.1 91) wt ((σ.1 84 2)).toNat (ydm σ s)).2.2.2.1, (yGrow (mLaw σ) (σ.1 91) wt ((σ.1 84 2)).toNat (ydm σ s)).2.2.2.2 + 1) → P σ') (x4 x5 x6 : Option Value) : J G 7 mX12_passes (pV P) σ 193 [some (.ref (G.2.2.2 + 82)), some (.int (iZ s)), some (.int (iZ b)), some (.int (iZ wt)), x4, x5, x6] [] := by
  obtain ⟨hzz, hnp, hnc, hnb, hrn, hsd, hrw, hrq, hch, hbt, hck⟩ := id hT
  have lg : ∀ (n : Nat) (τ : Sg) (x5 x6 : Option Value) (i : Int), 0 ≤ i → i + n = (σ.1 84 2) → Mp σ τ s (yGrow (mLaw σ) (σ.1 91) wt i.toNat (ydm σ s)) → J G 7 mX12_passes (pV P) τ 196 [some (.ref (G.2.2.2 + 82)), some (.int (iZ s)), some (.int (iZ b)), some (.int (iZ wt)), some (.int (iZ i)), x5, x6] [] := by
    intro n
    induction n with
    | zero =>
      intro τ x5 x6 i h0 hn hlp
      have hT' := hlp.mt hT
      have hW' := hlp.mw hW
      have hI' := hlp.2.2.2.1
      have n3 : τ.1 84 2 = (σ.1 84 2) := by rw [hlp.c (by decide) (by decide)]
      have hye := hI'.2.2.2.1
      refine e_iload (q := 198) dX12_passes_196 rfl rfl ?_
      refine e_aload_n (q := 199) (i := 0) dX12_passes_198 rfl rfl rfl ?_
      refine e_getR (q := 202) dX12_passes_199 rfl fg_X12_13 (by first | assumption | rfl) rfl ?_
      refine e_iconst (q := 203) dX12_passes_202 rfl ?_
      refine e_iald (q := 204) dX12_passes_203 rfl (by first | assumption | rfl) ?_
      refine e_icmp_ge (q := 207) (tgt := 286) dX12_passes_204 rfl (by decide) (fun c204 => ?_) (fun c204 => absurd (by omega) c204)
      have ei : i = (σ.1 84 2) := by omega
      subst ei
      have eY : τ.1 102 s = (yGrow (mLaw σ) (σ.1 91) wt ((σ.1 84 2)).toNat (ydm σ s)).2.2.2.2 := congrArg (fun y : Yd => y.2.2.2.2) hlp.2.1
      have hY1 : τ.1 102 s < 100000 := by rw [eY, (yGrow_ye _ _ _ _ _).1]; exact hY
      refine e_aload_n (q := 287) (i := 0) dX12_passes_286 rfl rfl rfl ?_
      refine e_getR (q := 290) dX12_passes_287 rfl fg_X12_72 (by first | assumption | rfl) rfl ?_
      refine e_iload_n (q := 291) (i := 1) dX12_passes_290 rfl rfl rfl ?_
      refine e_dup2 (q := 292) dX12_passes_291 rfl rfl rfl ?_
      refine e_iald (q := 293) dX12_passes_292 rfl (by first | assumption | rfl) ?_
      refine e_iconst (q := 294) dX12_passes_293 rfl ?_
      refine e_iadd (q := 295) dX12_passes_294 rfl ?_
      refine e_iast (q := 296) dX12_passes_295 rfl (by first | assumption | rfl) ?_
      exact r_v dX12_passes_296 rfl (by have q := hlp.year (V := τ.1 102 s + 1) ⟨by omega, by omega⟩; rw [eY] at q ⊢; exact hP _ q)
    | succ n ih =>
      intro τ x5 x6 i h0 hn hlp
      have hT' := hlp.mt hT
      have hW' := hlp.mw hW
      have hI' := hlp.2.2.2.1
      have n3 : τ.1 84 2 = (σ.1 84 2) := by rw [hlp.c (by decide) (by decide)]
      have hye := hI'.2.2.2.1
      refine e_iload (q := 198) dX12_passes_196 rfl rfl ?_
      refine e_aload_n (q := 199) (i := 0) dX12_passes_198 rfl rfl rfl ?_
      refine e_getR (q := 202) dX12_passes_199 rfl fg_X12_13 (by first | assumption | rfl) rfl ?_
      refine e_iconst (q := 203) dX12_passes_202 rfl ?_
      refine e_iald (q := 204) dX12_passes_203 rfl (by first | assumption | rfl) ?_
      refine e_icmp_ge (q := 207) (tgt := 286) dX12_passes_204 rfl (by decide) (fun c204 => absurd c204 (by omega)) (fun c204 => ?_)
      have hb := hI'.2.1 i h0 (by omega)
      have hm := hch i h0 (by omega)
      have e108 : τ.1 108 (6 * s + i) = mD τ s i := rfl
      have e107 : τ.1 107 (6 * s + i) = mL τ s i := rfl
      refine e_bipush (q := 209) dX12_passes_207 rfl (by decide) ?_
      refine e_iload_n (q := 210) (i := 1) dX12_passes_209 rfl rfl rfl ?_
      refine e_imul (q := 211) dX12_passes_210 rfl ?_
      refine e_iload (q := 213) dX12_passes_211 rfl rfl ?_
      refine e_iadd (q := 214) dX12_passes_213 rfl ?_
      refine e_istore (q := 216) (L' := [_, _, _, _, _, _, _]) dX12_passes_214 rfl (by decide) rfl rfl ?_
      refine e_aload_n (q := 217) (i := 0) dX12_passes_216 rfl rfl rfl ?_
      refine e_getR (q := 220) dX12_passes_217 rfl fg_X12_90 (by first | assumption | rfl) rfl ?_
      refine e_iload (q := 222) dX12_passes_220 rfl rfl ?_
      refine e_iconst (q := 223) dX12_passes_222 rfl ?_
      refine e_aload_n (q := 224) (i := 0) dX12_passes_223 rfl rfl rfl ?_
      refine e_getR (q := 227) dX12_passes_224 rfl fg_X12_90 (by first | assumption | rfl) rfl ?_
      refine e_iload (q := 229) dX12_passes_227 rfl rfl ?_
      refine e_iald (q := 230) dX12_passes_229 rfl (by first | assumption | rfl) ?_
      refine e_iconst (q := 231) dX12_passes_230 rfl ?_
      refine e_isub (q := 232) dX12_passes_231 rfl ?_
      refine e_mmax (q := 235) dX12_passes_232 rfl ml_X12_332 mw_max_s mw_max_c mw_init (Nat.le_of_ble_eq_true rfl) (by decide) ?_ (hx := ⟨by decide, by decide⟩) (hy := ⟨by omega, by omega⟩)
      refine e_iast (q := 236) dX12_passes_235 rfl (by first | assumption | rfl) ?_
      have hlp2 := hlp.tired (V := max 0 (τ.1 108 (6 * s + i) - 1)) h0 (by omega) ⟨by omega, by omega⟩
      have eL : mL τ s = (yGrow (mLaw σ) (σ.1 91) wt i.toNat (ydm σ s)).2.1 := congrArg (fun y : Yd => y.2.1) hlp.2.1
      have eD : mD τ s = (yGrow (mLaw σ) (σ.1 91) wt i.toNat (ydm σ s)).2.2.1 := congrArg (fun y : Yd => y.2.2.1) hlp.2.1
      have eY : τ.1 102 s = (yGrow (mLaw σ) (σ.1 91) wt i.toNat (ydm σ s)).2.2.2.2 := congrArg (fun y : Yd => y.2.2.2.2) hlp.2.1
      refine e_aload_n (q := 237) (i := 0) dX12_passes_236 rfl rfl rfl ?_
      refine e_iload_n (q := 238) (i := 1) dX12_passes_237 rfl rfl rfl ?_
      refine e_iload (q := 240) dX12_passes_238 rfl rfl ?_
      refine e_iconst (q := 241) dX12_passes_240 rfl ?_
      refine e_iload_n (q := 242) (i := 3) dX12_passes_241 rfl rfl rfl ?_
      refine e_iconst (q := 243) dX12_passes_242 rfl ?_
      refine e_Vv (q := 246) (vs := [_, _, _, _, _]) ok_X12_calls ml_X12_360 dX12_passes_243 rfl ⟨_, _, rfl⟩ (by first | assumption | rfl) rfl rfl (Nat.le_of_ble_eq_true rfl) (by decide) (c_X12_callsC (hlp2.mt hT) hlp2.2.2.2.1 hs0 hs1 h0 (by omega) ⟨by decide, by decide⟩ hwt ⟨by decide, by decide⟩) (fun s243 h243 => ?_)
      obtain ⟨hE, hFr, hNm⟩ := h243
      have hFm : Fm [100, 101] [34] (sI τ 108 (6 * s + i) (max 0 (τ.1 108 (6 * s + i) - 1))) s243 := ⟨hFr.mono (by decide), fun j _ => by rw [hE]⟩
      have hNm2 : ∀ j, 0 ≤ j → j < 7 → s243.2 100 j = nmF (mL τ s i) (σ.1 91 i) (max (mD τ s i - 1) 0) 0 wt 0 (τ.1 102 s) j := by
        intro j a b
        rw [hNm j a b, mL_ne _ _ (by decide), mD_uf, sI_ne (a := 102) _ (by decide), hlp2.c (a := 91) (by decide) (by decide)]
        unfold uf
        rw [if_pos rfl, Int.max_comm, e108]
      have hlm : ∀ j, 0 ≤ j → j < 7 → -1000000000000 ≤ s243.2 100 j ∧ s243.2 100 j ≤ 1000000000000 := by
        intro j a b
        rw [hNm2 j a b]
        exact nmF_lim ⟨⟨by omega, by omega⟩, ⟨by omega, by omega⟩, ⟨by omega, by omega⟩, ⟨by omega, by omega⟩, ⟨by omega, by omega⟩, ⟨by omega, by omega⟩, ⟨by omega, by omega⟩⟩ j a b
      have hlp3 := hlp2.aside hFm
      have hW3 := hlp3.mw hW
      have eL3 : s243.1 107 (6 * s + i) = mL τ s i := by rw [hE, sI_ne (a := 107) _ (by decide)]; rfl
      have ez : mLaw s243 2 (s243.2 100) = mLaw σ 2 (nmF ((yGrow (mLaw σ) (σ.1 91) wt i.toNat (ydm σ s)).2.1 i) (σ.1 91 i) (max ((yGrow (mLaw σ) (σ.1 91) wt i.toNat (ydm σ s)).2.2.1 i - 1) 0) 0 wt 0 (yGrow (mLaw σ) (σ.1 91) wt i.toNat (ydm σ s)).2.2.2.2) := by
        rw [hlp3.law, mLaw_nm hNm2 2, eL, eD, eY]
      refine e_aload_n (q := 247) (i := 0) dX12_passes_246 rfl rfl rfl ?_
      refine e_getR (q := 250) dX12_passes_247 rfl fg_X12_87 (by first | assumption | rfl) rfl ?_
      refine e_iload (q := 252) dX12_passes_250 rfl rfl ?_
      refine e_iconst (q := 253) dX12_passes_252 rfl ?_
      refine e_bipush (q := 255) dX12_passes_253 rfl (by decide) ?_
      refine e_aload_n (q := 256) (i := 0) dX12_passes_255 rfl rfl rfl ?_
      refine e_getR (q := 259) dX12_passes_256 rfl fg_X12_87 (by first | assumption | rfl) rfl ?_
      refine e_iload (q := 261) dX12_passes_259 rfl rfl ?_
      refine e_iald (q := 262) dX12_passes_261 rfl (by first | assumption | rfl) ?_
      refine e_aload_n (q := 263) (i := 0) dX12_passes_262 rfl rfl rfl ?_
      refine e_iconst (q := 264) dX12_passes_263 rfl ?_
      refine e_bipush (q := 266) dX12_passes_264 rfl (by decide) ?_
      refine e_bipush (q := 268) dX12_passes_266 rfl (by decide) ?_
      refine e_iconst (q := 269) dX12_passes_268 rfl ?_
      refine e_Vi (q := 272) (vs := [_, _, _, _]) ok_X12_within ml_X12_367 dX12_passes_269 rfl ⟨_, _, rfl⟩ (by first | assumption | rfl) rfl rfl (Nat.le_of_ble_eq_true rfl) (by decide) (c_X12_within hW3 (by decide) (by decide) hlm ⟨by decide, by decide⟩ ⟨by decide, by decide⟩ ⟨by decide, by decide⟩) (fun z269 s269 h269 => ?_)
      rw [eL3]
      have hz9 : -9 ≤ z269 ∧ z269 ≤ 9 := by rw [h269.1]; unfold gWi; split <;> omega
      refine e_iadd (q := 273) dX12_passes_272 rfl ?_
      refine e_mmin (q := 276) dX12_passes_273 rfl ml_X12_329 mw_min_s mw_min_c mw_init (Nat.le_of_ble_eq_true rfl) (by decide) ?_ (hx := ⟨by decide, by decide⟩) (hy := ⟨by omega, by omega⟩)
      refine e_mmax (q := 279) dX12_passes_276 rfl ml_X12_332 mw_max_s mw_max_c mw_init (Nat.le_of_ble_eq_true rfl) (by decide) ?_ (hx := ⟨by decide, by decide⟩) (hy := ⟨by omega, by omega⟩)
      refine e_iast (q := 280) dX12_passes_279 rfl (by first | assumption | rfl) ?_
      refine e_iinc (q := 283) (L' := [_, _, _, _, _, _, _]) dX12_passes_280 rfl rfl (by decide) rfl rfl ?_
      refine e_goto (tgt := 196) dX12_passes_283 (by decide) ?_
      refine ih _ _ _ _ (by omega) (by omega) ?_
      have hlp4 := hlp3.aside (h269.2.mono (by decide) (by decide))
      have hlp5 := hlp4.legs (V := max 0 (min 30 (mL τ s i + z269))) h0 (by omega) ⟨by omega, by omega⟩
      rw [yGrow_succ _ _ _ h0]
      unfold yGrow1
      have hz := h269.1
      rw [ez] at hz
      rw [e108, eD, Int.max_comm 0 ((yGrow (mLaw σ) (σ.1 91) wt i.toNat (ydm σ s)).2.2.1 i - 1)] at hlp5
      rw [eL] at hlp5 ⊢
      by_cases hq : mLaw σ 2 (nmF ((yGrow (mLaw σ) (σ.1 91) wt i.toNat (ydm σ s)).2.1 i) (σ.1 91 i) (max ((yGrow (mLaw σ) (σ.1 91) wt i.toNat (ydm σ s)).2.2.1 i - 1) 0) 0 wt 0 (yGrow (mLaw σ) (σ.1 91) wt i.toNat (ydm σ s)).2.2.2.2) = -9223372036854775808
      · rw [if_pos hq] at hz ⊢
        rw [hz] at hlp5 ⊢
        rw [eL] at hb
        rw [uf_self (show max 0 (min 30 ((yGrow (mLaw σ) (σ.1 91) wt i.toNat (ydm σ s)).2.1 i + 0)) = (yGrow (mLaw σ) (σ.1 91) wt i.toNat (ydm σ s)).2.1 i by omega)] at hlp5
        exact hlp5
      · rw [if_neg hq] at hz ⊢
        unfold gWi at hz ⊢
        rw [← hz]
        exact hlp5
  refine e_iconst (q := 194) dX12_passes_193 rfl ?_
  refine e_istore (q := 196) (L' := [_, _, _, _, _, _, _]) dX12_passes_194 rfl (by decide) rfl rfl ?_
  exact lg ((σ.1 84 2)).toNat _ _ _ 0 (by omega) (by omega) (Mp.rf hI)

set_option maxHeartbeats 8000000 in
theorem j_passB {G : Gx} {σ : Sg} {s wt b : Int} {P : Sg → Prop} (hT : MT σ) (hW : MW σ) (hI : MI σ s) (hs0 : 0 ≤ s) (hs1 : s < 23) (hwt : wt = 0 ∨ wt = 1) (hP : ∀ σ', Mp σ σ' s (mF σ s, mL σ s, mD σ s, qOut (mLaw σ) (gOv (σ.1 86) (σ.1 87) (mF σ s)) wt (σ.1 102 s) (σ.1 84 1) ((σ.1 84 1)).toNat (σ.1 104 s), σ.1 102 s) → ∀ (x4 x5 x6 : Option Value), J G 7 mX12_passes (pV P) σ' 193 [some (.ref (G.2.2.2 + 82)), some (.int (iZ s)), some (.int (iZ b)), some (.int (iZ wt)), x4, x5, x6] []) (x4 x5 x6 : Option Value) : J G 7 mX12_passes (pV P) σ 92 [some (.ref (G.2.2.2 + 82)), some (.int (iZ s)), some (.int (iZ b)), some (.int (iZ wt)), x4, x5, x6] [] := by
  obtain ⟨hzz, hnp, hnc, hnb, hrn, hsd, hrw, hrq, hch, hbt, hck⟩ := id hT
  have lp : ∀ (n : Nat) (τ : Sg) (x5 x6 : Option Value) (u i : Int), 0 ≤ i → i + n = (σ.1 84 1) → u = qOut (mLaw σ) (gOv (σ.1 86) (σ.1 87) (mF σ s)) wt (σ.1 102 s) (σ.1 84 1) (i).toNat (σ.1 104 s) → Mp σ τ s (mF σ s, mL σ s, mD σ s, u, σ.1 102 s) → J G 7 mX12_passes (pV P) τ 95 [some (.ref (G.2.2.2 + 82)), some (.int (iZ s)), some (.int (iZ b)), some (.int (iZ wt)), some (.int (iZ i)), x5, x6] [] := by
    intro n
    induction n with
    | zero =>
      intro τ x5 x6 u i h0 hn hu hlp
      have n2 : τ.1 84 1 = (σ.1 84 1) := by rw [hlp.c (by decide) (by decide)]
      refine e_iload (q := 97) dX12_passes_95 rfl rfl ?_
      refine e_aload_n (q := 98) (i := 0) dX12_passes_97 rfl rfl rfl ?_
      refine e_getR (q := 101) dX12_passes_98 rfl fg_X12_13 (by first | assumption | rfl) rfl ?_
      refine e_iconst (q := 102) dX12_passes_101 rfl ?_
      refine e_iald (q := 103) dX12_passes_102 rfl (by first | assumption | rfl) ?_
      refine e_icmp_ge (q := 106) (tgt := 193) dX12_passes_103 rfl (by decide) (fun c103 => ?_) (fun c103 => absurd (by omega) c103)
      have ei : i = (σ.1 84 1) := by omega
      subst ei
      exact hP _ (by rw [← hu]; exact hlp) _ _ _
    | succ n ih =>
      intro τ x5 x6 u i h0 hn hu hlp
      have n2 : τ.1 84 1 = (σ.1 84 1) := by rw [hlp.c (by decide) (by decide)]
      refine e_iload (q := 97) dX12_passes_95 rfl rfl ?_
      refine e_aload_n (q := 98) (i := 0) dX12_passes_97 rfl rfl rfl ?_
      refine e_getR (q := 101) dX12_passes_98 rfl fg_X12_13 (by first | assumption | rfl) rfl ?_
      refine e_iconst (q := 102) dX12_passes_101 rfl ?_
      refine e_iald (q := 103) dX12_passes_102 rfl (by first | assumption | rfl) ?_
      refine e_icmp_ge (q := 106) (tgt := 193) dX12_passes_103 rfl (by decide) (fun c103 => absurd c103 (by omega)) (fun c103 => ?_)
      refine e_iload (q := 108) dX12_passes_106 rfl rfl ?_
      refine e_iconst (q := 109) dX12_passes_108 rfl ?_
      refine e_iadd (q := 110) dX12_passes_109 rfl ?_
      refine e_istore (q := 112) (L' := [_, _, _, _, _, _, _]) dX12_passes_110 rfl (by decide) rfl rfl ?_
      have lq : ∀ (k : Nat) (τ : Sg) (x6 : Option Value) (v j : Int), i + 1 ≤ j → j + k = (σ.1 84 1) → v = qIn (mLaw σ) (gOv (σ.1 86) (σ.1 87) (mF σ s)) wt (σ.1 102 s) i (j - i - 1).toNat (u) → Mp σ τ s (mF σ s, mL σ s, mD σ s, v, σ.1 102 s) → J G 7 mX12_passes (pV P) τ 112 [some (.ref (G.2.2.2 + 82)), some (.int (iZ s)), some (.int (iZ b)), some (.int (iZ wt)), some (.int (iZ i)), some (.int (iZ j)), x6] [] := by
        intro k
        induction k with
        | zero =>
          intro τ x6 v j h3 h4 hv hlp
          have hT' := hlp.mt hT
          have hW' := hlp.mw hW
          have hI' := hlp.2.2.2.1
          have n2 : τ.1 84 1 = (σ.1 84 1) := by rw [hlp.c (by decide) (by decide)]
          have e3 : τ.1 86 = σ.1 86 := hlp.c (by decide) (by decide)
          have e4 : τ.1 87 = σ.1 87 := hlp.c (by decide) (by decide)
          have eF : mF τ s = mF σ s := congrArg (fun y : Yd => y.1) hlp.2.1
          have eQ : τ.1 104 s = v := congrArg (fun y : Yd => y.2.2.2.1) hlp.2.1
          have eY : τ.1 102 s = σ.1 102 s := congrArg (fun y : Yd => y.2.2.2.2) hlp.2.1
          refine e_iload (q := 114) dX12_passes_112 rfl rfl ?_
          refine e_aload_n (q := 115) (i := 0) dX12_passes_114 rfl rfl rfl ?_
          refine e_getR (q := 118) dX12_passes_115 rfl fg_X12_13 (by first | assumption | rfl) rfl ?_
          refine e_iconst (q := 119) dX12_passes_118 rfl ?_
          refine e_iald (q := 120) dX12_passes_119 rfl (by first | assumption | rfl) ?_
          refine e_icmp_ge (q := 123) (tgt := 187) dX12_passes_120 rfl (by decide) (fun c120 => ?_) (fun c120 => absurd (by omega) c120)
          refine e_iinc (q := 190) (L' := [_, _, _, _, _, _, _]) dX12_passes_187 rfl rfl (by decide) rfl rfl ?_
          refine e_goto (tgt := 95) dX12_passes_190 (by decide) ?_
          refine ih _ _ _ _ _ (by omega) (by omega) ?_ hlp
          rw [hv, hu, qOut_succ _ _ _ _ _ h0]
          congr 2
          omega
        | succ k ih2 =>
          intro τ x6 v j h3 h4 hv hlp
          have hT' := hlp.mt hT
          have hW' := hlp.mw hW
          have hI' := hlp.2.2.2.1
          have n2 : τ.1 84 1 = (σ.1 84 1) := by rw [hlp.c (by decide) (by decide)]
          have e3 : τ.1 86 = σ.1 86 := hlp.c (by decide) (by decide)
          have e4 : τ.1 87 = σ.1 87 := hlp.c (by decide) (by decide)
          have eF : mF τ s = mF σ s := congrArg (fun y : Yd => y.1) hlp.2.1
          have eQ : τ.1 104 s = v := congrArg (fun y : Yd => y.2.2.2.1) hlp.2.1
          have eY : τ.1 102 s = σ.1 102 s := congrArg (fun y : Yd => y.2.2.2.2) hlp.2.1
          refine e_iload (q := 114) dX12_passes_112 rfl rfl ?_
          refine e_aload_n (q := 115) (i := 0) dX12_passes_114 rfl rfl rfl ?_
          refine e_getR (q := 118) dX12_passes_115 rfl fg_X12_13 (by first | assumption | rfl) rfl ?_
          refine e_iconst (q := 119) dX12_passes_118 rfl ?_
          refine e_iald (q := 120) dX12_passes_119 rfl (by first | assumption | rfl) ?_
          refine e_icmp_ge (q := 123) (tgt := 187) dX12_passes_120 rfl (by decide) (fun c120 => absurd c120 (by omega)) (fun c120 => ?_)
          refine e_aload_n (q := 124) (i := 0) dX12_passes_123 rfl rfl rfl ?_
          refine e_iload_n (q := 125) (i := 1) dX12_passes_124 rfl rfl rfl ?_
          refine e_iload (q := 127) dX12_passes_125 rfl rfl ?_
          refine e_iload (q := 129) dX12_passes_127 rfl rfl ?_
          refine e_Vip (q := 132) (vs := [_, _, _]) ok_X12_overlapOf ml_X12_342 dX12_passes_129 rfl ⟨_, _, rfl⟩ (by first | assumption | rfl) rfl rfl (Nat.le_of_ble_eq_true rfl) (by decide) (c_X12_overlapOf hT' hI' hs0 hs1 (by omega) (by omega) (by omega) (by omega)) ?_
          rw [e3, e4, eF]
          have hov := mOv_in (p := i) (q := j) hT hI hs0 hs1 (by omega) (by omega) (by omega) (by omega)
          have hq := hI'.2.2.1
          have hyr := hI.2.2.2.1
          refine e_istore (q := 134) (L' := [_, _, _, _, _, _, _]) dX12_passes_132 rfl (by decide) rfl rfl ?_
          refine e_iload (q := 136) dX12_passes_134 rfl rfl ?_
          refine e_if_ne (q := 139) (tgt := 142) dX12_passes_136 rfl (by decide) (fun c136 => ?_) (fun c136 => ?_) (hx := ⟨by omega, by omega⟩)
          · refine e_aload_n (q := 143) (i := 0) dX12_passes_142 rfl rfl rfl ?_
            refine e_iload_n (q := 144) (i := 1) dX12_passes_143 rfl rfl rfl ?_
            refine e_iconst (q := 145) dX12_passes_144 rfl ?_
            refine e_iconst (q := 146) dX12_passes_145 rfl ?_
            refine e_iload_n (q := 147) (i := 3) dX12_passes_146 rfl rfl rfl ?_
            refine e_iload (q := 149) dX12_passes_147 rfl rfl ?_
            refine e_Vv (q := 152) (vs := [_, _, _, _, _]) ok_X12_calls ml_X12_360 dX12_passes_149 rfl ⟨_, _, rfl⟩ (by first | assumption | rfl) rfl rfl (Nat.le_of_ble_eq_true rfl) (by decide) (c_X12_callsN hT' hI' hs0 hs1 ⟨by decide, by decide⟩ hwt ⟨by omega, by omega⟩) (fun s149 h149 => ?_)
            obtain ⟨hE, hFr, hNm⟩ := h149
            have hFm : Fm [100, 101] [34] τ s149 := ⟨hFr.mono (by decide), fun j _ => by rw [hE]⟩
            have hlp2 := hlp.aside hFm
            have hW3 := hlp2.mw hW
            rw [eY] at hNm
            have hlm : ∀ j, 0 ≤ j → j < 7 → -1000000000000 ≤ s149.2 100 j ∧ s149.2 100 j ≤ 1000000000000 := by
              intro j a b
              rw [hNm j a b]
              exact nmF_lim ⟨⟨by omega, by omega⟩, ⟨by omega, by omega⟩, ⟨by omega, by omega⟩, ⟨by omega, by omega⟩, ⟨by omega, by omega⟩, ⟨by omega, by omega⟩, ⟨by omega, by omega⟩⟩ j a b
            have ez : mLaw s149 1 (s149.2 100) = mLaw σ 1 (nmF 0 0 0 0 wt ((gOv (σ.1 86) (σ.1 87) (mF σ s)) i j) (σ.1 102 s)) := by rw [hlp2.law, mLaw_nm hNm 1]
            have eQ2 : s149.1 104 s = v := by rw [hE]; exact eQ
            rw [eQ] at hq
            refine e_aload_n (q := 153) (i := 0) dX12_passes_152 rfl rfl rfl ?_
            refine e_getR (q := 156) dX12_passes_153 rfl fg_X12_78 (by first | assumption | rfl) rfl ?_
            refine e_iload_n (q := 157) (i := 1) dX12_passes_156 rfl rfl rfl ?_
            refine e_ldc (q := 159) (z := 99999) dX12_passes_157 rfl kw_X12_174 (by decide) ?_
            refine e_aload_n (q := 160) (i := 0) dX12_passes_159 rfl rfl rfl ?_
            refine e_getR (q := 163) dX12_passes_160 rfl fg_X12_78 (by first | assumption | rfl) rfl ?_
            refine e_iload_n (q := 164) (i := 1) dX12_passes_163 rfl rfl rfl ?_
            refine e_iald (q := 165) dX12_passes_164 rfl (by first | assumption | rfl) ?_
            refine e_aload_n (q := 166) (i := 0) dX12_passes_165 rfl rfl rfl ?_
            refine e_iconst (q := 167) dX12_passes_166 rfl ?_
            refine e_iconst (q := 168) dX12_passes_167 rfl ?_
            refine e_sipush (q := 171) dX12_passes_168 rfl (by decide) ?_
            refine e_iload (q := 173) dX12_passes_171 rfl rfl ?_
            refine e_Vi (q := 176) (vs := [_, _, _, _]) ok_X12_within ml_X12_367 dX12_passes_173 rfl ⟨_, _, rfl⟩ (by first | assumption | rfl) rfl rfl (Nat.le_of_ble_eq_true rfl) (by decide) (c_X12_within hW3 (by decide) (by decide) hlm ⟨by decide, by decide⟩ ⟨by decide, by decide⟩ ⟨by omega, by omega⟩) (fun z173 s173 h173 => ?_)
            rw [eQ2]
            have hz := h173.1
            rw [ez] at hz
            have hz9 : 0 ≤ z173 ∧ z173 ≤ 40000 := by rw [hz]; unfold gWi; split <;> omega
            refine e_iadd (q := 177) dX12_passes_176 rfl ?_
            refine e_mmin (q := 180) dX12_passes_177 rfl ml_X12_329 mw_min_s mw_min_c mw_init (Nat.le_of_ble_eq_true rfl) (by decide) ?_ (hx := ⟨by decide, by decide⟩) (hy := ⟨by omega, by omega⟩)
            refine e_iast (q := 181) dX12_passes_180 rfl (by first | assumption | rfl) ?_
            refine e_iinc (q := 184) (L' := [_, _, _, _, _, _, _]) dX12_passes_181 rfl rfl (by decide) rfl rfl ?_
            refine e_goto (tgt := 112) dX12_passes_184 (by decide) ?_
            refine ih2 _ _ _ _ (by omega) (by omega) ?_ ((hlp2.aside (h173.2.mono (by decide) (by decide))).quar ⟨by omega, by omega⟩)
            rw [show j + 1 - i - 1 = (j - i - 1) + 1 by omega, qIn_succ _ _ _ _ _ (by omega), ← hv, show i + 1 + (j - i - 1) = j by omega]
            unfold qAdd
            rw [if_pos (by omega), ← hz, Int.min_comm]
          · refine e_goto (tgt := 181) dX12_passes_139 (by decide) ?_
            refine e_iinc (q := 184) (L' := [_, _, _, _, _, _, _]) dX12_passes_181 rfl rfl (by decide) rfl rfl ?_
            refine e_goto (tgt := 112) dX12_passes_184 (by decide) ?_
            refine ih2 _ _ _ _ (by omega) (by omega) ?_ hlp
            rw [show j + 1 - i - 1 = (j - i - 1) + 1 by omega, qIn_succ _ _ _ _ _ (by omega), ← hv, show i + 1 + (j - i - 1) = j by omega]
            unfold qAdd
            rw [if_neg (by omega)]
      exact lq ((σ.1 84 1) - i - 1).toNat _ _ u _ (by omega) (by omega) (by rw [show i + 1 - i - 1 = 0 by omega]; rfl) hlp
  refine e_iconst (q := 93) dX12_passes_92 rfl ?_
  refine e_istore (q := 95) (L' := [_, _, _, _, _, _, _]) dX12_passes_93 rfl (by decide) rfl rfl ?_
  exact lp ((σ.1 84 1)).toNat σ _ _ _ 0 (by omega) (by omega) rfl (Mp.rf hI)

set_option maxHeartbeats 8000000 in
theorem j_passA {G : Gx} {σ : Sg} {s wt b : Int} {P : Sg → Prop} (hT : MT σ) (hW : MW σ) (hI : MI σ s) (hB : MB σ) (hs0 : 0 ≤ s) (hs1 : s < 23) (hx : R32 (σ.1 82 44)) (hx2 : R32 (σ.1 82 45)) (hwt : wt = 0 ∨ wt = 1) (hP : ∀ σ', Mp σ σ' s (yBeats (mLaw σ) (σ.1 91) (mCk σ s) (mEd σ) (mBs σ) (σ.1 93) (σ.1 95) (mUn σ) (mTl σ) wt ((σ.1 84 3)).toNat (ydm σ s)) → ∀ (x4 x5 x6 : Option Value), J G 7 mX12_passes (pV P) σ' 92 [some (.ref (G.2.2.2 + 82)), some (.int (iZ s)), some (.int (iZ b)), some (.int (iZ wt)), x4, x5, x6] []) : J G 7 mX12_passes (pV P) σ 7 [some (.ref (G.2.2.2 + 82)), some (.int (iZ s)), some (.int (iZ b)), some (.int (iZ wt)), none, none, none] [] := by
  obtain ⟨hzz, hnp, hnc, hnb, hrn, hsd, hrw, hrq, hch, hbt, hck⟩ := id hT
  have lb : ∀ (n : Nat) (τ : Sg) (x5 x6 : Option Value) (i : Int), 0 ≤ i → i + n = (σ.1 84 3) → Mp σ τ s (yBeats (mLaw σ) (σ.1 91) (mCk σ s) (mEd σ) (mBs σ) (σ.1 93) (σ.1 95) (mUn σ) (mTl σ) wt i.toNat (ydm σ s)) → J G 7 mX12_passes (pV P) τ 10 [some (.ref (G.2.2.2 + 82)), some (.int (iZ s)), some (.int (iZ b)), some (.int (iZ wt)), some (.int (iZ i)), x5, x6] [] := by
    intro n
    induction n with
    | zero =>
      intro τ x5 x6 i h0 hn hlp
      have hT' := hlp.mt hT
      have hW' := hlp.mw hW
      have hI' := hlp.2.2.2.1
      have n4 : τ.1 84 3 = (σ.1 84 3) := by rw [hlp.c (by decide) (by decide)]
      have n2 : τ.1 84 1 = σ.1 84 1 := by rw [hlp.c (by decide) (by decide)]
      have e92 : τ.1 92 = σ.1 92 := hlp.c (by decide) (by decide)
      have e93 : τ.1 93 = σ.1 93 := hlp.c (by decide) (by decide)
      have e94 : τ.1 94 = σ.1 94 := hlp.c (by decide) (by decide)
      have e95 : τ.1 95 = σ.1 95 := hlp.c (by decide) (by decide)
      have e44 : τ.1 82 44 = σ.1 82 44 := hlp.f (by decide)
      have e45 : τ.1 82 45 = σ.1 82 45 := hlp.f (by decide)
      have eY : τ.1 102 s = (yBeats (mLaw σ) (σ.1 91) (mCk σ s) (mEd σ) (mBs σ) (σ.1 93) (σ.1 95) (mUn σ) (mTl σ) wt i.toNat (ydm σ s)).2.2.2.2 := congrArg (fun y : Yd => y.2.2.2.2) hlp.2.1
      have hyr := hI'.2.2.2.1
      refine e_iload (q := 12) dX12_passes_10 rfl rfl ?_
      refine e_aload_n (q := 13) (i := 0) dX12_passes_12 rfl rfl rfl ?_
      refine e_getR (q := 16) dX12_passes_13 rfl fg_X12_13 (by first | assumption | rfl) rfl ?_
      refine e_iconst (q := 17) dX12_passes_16 rfl ?_
      refine e_iald (q := 18) dX12_passes_17 rfl (by first | assumption | rfl) ?_
      refine e_icmp_ge (q := 21) (tgt := 92) dX12_passes_18 rfl (by decide) (fun c18 => ?_) (fun c18 => absurd (by omega) c18)
      have ei : i = (σ.1 84 3) := by omega
      subst ei
      exact hP _ hlp _ _ _
    | succ n ih =>
      intro τ x5 x6 i h0 hn hlp
      have hT' := hlp.mt hT
      have hW' := hlp.mw hW
      have hI' := hlp.2.2.2.1
      have n4 : τ.1 84 3 = (σ.1 84 3) := by rw [hlp.c (by decide) (by decide)]
      have n2 : τ.1 84 1 = σ.1 84 1 := by rw [hlp.c (by decide) (by decide)]
      have e92 : τ.1 92 = σ.1 92 := hlp.c (by decide) (by decide)
      have e93 : τ.1 93 = σ.1 93 := hlp.c (by decide) (by decide)
      have e94 : τ.1 94 = σ.1 94 := hlp.c (by decide) (by decide)
      have e95 : τ.1 95 = σ.1 95 := hlp.c (by decide) (by decide)
      have e44 : τ.1 82 44 = σ.1 82 44 := hlp.f (by decide)
      have e45 : τ.1 82 45 = σ.1 82 45 := hlp.f (by decide)
      have eY : τ.1 102 s = (yBeats (mLaw σ) (σ.1 91) (mCk σ s) (mEd σ) (mBs σ) (σ.1 93) (σ.1 95) (mUn σ) (mTl σ) wt i.toNat (ydm σ s)).2.2.2.2 := congrArg (fun y : Yd => y.2.2.2.2) hlp.2.1
      have hyr := hI'.2.2.2.1
      refine e_iload (q := 12) dX12_passes_10 rfl rfl ?_
      refine e_aload_n (q := 13) (i := 0) dX12_passes_12 rfl rfl rfl ?_
      refine e_getR (q := 16) dX12_passes_13 rfl fg_X12_13 (by first | assumption | rfl) rfl ?_
      refine e_iconst (q := 17) dX12_passes_16 rfl ?_
      refine e_iald (q := 18) dX12_passes_17 rfl (by first | assumption | rfl) ?_
      refine e_icmp_ge (q := 21) (tgt := 92) dX12_passes_18 rfl (by decide) (fun c18 => absurd c18 (by omega)) (fun c18 => ?_)
      refine e_aload_n (q := 22) (i := 0) dX12_passes_21 rfl rfl rfl ?_
      refine e_getR (q := 25) dX12_passes_22 rfl fg_X12_46 (by first | assumption | rfl) rfl ?_
      refine e_iload (q := 27) dX12_passes_25 rfl rfl ?_
      refine e_iald (q := 28) dX12_passes_27 rfl (by first | assumption | rfl) ?_
      have hbi := hbt i h0 (by omega)
      have hBi := hB i h0 (by omega)
      rw [e95]
      refine e_aload_n (q := 29) (i := 0) dX12_passes_28 rfl rfl rfl ?_
      refine e_getR (q := 32) dX12_passes_29 rfl fg_X12_72 (by first | assumption | rfl) rfl ?_
      refine e_iload_n (q := 33) (i := 1) dX12_passes_32 rfl rfl rfl ?_
      refine e_iald (q := 34) dX12_passes_33 rfl (by first | assumption | rfl) ?_
      refine e_icmp_ne (q := 37) (tgt := 86) dX12_passes_34 rfl (by decide) (fun c34 => ?_) (fun c34 => ?_) (hx := ⟨by omega, by omega⟩) (hy := ⟨by omega, by omega⟩)
      · refine e_iinc (q := 89) (L' := [_, _, _, _, _, _, _]) dX12_passes_86 rfl rfl (by decide) rfl rfl ?_
        refine e_goto (tgt := 10) dX12_passes_89 (by decide) ?_
        refine ih _ _ _ _ (by omega) (by omega) ?_
        rw [yBeats_succ _ _ _ _ _ _ _ _ _ _ h0, if_neg (fun q => c34 (by rw [eY]; exact q.1))]
        exact hlp
      · refine e_aload_n (q := 38) (i := 0) dX12_passes_37 rfl rfl rfl ?_
        refine e_getI (q := 41) (jz := 44) dX12_passes_38 rfl fg_X12_370 rfl (by first | assumption | rfl) rfl ?_
        refine e_iconst (q := 42) dX12_passes_41 rfl ?_
        refine e_icmp_ne (q := 45) (tgt := 59) dX12_passes_42 rfl (by decide) (fun c42 => ?_) (fun c42 => ?_) (hx := ⟨by omega, by omega⟩)
        · refine e_aload_n (q := 60) (i := 0) dX12_passes_59 rfl rfl rfl ?_
          refine e_iload_n (q := 61) (i := 1) dX12_passes_60 rfl rfl rfl ?_
          refine e_aload_n (q := 62) (i := 0) dX12_passes_61 rfl rfl rfl ?_
          refine e_getR (q := 65) dX12_passes_62 rfl fg_X12_37 (by first | assumption | rfl) rfl ?_
          refine e_iload (q := 67) dX12_passes_65 rfl rfl ?_
          refine e_iald (q := 68) dX12_passes_67 rfl (by first | assumption | rfl) ?_
          refine e_aload_n (q := 69) (i := 0) dX12_passes_68 rfl rfl rfl ?_
          refine e_getR (q := 72) dX12_passes_69 rfl fg_X12_40 (by first | assumption | rfl) rfl ?_
          refine e_iload (q := 74) dX12_passes_72 rfl rfl ?_
          refine e_iald (q := 75) dX12_passes_74 rfl (by first | assumption | rfl) ?_
          refine e_aload_n (q := 76) (i := 0) dX12_passes_75 rfl rfl rfl ?_
          refine e_getR (q := 79) dX12_passes_76 rfl fg_X12_43 (by first | assumption | rfl) rfl ?_
          refine e_iload (q := 81) dX12_passes_79 rfl rfl ?_
          refine e_iald (q := 82) dX12_passes_81 rfl (by first | assumption | rfl) ?_
          refine e_iload_n (q := 83) (i := 3) dX12_passes_82 rfl rfl rfl ?_
          rw [e92, e93, e94]
          refine e_Vv (q := 86) (vs := [_, _, _, _, _]) ok_X12_leads ml_X12_388 dX12_passes_83 rfl ⟨_, _, rfl⟩ (by first | assumption | rfl) rfl rfl (Nat.le_of_ble_eq_true rfl) (by decide) (c_X12_leads hT' hW' hI' hs0 hs1 (p := σ.1 92 i) (c := σ.1 93 i) (w := σ.1 94 i) (by omega) (by omega) (by omega) (by omega) (by omega) (by omega) hwt (by rw [e44]; exact hx)) (fun s83 h83 => ?_)
          refine e_iinc (q := 89) (L' := [_, _, _, _, _, _, _]) dX12_passes_86 rfl rfl (by decide) rfl rfl ?_
          refine e_goto (tgt := 10) dX12_passes_89 (by decide) ?_
          refine ih _ _ _ _ (by omega) (by omega) ?_
          rw [yBeats_succ _ _ _ _ _ _ _ _ _ _ h0, if_pos ⟨by rw [← eY]; exact c34, by unfold mUn; rw [if_neg (by omega)]; omega⟩]
          have q := hlp.tr h83
          rw [hlp.law, hlp.ed, hlp.ck, hlp.tl, hlp.c (a := 91) (by decide) (by decide), hlp.2.1] at q
          exact q
        · refine e_aload_n (q := 46) (i := 0) dX12_passes_45 rfl rfl rfl ?_
          refine e_getR (q := 49) dX12_passes_46 rfl fg_X12_40 (by first | assumption | rfl) rfl ?_
          refine e_iload (q := 51) dX12_passes_49 rfl rfl ?_
          refine e_iald (q := 52) dX12_passes_51 rfl (by first | assumption | rfl) ?_
          refine e_aload_n (q := 53) (i := 0) dX12_passes_52 rfl rfl rfl ?_
          refine e_getI (q := 56) (jz := 45) dX12_passes_53 rfl fg_X12_93 rfl (by first | assumption | rfl) rfl ?_
          rw [e93]
          refine e_icmp_eq (q := 59) (tgt := 86) dX12_passes_56 rfl (by decide) (fun c56 => ?_) (fun c56 => ?_) (hx := ⟨by omega, by omega⟩) (hy := ⟨by omega, by omega⟩)
          · refine e_iinc (q := 89) (L' := [_, _, _, _, _, _, _]) dX12_passes_86 rfl rfl (by decide) rfl rfl ?_
            refine e_goto (tgt := 10) dX12_passes_89 (by decide) ?_
            refine ih _ _ _ _ (by omega) (by omega) ?_
            rw [yBeats_succ _ _ _ _ _ _ _ _ _ _ h0, if_neg (fun q => q.2 (by unfold mUn; rw [if_pos (by omega)]; omega))]
            exact hlp
          · refine e_aload_n (q := 60) (i := 0) dX12_passes_59 rfl rfl rfl ?_
            refine e_iload_n (q := 61) (i := 1) dX12_passes_60 rfl rfl rfl ?_
            refine e_aload_n (q := 62) (i := 0) dX12_passes_61 rfl rfl rfl ?_
            refine e_getR (q := 65) dX12_passes_62 rfl fg_X12_37 (by first | assumption | rfl) rfl ?_
            refine e_iload (q := 67) dX12_passes_65 rfl rfl ?_
            refine e_iald (q := 68) dX12_passes_67 rfl (by first | assumption | rfl) ?_
            refine e_aload_n (q := 69) (i := 0) dX12_passes_68 rfl rfl rfl ?_
            refine e_getR (q := 72) dX12_passes_69 rfl fg_X12_40 (by first | assumption | rfl) rfl ?_
            refine e_iload (q := 74) dX12_passes_72 rfl rfl ?_
            refine e_iald (q := 75) dX12_passes_74 rfl (by first | assumption | rfl) ?_
            refine e_aload_n (q := 76) (i := 0) dX12_passes_75 rfl rfl rfl ?_
            refine e_getR (q := 79) dX12_passes_76 rfl fg_X12_43 (by first | assumption | rfl) rfl ?_
            refine e_iload (q := 81) dX12_passes_79 rfl rfl ?_
            refine e_iald (q := 82) dX12_passes_81 rfl (by first | assumption | rfl) ?_
            refine e_iload_n (q := 83) (i := 3) dX12_passes_82 rfl rfl rfl ?_
            rw [e92, e93, e94]
            refine e_Vv (q := 86) (vs := [_, _, _, _, _]) ok_X12_leads ml_X12_388 dX12_passes_83 rfl ⟨_, _, rfl⟩ (by first | assumption | rfl) rfl rfl (Nat.le_of_ble_eq_true rfl) (by decide) (c_X12_leads hT' hW' hI' hs0 hs1 (p := σ.1 92 i) (c := σ.1 93 i) (w := σ.1 94 i) (by omega) (by omega) (by omega) (by omega) (by omega) (by omega) hwt (by rw [e44]; exact hx)) (fun s83 h83 => ?_)
            refine e_iinc (q := 89) (L' := [_, _, _, _, _, _, _]) dX12_passes_86 rfl rfl (by decide) rfl rfl ?_
            refine e_goto (tgt := 10) dX12_passes_89 (by decide) ?_
            refine ih _ _ _ _ (by omega) (by omega) ?_
            rw [yBeats_succ _ _ _ _ _ _ _ _ _ _ h0, if_pos ⟨by rw [← eY]; exact c34, by unfold mUn; rw [if_pos (by omega)]; omega⟩]
            have q := hlp.tr h83
            rw [hlp.law, hlp.ed, hlp.ck, hlp.tl, hlp.c (a := 91) (by decide) (by decide), hlp.2.1] at q
            exact q
  refine e_iconst (q := 8) dX12_passes_7 rfl ?_
  refine e_istore (q := 10) (L' := [_, _, _, _, _, _, _]) dX12_passes_8 rfl (by decide) rfl rfl ?_
  exact lb ((σ.1 84 3)).toNat _ _ _ 0 (by omega) (by omega) (Mp.rf hI)

theorem nc_96c : ∀ a, 96 ≤ a → a ≤ 99 → a ∉ 82 :: [100, 101, 102, 103, 104, 105, 107, 108] := by
  intro a h1 h2 h3
  simp only [List.mem_cons, List.not_mem_nil, or_false] at h3
  omega
theorem nc_84c : ∀ a, 84 ≤ a → a ≤ 95 → a ∉ 82 :: [100, 101, 102, 103, 104, 105, 107, 108] := by
  intro a h1 h2 h3
  simp only [List.mem_cons, List.not_mem_nil, or_false] at h3
  omega
theorem mYr.fr {σ τ : Sg} (hF : Fm [100, 101, 102, 103, 104, 105, 107, 108] [34] σ τ) (s : Int) : mYr τ s = mYr σ s := by
  have hc : ∀ a, 84 ≤ a → a ≤ 95 → τ.1 a = σ.1 a := fun a h1 h2 => hF.c (nc_84c a h1 h2)
  have hf : ∀ j, j ≠ 34 → τ.1 82 j = σ.1 82 j := fun j hj => hF.2 j (by simp only [List.mem_cons, List.not_mem_nil, or_false]; exact hj)
  funext wt y
  have e1 : mCk τ s = mCk σ s := by
    unfold mCk mK
    rw [hf 44 (by decide), hF.c (a := 106) (by decide)]
  have e2 : mEd τ = mEd σ := by
    unfold mEd
    rw [hc 84 (by decide) (by decide), hc 86 (by decide) (by decide), hc 87 (by decide) (by decide)]
  have e3 : mBs τ = mBs σ := by
    unfold mBs
    rw [hc 92 (by decide) (by decide), hc 94 (by decide) (by decide)]
  have e4 : mUn τ = mUn σ := by
    unfold mUn
    rw [hf 44 (by decide), hf 45 (by decide)]
  have e5 : mTl τ = mTl σ := by
    unfold mTl
    rw [hf 44 (by decide)]
  unfold mYr
  rw [mLaw.fr hF nc_96c, e1, e2, e3, e4, e5, hc 84 (by decide) (by decide), hc 86 (by decide) (by decide), hc 87 (by decide) (by decide), hc 91 (by decide) (by decide), hc 93 (by decide) (by decide), hc 95 (by decide) (by decide)]
theorem MB.fr {σ τ : Sg} {C : List Nat} {F : List Int} (hB : MB σ) (hF : Fm C F σ τ) (hC : ∀ a, 84 ≤ a → a ≤ 95 → a ∉ 82 :: C) : MB τ := by
  unfold MB
  rw [hF.c (hC 84 (by decide) (by decide)), hF.c (hC 92 (by decide) (by decide)), hF.c (hC 93 (by decide) (by decide))]
  exact hB
theorem Mp_drawn {σ : Sg} {s v : Int} (hI : MI σ s) (hv : 0 ≤ v ∧ v ≤ 2147483647) : Fm [100, 101, 102, 103, 104, 105, 107, 108] [34] σ (sI σ 103 s v) ∧ Oth σ (sI σ 103 s v) s ∧ MI (sI σ 103 s v) s ∧ ydm (sI σ 103 s v) s = ydm σ s := by
  refine ⟨(Fm.rf _ _ σ).si (by decide) (by decide) _ _, (Oth.rf σ s).s1 (Or.inr (Or.inl rfl)) v, ?_, ?_⟩
  · unfold MI
    rw [mF_ne _ _ (by decide), mK_ne _ _ (by decide), mL_ne _ _ (by decide), mD_ne _ _ (by decide), sI_ne (a := 104) _ (by decide), sI_ne (a := 102) _ (by decide), sI_1, if_pos ⟨rfl, rfl⟩]
    exact ⟨hI.1, hI.2.1, hI.2.2.1, hI.2.2.2.1, hv⟩
  · unfold ydm
    rw [mF_ne _ _ (by decide), mL_ne _ _ (by decide), mD_ne _ _ (by decide), sI_ne (a := 104) _ (by decide), sI_ne (a := 102) _ (by decide)]

set_option maxHeartbeats 4000000 in
theorem c_X12_passes {G : Gx} {σ : Sg} {s b : Int} (hT : MT σ) (hW : MW σ) (hI : MI σ s) (hB : MB σ) (hs0 : 0 ≤ s) (hs1 : s < 23) (hx : R32 (σ.1 82 44)) (hx2 : R32 (σ.1 82 45)) (hb : b = 0 ∨ b = 1) (hY : σ.1 102 s < 100000) : Con G 7 mX12_passes [.ref (G.2.2.2 + 82), .int (iZ s), .int (iZ b)] σ (pV (fun σ' => Mn σ σ' s (mYr σ s (gWet (σ.1 84 4) (σ.1 103 s) (mWt σ b)).1 (ydm σ s), (gWet (σ.1 84 4) (σ.1 103 s) (mWt σ b)).2))) := by
  refine e_entry om_X12_passes (Nat.le_of_ble_eq_true rfl) (L := [some (.ref (G.2.2.2 + 82)), some (.int (iZ s)), some (.int (iZ b)), none, none, none, none]) rfl ?_
  refine e_aload_n (q := 1) (i := 0) dX12_passes_0 rfl rfl rfl ?_
  refine e_iload_n (q := 2) (i := 1) dX12_passes_1 rfl rfl rfl ?_
  refine e_iload_n (q := 3) (i := 2) dX12_passes_2 rfl rfl rfl ?_
  refine e_Vi (q := 6) (vs := [_, _]) ok_X12_isWet ml_X12_384 dX12_passes_3 rfl ⟨_, _, rfl⟩ (by first | assumption | rfl) rfl rfl (Nat.le_of_ble_eq_true rfl) (by decide) (c_X12_isWet hT hI hs0 hs1 hb hx) (fun z3 s3 h3 => ?_)
  refine e_istore_n (q := 7) (i := 3) (L' := [_, _, _, _, _, _, _]) dX12_passes_6 rfl rfl (by decide) rfl rfl ?_
  have hwt : z3 = 0 ∨ z3 = 1 := by rw [h3.1]; exact gWet_1 _ _ _
  have hg := gWet_2 (rain := σ.1 84 4) (w := mWt σ b) hI.2.2.2.2.1 hI.2.2.2.2.2
  obtain ⟨f1, ot1, mi1, y1⟩ := Mp_drawn hI hg
  rw [← h3.2] at f1 ot1 mi1 y1
  have hT1 : MT s3 := hT.fr f1 nc_84c
  have hW1 : MW s3 := hW.fr f1 nc_96c
  have hB1 : MB s3 := hB.fr f1 nc_84c
  have e44 : s3.1 82 44 = σ.1 82 44 := f1.2 44 (by decide)
  have e45 : s3.1 82 45 = σ.1 82 45 := f1.2 45 (by decide)
  have eY1 : s3.1 102 s = σ.1 102 s := congrArg (fun y : Yd => y.2.2.2.2) y1
  refine j_passA hT1 hW1 mi1 hB1 hs0 hs1 (by rw [e44]; exact hx) (by rw [e45]; exact hx2) hwt (fun sA hA x4 x5 x6 => ?_)
  refine j_passB (hA.mt hT1) (hA.mw hW1) hA.2.2.2.1 hs0 hs1 hwt (fun sB hB' x4 x5 x6 => ?_) x4 x5 x6
  have hAB := hA.tr hB'
  have eYA : sA.1 102 s = s3.1 102 s := by
    have q : (ydm sA s).2.2.2.2 = _ := congrArg (fun y : Yd => y.2.2.2.2) hA.2.1
    rw [yBeats_ye] at q
    exact q
  have eYB : sB.1 102 s = sA.1 102 s := congrArg (fun y : Yd => y.2.2.2.2) hB'.2.1
  refine j_passC (hAB.mt hT1) (hAB.mw hW1) hB'.2.2.2.1 hs0 hs1 hwt (by rw [eYB, eYA, eY1]; exact hY) (fun sC hC => ?_) x4 x5 x6
  have hAC := hAB.tr hC
  refine ⟨f1.tr (hAC.1.mono (by decide) (by decide)), ?_, ot1.tr hAC.2.2.1, hC.2.2.2.1, ?_⟩
  · rw [hC.2.1, hB'.2.1, hAB.law, hA.law, hAB.c (a := 91) (by decide) (by decide), hAB.c (a := 84) (by decide) (by decide), hA.c (a := 84) (by decide) (by decide), hA.c (a := 86) (by decide) (by decide), hA.c (a := 87) (by decide) (by decide), ← mYr.fr f1 s, ← h3.1, ← y1]
    have a1 : mF sA s = _ := congrArg (fun y : Yd => y.1) hA.2.1
    have a2 : mL sA s = _ := congrArg (fun y : Yd => y.2.1) hA.2.1
    have a3 : mD sA s = _ := congrArg (fun y : Yd => y.2.2.1) hA.2.1
    have a4 : sA.1 104 s = _ := congrArg (fun y : Yd => y.2.2.2.1) hA.2.1
    have a5 : sA.1 102 s = _ := congrArg (fun y : Yd => y.2.2.2.2) hA.2.1
    rw [a1, a2, a3, a4, a5]
    unfold mYr yYear
    rw [if_neg (fun q => q.1 rfl)]
    dsimp only
    rw [if_pos rfl]
  · rw [hAC.1.e1 (by decide), h3.2, sI_1, if_pos ⟨rfl, rfl⟩]

