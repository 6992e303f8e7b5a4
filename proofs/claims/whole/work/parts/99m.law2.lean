/-! ===== the law's cases ===== -/
def Nx (G : Gx) (nm : String) (b N : Nat) (xs : Nat → Int32) (i : Int) (kc ks : Nat) : Prop := ∀ (σ' : Sg) (E' : Nat → va_E) (z' kc' ks' : Nat) (f' : Nat → Int64), Rel σ' → fE G σ' E' → E' 120 = .inl (G.2.2.1 1, 1, .inr (.inl f')) → kc' ≤ kc + 1 → ks' ≤ ks + 6 → K G room_1 (mLL nm) (fS G b N xs) lQ (121, E', z') kc' ks' 1634 [some (.ref b), some (.ref (G.2.2.2 + 0)), some (.ref (G.2.2.2 + 82)), some (.ref (G.2.2.2 + 120)), some (.int (iZ i)), none, none] []
section KV
variable {G : Gx} {nm : String} {b N : Nat} {xs : Nat → Int32} {kc ks : Nat} {pc q : Nat} {L : List (Option Value)} {st : List Value} {σ : Sg} {z : Nat} {E : Nat → va_E}
theorem k_VI {M' : Mt} {na idx d' ci o : Nat} {fl : List Nat} {vs rest : List Value} {P : Int → Sg → Prop} (hE : fE G σ E) (hc : kc ≤ 601024) (hs : ks ≤ 7293034) (ok : OkV M' na) (hl : Cond.methodLink RL idx M'.1 ∈ lw_good) (hd : decode cL_law pc = .ok (.invokevirtual idx, 3)) (hq : pc + 3 = q) (hC : ∃ (T : u_T) (N : Nat), vwCl[ci]? = some (M'.1.cls, T, N)) (hk : lay[o]? = some (.inr (ci, fl))) (hn : vs.length = na) (hst : st = vs.reverse ++ .ref (G.2.2.2 + o) :: rest) (hr : (rest.map fun v => v.category).sum ≤ 8) (hdd : d' ≤ 200) (con : Con G d' M' (.ref (G.2.2.2 + o) :: vs) σ (pI P)) (k : ∀ (w : Int) (σ' : Sg) (z' : Nat), P w σ' → K G room_1 (mLL nm) (fS G b N xs) lQ (121, fW G σ' E, z') kc ks q L (.int (iZ w) :: rest)) : K G room_1 (mLL nm) (fS G b N xs) lQ (121, E, z) kc ks pc L st :=
  k_callV ok hl hd hq hC hk hn hst hr (by show d' + 1 ≤ 2048; omega) (by show 64 * d' + 64 ≤ 84000; omega) hc hs (Nat.le_of_ble_eq_true rfl) hE con (fun r σ' z' h => by obtain ⟨w, rfl, hp⟩ := h; exact k w σ' z' hp)
theorem k_VL {M' : Mt} {na idx d' ci o : Nat} {fl : List Nat} {vs rest : List Value} {P : Int → Sg → Prop} (hE : fE G σ E) (hc : kc ≤ 601024) (hs : ks ≤ 7293034) (ok : OkV M' na) (hl : Cond.methodLink RL idx M'.1 ∈ lw_good) (hd : decode cL_law pc = .ok (.invokevirtual idx, 3)) (hq : pc + 3 = q) (hC : ∃ (T : u_T) (N : Nat), vwCl[ci]? = some (M'.1.cls, T, N)) (hk : lay[o]? = some (.inr (ci, fl))) (hn : vs.length = na) (hst : st = vs.reverse ++ .ref (G.2.2.2 + o) :: rest) (hr : (rest.map fun v => v.category).sum ≤ 8) (hdd : d' ≤ 200) (con : Con G d' M' (.ref (G.2.2.2 + o) :: vs) σ (pL P)) (k : ∀ (w : Int) (σ' : Sg) (z' : Nat), P w σ' → K G room_1 (mLL nm) (fS G b N xs) lQ (121, fW G σ' E, z') kc ks q L (.long (lZ w) :: rest)) : K G room_1 (mLL nm) (fS G b N xs) lQ (121, E, z) kc ks pc L st :=
  k_callV ok hl hd hq hC hk hn hst hr (by show d' + 1 ≤ 2048; omega) (by show 64 * d' + 64 ≤ 84000; omega) hc hs (Nat.le_of_ble_eq_true rfl) hE con (fun r σ' z' h => by obtain ⟨w, rfl, hp⟩ := h; exact k w σ' z' hp)
end KV
set_option maxHeartbeats 1000000 in
theorem lc_0 {G : Gx} {nm : String} {b N : Nat} {xs : Nat → Int32} {i : Int} {σ : Sg} {E : Nat → va_E} {z kc ks : Nat} {f : Nat → Int64} (hN : N ≤ 3072) (h0 : 0 ≤ i) (hi : i + 6 ≤ N) (hR : Rel σ) (hE : fE G σ E) (hf : E 120 = .inl (G.2.2.1 1, 1, .inr (.inl f))) (hkc : kc ≤ 601024) (hks : ks ≤ 7293034) (nx : Nx G nm b N xs i kc ks) : K G room_1 (mLL nm) (fS G b N xs) lQ (121, E, z) kc ks 204 [some (.ref b), some (.ref (G.2.2.2 + 0)), some (.ref (G.2.2.2 + 82)), some (.ref (G.2.2.2 + 120)), some (.int (iZ i)), none, none] [] := by
  refine k_aload_n (q := 205) (i := 1) dL_law_204 rfl rfl rfl ?_
  refine k_aload_n (q := 206) (i := 0) dL_law_205 rfl rfl rfl ?_
  refine k_iload (q := 208) dL_law_206 rfl rfl ?_
  refine k_iconst (q := 209) dL_law_208 rfl ?_
  refine k_iadd (q := 210) dL_law_209 rfl ?_
  refine k_sld (q := 211) dL_law_210 rfl (by omega) (by omega) hN ?_
  refine k_aload_n (q := 212) (i := 0) dL_law_211 rfl rfl rfl ?_
  refine k_iload (q := 214) dL_law_212 rfl rfl ?_
  refine k_iconst (q := 215) dL_law_214 rfl ?_
  refine k_iadd (q := 216) dL_law_215 rfl ?_
  refine k_sld (q := 217) dL_law_216 rfl (by omega) (by omega) hN ?_
  refine k_aload_n (q := 218) (i := 0) dL_law_217 rfl rfl rfl ?_
  refine k_iload (q := 220) dL_law_218 rfl rfl ?_
  refine k_iconst (q := 221) dL_law_220 rfl ?_
  refine k_iadd (q := 222) dL_law_221 rfl ?_
  refine k_sld (q := 223) dL_law_222 rfl (by omega) (by omega) hN ?_
  refine k_aload_n (q := 224) (i := 0) dL_law_223 rfl rfl rfl ?_
  refine k_iload (q := 226) dL_law_224 rfl rfl ?_
  refine k_iconst (q := 227) dL_law_226 rfl ?_
  refine k_iadd (q := 228) dL_law_227 rfl ?_
  refine k_sld (q := 229) dL_law_228 rfl (by omega) (by omega) hN ?_
  refine k_aload_n (q := 230) (i := 0) dL_law_229 rfl rfl rfl ?_
  refine k_iload (q := 232) dL_law_230 rfl rfl ?_
  refine k_iconst (q := 233) dL_law_232 rfl ?_
  refine k_iadd (q := 234) dL_law_233 rfl ?_
  refine k_sld (q := 235) dL_law_234 rfl (by omega) (by omega) hN ?_
  refine k_VI (q := 238) (vs := [_, _, _, _, _]) hE hkc hks ok_X11_feed ml_L_21 dL_law_235 rfl ⟨_, _, rfl⟩ rfl rfl rfl (Nat.le_of_ble_eq_true rfl) (by decide) (st_feed hR (sX_in _ _) (sX_in _ _) (sX_in _ _) (sX_in _ _) (sX_in _ _)) (fun w1 σ1 z1 hC => ?_)
  refine k_aload_n (q := 239) (i := 2) dL_law_238 rfl rfl rfl ?_
  refine k_aload_n (q := 240) (i := 0) dL_law_239 rfl rfl rfl ?_
  refine k_iload (q := 242) dL_law_240 rfl rfl ?_
  refine k_iconst (q := 243) dL_law_242 rfl ?_
  refine k_iadd (q := 244) dL_law_243 rfl ?_
  refine k_sld (q := 245) dL_law_244 rfl (by omega) (by omega) hN ?_
  refine k_aload_n (q := 246) (i := 0) dL_law_245 rfl rfl rfl ?_
  refine k_iload (q := 248) dL_law_246 rfl rfl ?_
  refine k_iconst (q := 249) dL_law_248 rfl ?_
  refine k_iadd (q := 250) dL_law_249 rfl ?_
  refine k_sld (q := 251) dL_law_250 rfl (by omega) (by omega) hN ?_
  refine k_aload_n (q := 252) (i := 0) dL_law_251 rfl rfl rfl ?_
  refine k_iload (q := 254) dL_law_252 rfl rfl ?_
  refine k_iconst (q := 255) dL_law_254 rfl ?_
  refine k_iadd (q := 256) dL_law_255 rfl ?_
  refine k_sld (q := 257) dL_law_256 rfl (by omega) (by omega) hN ?_
  refine k_aload_n (q := 258) (i := 0) dL_law_257 rfl rfl rfl ?_
  refine k_iload (q := 260) dL_law_258 rfl rfl ?_
  refine k_iconst (q := 261) dL_law_260 rfl ?_
  refine k_iadd (q := 262) dL_law_261 rfl ?_
  refine k_sld (q := 263) dL_law_262 rfl (by omega) (by omega) hN ?_
  refine k_aload_n (q := 264) (i := 0) dL_law_263 rfl rfl rfl ?_
  refine k_iload (q := 266) dL_law_264 rfl rfl ?_
  refine k_iconst (q := 267) dL_law_266 rfl ?_
  refine k_iadd (q := 268) dL_law_267 rfl ?_
  refine k_sld (q := 269) dL_law_268 rfl (by omega) (by omega) hN ?_
  refine k_VI (q := 272) (vs := [_, _, _, _, _]) fE_fW hkc hks ok_X12_feed ml_L_25 dL_law_269 rfl ⟨_, _, rfl⟩ rfl rfl rfl (Nat.le_of_ble_eq_true rfl) (by decide) hC (fun w2 σ2 z2 h2 => ?_)
  obtain ⟨rfl, hR2⟩ := h2
  rw [← iZ_of (iZ w2)]
  refine k_icmp_eq (q := 275) (tgt := 1634) dL_law_272 rfl (by decide) (fun c272 => ?_) (fun c272 => by exfalso; exact absurd rfl c272) (hx := R32_of _) (hy := R32_of _)
  exact nx σ2 _ _ _ _ f hR2 fE_fW ((fW_out (Nat.le_of_ble_eq_true rfl)).trans ((fW_out (Nat.le_of_ble_eq_true rfl)).trans hf)) (by omega) (by omega)
set_option maxHeartbeats 1000000 in
theorem lc_1 {G : Gx} {nm : String} {b N : Nat} {xs : Nat → Int32} {i : Int} {σ : Sg} {E : Nat → va_E} {z kc ks : Nat} {f : Nat → Int64} (hN : N ≤ 3072) (h0 : 0 ≤ i) (hi : i + 6 ≤ N) (hR : Rel σ) (hE : fE G σ E) (hf : E 120 = .inl (G.2.2.1 1, 1, .inr (.inl f))) (hkc : kc ≤ 601024) (hks : ks ≤ 7293034) (nx : Nx G nm b N xs i kc ks) : K G room_1 (mLL nm) (fS G b N xs) lQ (121, E, z) kc ks 277 [some (.ref b), some (.ref (G.2.2.2 + 0)), some (.ref (G.2.2.2 + 82)), some (.ref (G.2.2.2 + 120)), some (.int (iZ i)), none, none] [] := by
  refine k_aload_n (q := 278) (i := 1) dL_law_277 rfl rfl rfl ?_
  refine k_aload_n (q := 279) (i := 0) dL_law_278 rfl rfl rfl ?_
  refine k_iload (q := 281) dL_law_279 rfl rfl ?_
  refine k_iconst (q := 282) dL_law_281 rfl ?_
  refine k_iadd (q := 283) dL_law_282 rfl ?_
  refine k_sld (q := 284) dL_law_283 rfl (by omega) (by omega) hN ?_
  refine k_VI (q := 287) (vs := [_]) hE hkc hks ok_X11_text ml_L_26 dL_law_284 rfl ⟨_, _, rfl⟩ rfl rfl rfl (Nat.le_of_ble_eq_true rfl) (by decide) (st_text hR (sX_in _ _)) (fun w1 σ1 z1 hC => ?_)
  refine k_aload_n (q := 288) (i := 2) dL_law_287 rfl rfl rfl ?_
  refine k_aload_n (q := 289) (i := 0) dL_law_288 rfl rfl rfl ?_
  refine k_iload (q := 291) dL_law_289 rfl rfl ?_
  refine k_iconst (q := 292) dL_law_291 rfl ?_
  refine k_iadd (q := 293) dL_law_292 rfl ?_
  refine k_sld (q := 294) dL_law_293 rfl (by omega) (by omega) hN ?_
  refine k_VI (q := 297) (vs := [_]) fE_fW hkc hks ok_X12_text ml_L_30 dL_law_294 rfl ⟨_, _, rfl⟩ rfl rfl rfl (Nat.le_of_ble_eq_true rfl) (by decide) hC (fun w2 σ2 z2 h2 => ?_)
  obtain ⟨rfl, hR2⟩ := h2
  rw [← iZ_of (iZ w2)]
  refine k_icmp_eq (q := 300) (tgt := 1634) dL_law_297 rfl (by decide) (fun c297 => ?_) (fun c297 => by exfalso; exact absurd rfl c297) (hx := R32_of _) (hy := R32_of _)
  exact nx σ2 _ _ _ _ f hR2 fE_fW ((fW_out (Nat.le_of_ble_eq_true rfl)).trans ((fW_out (Nat.le_of_ble_eq_true rfl)).trans hf)) (by omega) (by omega)
set_option maxHeartbeats 1000000 in
theorem lc_2 {G : Gx} {nm : String} {b N : Nat} {xs : Nat → Int32} {i : Int} {σ : Sg} {E : Nat → va_E} {z kc ks : Nat} {f : Nat → Int64} (hN : N ≤ 3072) (h0 : 0 ≤ i) (hi : i + 6 ≤ N) (hR : Rel σ) (hE : fE G σ E) (hf : E 120 = .inl (G.2.2.1 1, 1, .inr (.inl f))) (hkc : kc ≤ 601024) (hks : ks ≤ 7293034) (nx : Nx G nm b N xs i kc ks) : K G room_1 (mLL nm) (fS G b N xs) lQ (121, E, z) kc ks 302 [some (.ref b), some (.ref (G.2.2.2 + 0)), some (.ref (G.2.2.2 + 82)), some (.ref (G.2.2.2 + 120)), some (.int (iZ i)), none, none] [] := by
  refine k_aload_n (q := 303) (i := 1) dL_law_302 rfl rfl rfl ?_
  refine k_aload_n (q := 304) (i := 0) dL_law_303 rfl rfl rfl ?_
  refine k_iload (q := 306) dL_law_304 rfl rfl ?_
  refine k_iconst (q := 307) dL_law_306 rfl ?_
  refine k_iadd (q := 308) dL_law_307 rfl ?_
  refine k_sld (q := 309) dL_law_308 rfl (by omega) (by omega) hN ?_
  refine k_VI (q := 312) (vs := [_]) hE hkc hks ok_X11_fault ml_L_31 dL_law_309 rfl ⟨_, _, rfl⟩ rfl rfl rfl (Nat.le_of_ble_eq_true rfl) (by decide) (st_fault hR (sX_in _ _)) (fun w1 σ1 z1 hC => ?_)
  refine k_aload_n (q := 313) (i := 2) dL_law_312 rfl rfl rfl ?_
  refine k_aload_n (q := 314) (i := 0) dL_law_313 rfl rfl rfl ?_
  refine k_iload (q := 316) dL_law_314 rfl rfl ?_
  refine k_iconst (q := 317) dL_law_316 rfl ?_
  refine k_iadd (q := 318) dL_law_317 rfl ?_
  refine k_sld (q := 319) dL_law_318 rfl (by omega) (by omega) hN ?_
  refine k_VI (q := 322) (vs := [_]) fE_fW hkc hks ok_X12_fault ml_L_34 dL_law_319 rfl ⟨_, _, rfl⟩ rfl rfl rfl (Nat.le_of_ble_eq_true rfl) (by decide) hC (fun w2 σ2 z2 h2 => ?_)
  obtain ⟨rfl, hR2⟩ := h2
  rw [← iZ_of (iZ w2)]
  refine k_icmp_eq (q := 325) (tgt := 1634) dL_law_322 rfl (by decide) (fun c322 => ?_) (fun c322 => by exfalso; exact absurd rfl c322) (hx := R32_of _) (hy := R32_of _)
  exact nx σ2 _ _ _ _ f hR2 fE_fW ((fW_out (Nat.le_of_ble_eq_true rfl)).trans ((fW_out (Nat.le_of_ble_eq_true rfl)).trans hf)) (by omega) (by omega)
set_option maxHeartbeats 1000000 in
theorem lc_3 {G : Gx} {nm : String} {b N : Nat} {xs : Nat → Int32} {i : Int} {σ : Sg} {E : Nat → va_E} {z kc ks : Nat} {f : Nat → Int64} (hN : N ≤ 3072) (h0 : 0 ≤ i) (hi : i + 6 ≤ N) (hR : Rel σ) (hE : fE G σ E) (hf : E 120 = .inl (G.2.2.1 1, 1, .inr (.inl f))) (hkc : kc ≤ 601024) (hks : ks ≤ 7293034) (nx : Nx G nm b N xs i kc ks) : K G room_1 (mLL nm) (fS G b N xs) lQ (121, E, z) kc ks 327 [some (.ref b), some (.ref (G.2.2.2 + 0)), some (.ref (G.2.2.2 + 82)), some (.ref (G.2.2.2 + 120)), some (.int (iZ i)), none, none] [] := by
  refine k_aload_n (q := 328) (i := 1) dL_law_327 rfl rfl rfl ?_
  refine k_aload_n (q := 329) (i := 0) dL_law_328 rfl rfl rfl ?_
  refine k_iload (q := 331) dL_law_329 rfl rfl ?_
  refine k_iconst (q := 332) dL_law_331 rfl ?_
  refine k_iadd (q := 333) dL_law_332 rfl ?_
  refine k_sld (q := 334) dL_law_333 rfl (by omega) (by omega) hN ?_
  refine k_aload_n (q := 335) (i := 0) dL_law_334 rfl rfl rfl ?_
  refine k_iload (q := 337) dL_law_335 rfl rfl ?_
  refine k_iconst (q := 338) dL_law_337 rfl ?_
  refine k_iadd (q := 339) dL_law_338 rfl ?_
  refine k_sld (q := 340) dL_law_339 rfl (by omega) (by omega) hN ?_
  refine k_VI (q := 343) (vs := [_, _]) hE hkc hks ok_X11_named ml_L_35 dL_law_340 rfl ⟨_, _, rfl⟩ rfl rfl rfl (Nat.le_of_ble_eq_true rfl) (by decide) (st_named hR (sX_in _ _) (sX_in _ _)) (fun w1 σ1 z1 hC => ?_)
  refine k_aload_n (q := 344) (i := 2) dL_law_343 rfl rfl rfl ?_
  refine k_aload_n (q := 345) (i := 0) dL_law_344 rfl rfl rfl ?_
  refine k_iload (q := 347) dL_law_345 rfl rfl ?_
  refine k_iconst (q := 348) dL_law_347 rfl ?_
  refine k_iadd (q := 349) dL_law_348 rfl ?_
  refine k_sld (q := 350) dL_law_349 rfl (by omega) (by omega) hN ?_
  refine k_aload_n (q := 351) (i := 0) dL_law_350 rfl rfl rfl ?_
  refine k_iload (q := 353) dL_law_351 rfl rfl ?_
  refine k_iconst (q := 354) dL_law_353 rfl ?_
  refine k_iadd (q := 355) dL_law_354 rfl ?_
  refine k_sld (q := 356) dL_law_355 rfl (by omega) (by omega) hN ?_
  refine k_VI (q := 359) (vs := [_, _]) fE_fW hkc hks ok_X12_named ml_L_38 dL_law_356 rfl ⟨_, _, rfl⟩ rfl rfl rfl (Nat.le_of_ble_eq_true rfl) (by decide) hC (fun w2 σ2 z2 h2 => ?_)
  obtain ⟨rfl, hR2⟩ := h2
  rw [← iZ_of (iZ w2)]
  refine k_icmp_eq (q := 362) (tgt := 1634) dL_law_359 rfl (by decide) (fun c359 => ?_) (fun c359 => by exfalso; exact absurd rfl c359) (hx := R32_of _) (hy := R32_of _)
  exact nx σ2 _ _ _ _ f hR2 fE_fW ((fW_out (Nat.le_of_ble_eq_true rfl)).trans ((fW_out (Nat.le_of_ble_eq_true rfl)).trans hf)) (by omega) (by omega)
set_option maxHeartbeats 1000000 in
theorem lc_5 {G : Gx} {nm : String} {b N : Nat} {xs : Nat → Int32} {i : Int} {σ : Sg} {E : Nat → va_E} {z kc ks : Nat} {f : Nat → Int64} (hN : N ≤ 3072) (h0 : 0 ≤ i) (hi : i + 6 ≤ N) (hR : Rel σ) (hE : fE G σ E) (hf : E 120 = .inl (G.2.2.1 1, 1, .inr (.inl f))) (hkc : kc ≤ 601024) (hks : ks ≤ 7293034) (nx : Nx G nm b N xs i kc ks) : K G room_1 (mLL nm) (fS G b N xs) lQ (121, E, z) kc ks 432 [some (.ref b), some (.ref (G.2.2.2 + 0)), some (.ref (G.2.2.2 + 82)), some (.ref (G.2.2.2 + 120)), some (.int (iZ i)), none, none] [] := by
  refine k_aload_n (q := 433) (i := 1) dL_law_432 rfl rfl rfl ?_
  refine k_aload_n (q := 434) (i := 0) dL_law_433 rfl rfl rfl ?_
  refine k_iload (q := 436) dL_law_434 rfl rfl ?_
  refine k_iconst (q := 437) dL_law_436 rfl ?_
  refine k_iadd (q := 438) dL_law_437 rfl ?_
  refine k_sld (q := 439) dL_law_438 rfl (by omega) (by omega) hN ?_
  refine k_aload_n (q := 440) (i := 0) dL_law_439 rfl rfl rfl ?_
  refine k_iload (q := 442) dL_law_440 rfl rfl ?_
  refine k_iconst (q := 443) dL_law_442 rfl ?_
  refine k_iadd (q := 444) dL_law_443 rfl ?_
  refine k_sld (q := 445) dL_law_444 rfl (by omega) (by omega) hN ?_
  refine k_VI (q := 448) (vs := [_, _]) hE hkc hks ok_X11_child ml_L_49 dL_law_445 rfl ⟨_, _, rfl⟩ rfl rfl rfl (Nat.le_of_ble_eq_true rfl) (by decide) (st_child hR (sX_in _ _) (sX_in _ _)) (fun w1 σ1 z1 hC => ?_)
  refine k_aload_n (q := 449) (i := 2) dL_law_448 rfl rfl rfl ?_
  refine k_aload_n (q := 450) (i := 0) dL_law_449 rfl rfl rfl ?_
  refine k_iload (q := 452) dL_law_450 rfl rfl ?_
  refine k_iconst (q := 453) dL_law_452 rfl ?_
  refine k_iadd (q := 454) dL_law_453 rfl ?_
  refine k_sld (q := 455) dL_law_454 rfl (by omega) (by omega) hN ?_
  refine k_aload_n (q := 456) (i := 0) dL_law_455 rfl rfl rfl ?_
  refine k_iload (q := 458) dL_law_456 rfl rfl ?_
  refine k_iconst (q := 459) dL_law_458 rfl ?_
  refine k_iadd (q := 460) dL_law_459 rfl ?_
  refine k_sld (q := 461) dL_law_460 rfl (by omega) (by omega) hN ?_
  refine k_VI (q := 464) (vs := [_, _]) fE_fW hkc hks ok_X12_child ml_L_52 dL_law_461 rfl ⟨_, _, rfl⟩ rfl rfl rfl (Nat.le_of_ble_eq_true rfl) (by decide) hC (fun w2 σ2 z2 h2 => ?_)
  obtain ⟨rfl, hR2⟩ := h2
  rw [← iZ_of (iZ w2)]
  refine k_icmp_eq (q := 467) (tgt := 1634) dL_law_464 rfl (by decide) (fun c464 => ?_) (fun c464 => by exfalso; exact absurd rfl c464) (hx := R32_of _) (hy := R32_of _)
  exact nx σ2 _ _ _ _ f hR2 fE_fW ((fW_out (Nat.le_of_ble_eq_true rfl)).trans ((fW_out (Nat.le_of_ble_eq_true rfl)).trans hf)) (by omega) (by omega)
set_option maxHeartbeats 1000000 in
theorem lc_6 {G : Gx} {nm : String} {b N : Nat} {xs : Nat → Int32} {i : Int} {σ : Sg} {E : Nat → va_E} {z kc ks : Nat} {f : Nat → Int64} (hN : N ≤ 3072) (h0 : 0 ≤ i) (hi : i + 6 ≤ N) (hR : Rel σ) (hE : fE G σ E) (hf : E 120 = .inl (G.2.2.1 1, 1, .inr (.inl f))) (hkc : kc ≤ 601024) (hks : ks ≤ 7293034) (nx : Nx G nm b N xs i kc ks) : K G room_1 (mLL nm) (fS G b N xs) lQ (121, E, z) kc ks 469 [some (.ref b), some (.ref (G.2.2.2 + 0)), some (.ref (G.2.2.2 + 82)), some (.ref (G.2.2.2 + 120)), some (.int (iZ i)), none, none] [] := by
  refine k_aload_n (q := 470) (i := 1) dL_law_469 rfl rfl rfl ?_
  refine k_aload_n (q := 471) (i := 0) dL_law_470 rfl rfl rfl ?_
  refine k_iload (q := 473) dL_law_471 rfl rfl ?_
  refine k_iconst (q := 474) dL_law_473 rfl ?_
  refine k_iadd (q := 475) dL_law_474 rfl ?_
  refine k_sld (q := 476) dL_law_475 rfl (by omega) (by omega) hN ?_
  refine k_aload_n (q := 477) (i := 0) dL_law_476 rfl rfl rfl ?_
  refine k_iload (q := 479) dL_law_477 rfl rfl ?_
  refine k_iconst (q := 480) dL_law_479 rfl ?_
  refine k_iadd (q := 481) dL_law_480 rfl ?_
  refine k_sld (q := 482) dL_law_481 rfl (by omega) (by omega) hN ?_
  refine k_VI (q := 485) (vs := [_, _]) hE hkc hks ok_X11_cake ml_L_53 dL_law_482 rfl ⟨_, _, rfl⟩ rfl rfl rfl (Nat.le_of_ble_eq_true rfl) (by decide) (st_cake hR (sX_in _ _) (sX_in _ _)) (fun w1 σ1 z1 hC => ?_)
  refine k_aload_n (q := 486) (i := 2) dL_law_485 rfl rfl rfl ?_
  refine k_aload_n (q := 487) (i := 0) dL_law_486 rfl rfl rfl ?_
  refine k_iload (q := 489) dL_law_487 rfl rfl ?_
  refine k_iconst (q := 490) dL_law_489 rfl ?_
  refine k_iadd (q := 491) dL_law_490 rfl ?_
  refine k_sld (q := 492) dL_law_491 rfl (by omega) (by omega) hN ?_
  refine k_aload_n (q := 493) (i := 0) dL_law_492 rfl rfl rfl ?_
  refine k_iload (q := 495) dL_law_493 rfl rfl ?_
  refine k_iconst (q := 496) dL_law_495 rfl ?_
  refine k_iadd (q := 497) dL_law_496 rfl ?_
  refine k_sld (q := 498) dL_law_497 rfl (by omega) (by omega) hN ?_
  refine k_VI (q := 501) (vs := [_, _]) fE_fW hkc hks ok_X12_cake ml_L_56 dL_law_498 rfl ⟨_, _, rfl⟩ rfl rfl rfl (Nat.le_of_ble_eq_true rfl) (by decide) hC (fun w2 σ2 z2 h2 => ?_)
  obtain ⟨rfl, hR2⟩ := h2
  rw [← iZ_of (iZ w2)]
  refine k_icmp_eq (q := 504) (tgt := 1634) dL_law_501 rfl (by decide) (fun c501 => ?_) (fun c501 => by exfalso; exact absurd rfl c501) (hx := R32_of _) (hy := R32_of _)
  exact nx σ2 _ _ _ _ f hR2 fE_fW ((fW_out (Nat.le_of_ble_eq_true rfl)).trans ((fW_out (Nat.le_of_ble_eq_true rfl)).trans hf)) (by omega) (by omega)
set_option maxHeartbeats 1000000 in
theorem lc_7 {G : Gx} {nm : String} {b N : Nat} {xs : Nat → Int32} {i : Int} {σ : Sg} {E : Nat → va_E} {z kc ks : Nat} {f : Nat → Int64} (hN : N ≤ 3072) (h0 : 0 ≤ i) (hi : i + 6 ≤ N) (hR : Rel σ) (hE : fE G σ E) (hf : E 120 = .inl (G.2.2.1 1, 1, .inr (.inl f))) (hkc : kc ≤ 601024) (hks : ks ≤ 7293034) (nx : Nx G nm b N xs i kc ks) : K G room_1 (mLL nm) (fS G b N xs) lQ (121, E, z) kc ks 506 [some (.ref b), some (.ref (G.2.2.2 + 0)), some (.ref (G.2.2.2 + 82)), some (.ref (G.2.2.2 + 120)), some (.int (iZ i)), none, none] [] := by
  refine k_aload_n (q := 507) (i := 1) dL_law_506 rfl rfl rfl ?_
  refine k_aload_n (q := 508) (i := 0) dL_law_507 rfl rfl rfl ?_
  refine k_iload (q := 510) dL_law_508 rfl rfl ?_
  refine k_iconst (q := 511) dL_law_510 rfl ?_
  refine k_iadd (q := 512) dL_law_511 rfl ?_
  refine k_sld (q := 513) dL_law_512 rfl (by omega) (by omega) hN ?_
  refine k_aload_n (q := 514) (i := 0) dL_law_513 rfl rfl rfl ?_
  refine k_iload (q := 516) dL_law_514 rfl rfl ?_
  refine k_iconst (q := 517) dL_law_516 rfl ?_
  refine k_iadd (q := 518) dL_law_517 rfl ?_
  refine k_sld (q := 519) dL_law_518 rfl (by omega) (by omega) hN ?_
  refine k_VI (q := 522) (vs := [_, _]) hE hkc hks ok_X11_owners ml_L_57 dL_law_519 rfl ⟨_, _, rfl⟩ rfl rfl rfl (Nat.le_of_ble_eq_true rfl) (by decide) (st_owners hR (sX_in _ _) (sX_in _ _)) (fun w1 σ1 z1 hC => ?_)
  refine k_aload_n (q := 523) (i := 2) dL_law_522 rfl rfl rfl ?_
  refine k_aload_n (q := 524) (i := 0) dL_law_523 rfl rfl rfl ?_
  refine k_iload (q := 526) dL_law_524 rfl rfl ?_
  refine k_iconst (q := 527) dL_law_526 rfl ?_
  refine k_iadd (q := 528) dL_law_527 rfl ?_
  refine k_sld (q := 529) dL_law_528 rfl (by omega) (by omega) hN ?_
  refine k_aload_n (q := 530) (i := 0) dL_law_529 rfl rfl rfl ?_
  refine k_iload (q := 532) dL_law_530 rfl rfl ?_
  refine k_iconst (q := 533) dL_law_532 rfl ?_
  refine k_iadd (q := 534) dL_law_533 rfl ?_
  refine k_sld (q := 535) dL_law_534 rfl (by omega) (by omega) hN ?_
  refine k_VI (q := 538) (vs := [_, _]) fE_fW hkc hks ok_X12_owners ml_L_60 dL_law_535 rfl ⟨_, _, rfl⟩ rfl rfl rfl (Nat.le_of_ble_eq_true rfl) (by decide) hC (fun w2 σ2 z2 h2 => ?_)
  obtain ⟨rfl, hR2⟩ := h2
  rw [← iZ_of (iZ w2)]
  refine k_icmp_eq (q := 541) (tgt := 1634) dL_law_538 rfl (by decide) (fun c538 => ?_) (fun c538 => by exfalso; exact absurd rfl c538) (hx := R32_of _) (hy := R32_of _)
  exact nx σ2 _ _ _ _ f hR2 fE_fW ((fW_out (Nat.le_of_ble_eq_true rfl)).trans ((fW_out (Nat.le_of_ble_eq_true rfl)).trans hf)) (by omega) (by omega)
set_option maxHeartbeats 1000000 in
theorem lc_8 {G : Gx} {nm : String} {b N : Nat} {xs : Nat → Int32} {i : Int} {σ : Sg} {E : Nat → va_E} {z kc ks : Nat} {f : Nat → Int64} (hN : N ≤ 3072) (h0 : 0 ≤ i) (hi : i + 6 ≤ N) (hR : Rel σ) (hE : fE G σ E) (hf : E 120 = .inl (G.2.2.1 1, 1, .inr (.inl f))) (hkc : kc ≤ 601024) (hks : ks ≤ 7293034) (nx : Nx G nm b N xs i kc ks) : K G room_1 (mLL nm) (fS G b N xs) lQ (121, E, z) kc ks 543 [some (.ref b), some (.ref (G.2.2.2 + 0)), some (.ref (G.2.2.2 + 82)), some (.ref (G.2.2.2 + 120)), some (.int (iZ i)), none, none] [] := by
  refine k_aload_n (q := 544) (i := 1) dL_law_543 rfl rfl rfl ?_
  refine k_aload_n (q := 545) (i := 0) dL_law_544 rfl rfl rfl ?_
  refine k_iload (q := 547) dL_law_545 rfl rfl ?_
  refine k_iconst (q := 548) dL_law_547 rfl ?_
  refine k_iadd (q := 549) dL_law_548 rfl ?_
  refine k_sld (q := 550) dL_law_549 rfl (by omega) (by omega) hN ?_
  refine k_aload_n (q := 551) (i := 0) dL_law_550 rfl rfl rfl ?_
  refine k_iload (q := 553) dL_law_551 rfl rfl ?_
  refine k_iconst (q := 554) dL_law_553 rfl ?_
  refine k_iadd (q := 555) dL_law_554 rfl ?_
  refine k_sld (q := 556) dL_law_555 rfl (by omega) (by omega) hN ?_
  refine k_VI (q := 559) (vs := [_, _]) hE hkc hks ok_X11_overlap ml_L_61 dL_law_556 rfl ⟨_, _, rfl⟩ rfl rfl rfl (Nat.le_of_ble_eq_true rfl) (by decide) (st_overlap hR (sX_in _ _) (sX_in _ _)) (fun w1 σ1 z1 hC => ?_)
  refine k_aload_n (q := 560) (i := 2) dL_law_559 rfl rfl rfl ?_
  refine k_aload_n (q := 561) (i := 0) dL_law_560 rfl rfl rfl ?_
  refine k_iload (q := 563) dL_law_561 rfl rfl ?_
  refine k_iconst (q := 564) dL_law_563 rfl ?_
  refine k_iadd (q := 565) dL_law_564 rfl ?_
  refine k_sld (q := 566) dL_law_565 rfl (by omega) (by omega) hN ?_
  refine k_aload_n (q := 567) (i := 0) dL_law_566 rfl rfl rfl ?_
  refine k_iload (q := 569) dL_law_567 rfl rfl ?_
  refine k_iconst (q := 570) dL_law_569 rfl ?_
  refine k_iadd (q := 571) dL_law_570 rfl ?_
  refine k_sld (q := 572) dL_law_571 rfl (by omega) (by omega) hN ?_
  refine k_VI (q := 575) (vs := [_, _]) fE_fW hkc hks ok_X12_overlap ml_L_64 dL_law_572 rfl ⟨_, _, rfl⟩ rfl rfl rfl (Nat.le_of_ble_eq_true rfl) (by decide) hC (fun w2 σ2 z2 h2 => ?_)
  obtain ⟨rfl, hR2⟩ := h2
  rw [← iZ_of (iZ w2)]
  refine k_icmp_eq (q := 578) (tgt := 1634) dL_law_575 rfl (by decide) (fun c575 => ?_) (fun c575 => by exfalso; exact absurd rfl c575) (hx := R32_of _) (hy := R32_of _)
  exact nx σ2 _ _ _ _ f hR2 fE_fW ((fW_out (Nat.le_of_ble_eq_true rfl)).trans ((fW_out (Nat.le_of_ble_eq_true rfl)).trans hf)) (by omega) (by omega)
set_option maxHeartbeats 1000000 in
theorem lc_9 {G : Gx} {nm : String} {b N : Nat} {xs : Nat → Int32} {i : Int} {σ : Sg} {E : Nat → va_E} {z kc ks : Nat} {f : Nat → Int64} (hN : N ≤ 3072) (h0 : 0 ≤ i) (hi : i + 6 ≤ N) (hR : Rel σ) (hE : fE G σ E) (hf : E 120 = .inl (G.2.2.1 1, 1, .inr (.inl f))) (hkc : kc ≤ 601024) (hks : ks ≤ 7293034) (nx : Nx G nm b N xs i kc ks) : K G room_1 (mLL nm) (fS G b N xs) lQ (121, E, z) kc ks 580 [some (.ref b), some (.ref (G.2.2.2 + 0)), some (.ref (G.2.2.2 + 82)), some (.ref (G.2.2.2 + 120)), some (.int (iZ i)), none, none] [] := by
  refine k_aload_n (q := 581) (i := 1) dL_law_580 rfl rfl rfl ?_
  refine k_VI (q := 584) (vs := []) hE hkc hks ok_X11_taken ml_L_65 dL_law_581 rfl ⟨_, _, rfl⟩ rfl rfl rfl (Nat.le_of_ble_eq_true rfl) (by decide) (st_taken hR) (fun w1 σ1 z1 hC => ?_)
  refine k_aload_n (q := 585) (i := 2) dL_law_584 rfl rfl rfl ?_
  refine k_VI (q := 588) (vs := []) fE_fW hkc hks ok_X12_taken ml_L_68 dL_law_585 rfl ⟨_, _, rfl⟩ rfl rfl rfl (Nat.le_of_ble_eq_true rfl) (by decide) hC (fun w2 σ2 z2 h2 => ?_)
  obtain ⟨rfl, hR2⟩ := h2
  rw [← iZ_of (iZ w2)]
  refine k_icmp_eq (q := 591) (tgt := 1634) dL_law_588 rfl (by decide) (fun c588 => ?_) (fun c588 => by exfalso; exact absurd rfl c588) (hx := R32_of _) (hy := R32_of _)
  exact nx σ2 _ _ _ _ f hR2 fE_fW ((fW_out (Nat.le_of_ble_eq_true rfl)).trans ((fW_out (Nat.le_of_ble_eq_true rfl)).trans hf)) (by omega) (by omega)
set_option maxHeartbeats 1000000 in
theorem lc_10 {G : Gx} {nm : String} {b N : Nat} {xs : Nat → Int32} {i : Int} {σ : Sg} {E : Nat → va_E} {z kc ks : Nat} {f : Nat → Int64} (hN : N ≤ 3072) (h0 : 0 ≤ i) (hi : i + 6 ≤ N) (hR : Rel σ) (hE : fE G σ E) (hf : E 120 = .inl (G.2.2.1 1, 1, .inr (.inl f))) (hkc : kc ≤ 601024) (hks : ks ≤ 7293034) (nx : Nx G nm b N xs i kc ks) : K G room_1 (mLL nm) (fS G b N xs) lQ (121, E, z) kc ks 593 [some (.ref b), some (.ref (G.2.2.2 + 0)), some (.ref (G.2.2.2 + 82)), some (.ref (G.2.2.2 + 120)), some (.int (iZ i)), none, none] [] := by
  refine k_aload_n (q := 594) (i := 1) dL_law_593 rfl rfl rfl ?_
  refine k_VI (q := 597) (vs := []) hE hkc hks ok_X11_disputed ml_L_69 dL_law_594 rfl ⟨_, _, rfl⟩ rfl rfl rfl (Nat.le_of_ble_eq_true rfl) (by decide) (st_disputed hR) (fun w1 σ1 z1 hC => ?_)
  refine k_aload_n (q := 598) (i := 2) dL_law_597 rfl rfl rfl ?_
  refine k_VI (q := 601) (vs := []) fE_fW hkc hks ok_X12_disputed ml_L_72 dL_law_598 rfl ⟨_, _, rfl⟩ rfl rfl rfl (Nat.le_of_ble_eq_true rfl) (by decide) hC (fun w2 σ2 z2 h2 => ?_)
  obtain ⟨rfl, hR2⟩ := h2
  rw [← iZ_of (iZ w2)]
  refine k_icmp_eq (q := 604) (tgt := 1634) dL_law_601 rfl (by decide) (fun c601 => ?_) (fun c601 => by exfalso; exact absurd rfl c601) (hx := R32_of _) (hy := R32_of _)
  exact nx σ2 _ _ _ _ f hR2 fE_fW ((fW_out (Nat.le_of_ble_eq_true rfl)).trans ((fW_out (Nat.le_of_ble_eq_true rfl)).trans hf)) (by omega) (by omega)
set_option maxHeartbeats 1000000 in
theorem lc_11 {G : Gx} {nm : String} {b N : Nat} {xs : Nat → Int32} {i : Int} {σ : Sg} {E : Nat → va_E} {z kc ks : Nat} {f : Nat → Int64} (hN : N ≤ 3072) (h0 : 0 ≤ i) (hi : i + 6 ≤ N) (hR : Rel σ) (hE : fE G σ E) (hf : E 120 = .inl (G.2.2.1 1, 1, .inr (.inl f))) (hkc : kc ≤ 601024) (hks : ks ≤ 7293034) (nx : Nx G nm b N xs i kc ks) : K G room_1 (mLL nm) (fS G b N xs) lQ (121, E, z) kc ks 606 [some (.ref b), some (.ref (G.2.2.2 + 0)), some (.ref (G.2.2.2 + 82)), some (.ref (G.2.2.2 + 120)), some (.int (iZ i)), none, none] [] := by
  refine k_aload_n (q := 607) (i := 1) dL_law_606 rfl rfl rfl ?_
  refine k_aload_n (q := 608) (i := 0) dL_law_607 rfl rfl rfl ?_
  refine k_iload (q := 610) dL_law_608 rfl rfl ?_
  refine k_iconst (q := 611) dL_law_610 rfl ?_
  refine k_iadd (q := 612) dL_law_611 rfl ?_
  refine k_sld (q := 613) dL_law_612 rfl (by omega) (by omega) hN ?_
  refine k_aload_n (q := 614) (i := 0) dL_law_613 rfl rfl rfl ?_
  refine k_iload (q := 616) dL_law_614 rfl rfl ?_
  refine k_iconst (q := 617) dL_law_616 rfl ?_
  refine k_iadd (q := 618) dL_law_617 rfl ?_
  refine k_sld (q := 619) dL_law_618 rfl (by omega) (by omega) hN ?_
  refine k_aload_n (q := 620) (i := 0) dL_law_619 rfl rfl rfl ?_
  refine k_iload (q := 622) dL_law_620 rfl rfl ?_
  refine k_iconst (q := 623) dL_law_622 rfl ?_
  refine k_iadd (q := 624) dL_law_623 rfl ?_
  refine k_sld (q := 625) dL_law_624 rfl (by omega) (by omega) hN ?_
  refine k_aload_n (q := 626) (i := 0) dL_law_625 rfl rfl rfl ?_
  refine k_iload (q := 628) dL_law_626 rfl rfl ?_
  refine k_iconst (q := 629) dL_law_628 rfl ?_
  refine k_iadd (q := 630) dL_law_629 rfl ?_
  refine k_sld (q := 631) dL_law_630 rfl (by omega) (by omega) hN ?_
  refine k_VL (q := 634) (vs := [_, _, _, _]) hE hkc hks ok_X11_law ml_L_73 dL_law_631 rfl ⟨_, _, rfl⟩ rfl rfl rfl (Nat.le_of_ble_eq_true rfl) (by decide) (st_law hR (sX_in _ _) (sX_in _ _) (sX_in _ _) (sX_in _ _)) (fun w1 σ1 z1 hC => ?_)
  refine k_aload_n (q := 635) (i := 2) dL_law_634 rfl rfl rfl ?_
  refine k_aload_n (q := 636) (i := 0) dL_law_635 rfl rfl rfl ?_
  refine k_iload (q := 638) dL_law_636 rfl rfl ?_
  refine k_iconst (q := 639) dL_law_638 rfl ?_
  refine k_iadd (q := 640) dL_law_639 rfl ?_
  refine k_sld (q := 641) dL_law_640 rfl (by omega) (by omega) hN ?_
  refine k_aload_n (q := 642) (i := 0) dL_law_641 rfl rfl rfl ?_
  refine k_iload (q := 644) dL_law_642 rfl rfl ?_
  refine k_iconst (q := 645) dL_law_644 rfl ?_
  refine k_iadd (q := 646) dL_law_645 rfl ?_
  refine k_sld (q := 647) dL_law_646 rfl (by omega) (by omega) hN ?_
  refine k_aload_n (q := 648) (i := 0) dL_law_647 rfl rfl rfl ?_
  refine k_iload (q := 650) dL_law_648 rfl rfl ?_
  refine k_iconst (q := 651) dL_law_650 rfl ?_
  refine k_iadd (q := 652) dL_law_651 rfl ?_
  refine k_sld (q := 653) dL_law_652 rfl (by omega) (by omega) hN ?_
  refine k_aload_n (q := 654) (i := 0) dL_law_653 rfl rfl rfl ?_
  refine k_iload (q := 656) dL_law_654 rfl rfl ?_
  refine k_iconst (q := 657) dL_law_656 rfl ?_
  refine k_iadd (q := 658) dL_law_657 rfl ?_
  refine k_sld (q := 659) dL_law_658 rfl (by omega) (by omega) hN ?_
  refine k_VL (q := 662) (vs := [_, _, _, _]) fE_fW hkc hks ok_X12_law ml_L_77 dL_law_659 rfl ⟨_, _, rfl⟩ rfl rfl rfl (Nat.le_of_ble_eq_true rfl) (by decide) hC (fun w2 σ2 z2 h2 => ?_)
  obtain ⟨rfl, hR2⟩ := h2
  rw [← lZ_of (lZ w2)]
  refine k_lcmp (q := 663) dL_law_662 rfl (R64_of _) (R64_of _) ?_
  rw [if_neg (Int.lt_irrefl _), if_pos rfl]
  refine k_if_eq (q := 666) (tgt := 1634) dL_law_663 rfl (by decide) (fun c663 => ?_) (fun c663 => by exfalso; exact absurd rfl c663)
  exact nx σ2 _ _ _ _ f hR2 fE_fW ((fW_out (Nat.le_of_ble_eq_true rfl)).trans ((fW_out (Nat.le_of_ble_eq_true rfl)).trans hf)) (by omega) (by omega)
set_option maxHeartbeats 1000000 in
theorem lc_12 {G : Gx} {nm : String} {b N : Nat} {xs : Nat → Int32} {i : Int} {σ : Sg} {E : Nat → va_E} {z kc ks : Nat} {f : Nat → Int64} (hN : N ≤ 3072) (h0 : 0 ≤ i) (hi : i + 6 ≤ N) (hR : Rel σ) (hE : fE G σ E) (hf : E 120 = .inl (G.2.2.1 1, 1, .inr (.inl f))) (hkc : kc ≤ 601024) (hks : ks ≤ 7293034) (nx : Nx G nm b N xs i kc ks) : K G room_1 (mLL nm) (fS G b N xs) lQ (121, E, z) kc ks 668 [some (.ref b), some (.ref (G.2.2.2 + 0)), some (.ref (G.2.2.2 + 82)), some (.ref (G.2.2.2 + 120)), some (.int (iZ i)), none, none] [] := by
  refine k_aload_n (q := 669) (i := 1) dL_law_668 rfl rfl rfl ?_
  refine k_aload_n (q := 670) (i := 0) dL_law_669 rfl rfl rfl ?_
  refine k_iload (q := 672) dL_law_670 rfl rfl ?_
  refine k_iconst (q := 673) dL_law_672 rfl ?_
  refine k_iadd (q := 674) dL_law_673 rfl ?_
  refine k_sld (q := 675) dL_law_674 rfl (by omega) (by omega) hN ?_
  refine k_aload_n (q := 676) (i := 0) dL_law_675 rfl rfl rfl ?_
  refine k_iload (q := 678) dL_law_676 rfl rfl ?_
  refine k_iconst (q := 679) dL_law_678 rfl ?_
  refine k_iadd (q := 680) dL_law_679 rfl ?_
  refine k_sld (q := 681) dL_law_680 rfl (by omega) (by omega) hN ?_
  refine k_aload_n (q := 682) (i := 0) dL_law_681 rfl rfl rfl ?_
  refine k_iload (q := 684) dL_law_682 rfl rfl ?_
  refine k_iconst (q := 685) dL_law_684 rfl ?_
  refine k_iadd (q := 686) dL_law_685 rfl ?_
  refine k_sld (q := 687) dL_law_686 rfl (by omega) (by omega) hN ?_
  refine k_VI (q := 690) (vs := [_, _, _]) hE hkc hks ok_X11_beat ml_L_78 dL_law_687 rfl ⟨_, _, rfl⟩ rfl rfl rfl (Nat.le_of_ble_eq_true rfl) (by decide) (st_beat hR (sX_in _ _) (sX_in _ _) (sX_in _ _)) (fun w1 σ1 z1 hC => ?_)
  refine k_aload_n (q := 691) (i := 2) dL_law_690 rfl rfl rfl ?_
  refine k_aload_n (q := 692) (i := 0) dL_law_691 rfl rfl rfl ?_
  refine k_iload (q := 694) dL_law_692 rfl rfl ?_
  refine k_iconst (q := 695) dL_law_694 rfl ?_
  refine k_iadd (q := 696) dL_law_695 rfl ?_
  refine k_sld (q := 697) dL_law_696 rfl (by omega) (by omega) hN ?_
  refine k_aload_n (q := 698) (i := 0) dL_law_697 rfl rfl rfl ?_
  refine k_iload (q := 700) dL_law_698 rfl rfl ?_
  refine k_iconst (q := 701) dL_law_700 rfl ?_
  refine k_iadd (q := 702) dL_law_701 rfl ?_
  refine k_sld (q := 703) dL_law_702 rfl (by omega) (by omega) hN ?_
  refine k_aload_n (q := 704) (i := 0) dL_law_703 rfl rfl rfl ?_
  refine k_iload (q := 706) dL_law_704 rfl rfl ?_
  refine k_iconst (q := 707) dL_law_706 rfl ?_
  refine k_iadd (q := 708) dL_law_707 rfl ?_
  refine k_sld (q := 709) dL_law_708 rfl (by omega) (by omega) hN ?_
  refine k_VI (q := 712) (vs := [_, _, _]) fE_fW hkc hks ok_X12_beat ml_L_82 dL_law_709 rfl ⟨_, _, rfl⟩ rfl rfl rfl (Nat.le_of_ble_eq_true rfl) (by decide) hC (fun w2 σ2 z2 h2 => ?_)
  obtain ⟨rfl, hR2⟩ := h2
  rw [← iZ_of (iZ w2)]
  refine k_icmp_eq (q := 715) (tgt := 1634) dL_law_712 rfl (by decide) (fun c712 => ?_) (fun c712 => by exfalso; exact absurd rfl c712) (hx := R32_of _) (hy := R32_of _)
  exact nx σ2 _ _ _ _ f hR2 fE_fW ((fW_out (Nat.le_of_ble_eq_true rfl)).trans ((fW_out (Nat.le_of_ble_eq_true rfl)).trans hf)) (by omega) (by omega)
set_option maxHeartbeats 1000000 in
theorem lc_13 {G : Gx} {nm : String} {b N : Nat} {xs : Nat → Int32} {i : Int} {σ : Sg} {E : Nat → va_E} {z kc ks : Nat} {f : Nat → Int64} (hN : N ≤ 3072) (h0 : 0 ≤ i) (hi : i + 6 ≤ N) (hR : Rel σ) (hE : fE G σ E) (hf : E 120 = .inl (G.2.2.1 1, 1, .inr (.inl f))) (hkc : kc ≤ 601024) (hks : ks ≤ 7293034) (nx : Nx G nm b N xs i kc ks) : K G room_1 (mLL nm) (fS G b N xs) lQ (121, E, z) kc ks 717 [some (.ref b), some (.ref (G.2.2.2 + 0)), some (.ref (G.2.2.2 + 82)), some (.ref (G.2.2.2 + 120)), some (.int (iZ i)), none, none] [] := by
  refine k_aload_n (q := 718) (i := 1) dL_law_717 rfl rfl rfl ?_
  refine k_aload_n (q := 719) (i := 0) dL_law_718 rfl rfl rfl ?_
  refine k_iload (q := 721) dL_law_719 rfl rfl ?_
  refine k_iconst (q := 722) dL_law_721 rfl ?_
  refine k_iadd (q := 723) dL_law_722 rfl ?_
  refine k_sld (q := 724) dL_law_723 rfl (by omega) (by omega) hN ?_
  refine k_aload_n (q := 725) (i := 0) dL_law_724 rfl rfl rfl ?_
  refine k_iload (q := 727) dL_law_725 rfl rfl ?_
  refine k_iconst (q := 728) dL_law_727 rfl ?_
  refine k_iadd (q := 729) dL_law_728 rfl ?_
  refine k_sld (q := 730) dL_law_729 rfl (by omega) (by omega) hN ?_
  refine k_aload_n (q := 731) (i := 0) dL_law_730 rfl rfl rfl ?_
  refine k_iload (q := 733) dL_law_731 rfl rfl ?_
  refine k_iconst (q := 734) dL_law_733 rfl ?_
  refine k_iadd (q := 735) dL_law_734 rfl ?_
  refine k_sld (q := 736) dL_law_735 rfl (by omega) (by omega) hN ?_
  refine k_VI (q := 739) (vs := [_, _, _]) hE hkc hks ok_X11_bake ml_L_83 dL_law_736 rfl ⟨_, _, rfl⟩ rfl rfl rfl (Nat.le_of_ble_eq_true rfl) (by decide) (st_bake hR (sX_in _ _) (sX_in _ _) (sX_in _ _)) (fun w1 σ1 z1 hC => ?_)
  refine k_aload_n (q := 740) (i := 2) dL_law_739 rfl rfl rfl ?_
  refine k_aload_n (q := 741) (i := 0) dL_law_740 rfl rfl rfl ?_
  refine k_iload (q := 743) dL_law_741 rfl rfl ?_
  refine k_iconst (q := 744) dL_law_743 rfl ?_
  refine k_iadd (q := 745) dL_law_744 rfl ?_
  refine k_sld (q := 746) dL_law_745 rfl (by omega) (by omega) hN ?_
  refine k_aload_n (q := 747) (i := 0) dL_law_746 rfl rfl rfl ?_
  refine k_iload (q := 749) dL_law_747 rfl rfl ?_
  refine k_iconst (q := 750) dL_law_749 rfl ?_
  refine k_iadd (q := 751) dL_law_750 rfl ?_
  refine k_sld (q := 752) dL_law_751 rfl (by omega) (by omega) hN ?_
  refine k_aload_n (q := 753) (i := 0) dL_law_752 rfl rfl rfl ?_
  refine k_iload (q := 755) dL_law_753 rfl rfl ?_
  refine k_iconst (q := 756) dL_law_755 rfl ?_
  refine k_iadd (q := 757) dL_law_756 rfl ?_
  refine k_sld (q := 758) dL_law_757 rfl (by omega) (by omega) hN ?_
  refine k_VI (q := 761) (vs := [_, _, _]) fE_fW hkc hks ok_X12_bake ml_L_87 dL_law_758 rfl ⟨_, _, rfl⟩ rfl rfl rfl (Nat.le_of_ble_eq_true rfl) (by decide) hC (fun w2 σ2 z2 h2 => ?_)
  obtain ⟨rfl, hR2⟩ := h2
  rw [← iZ_of (iZ w2)]
  refine k_icmp_eq (q := 764) (tgt := 1634) dL_law_761 rfl (by decide) (fun c761 => ?_) (fun c761 => by exfalso; exact absurd rfl c761) (hx := R32_of _) (hy := R32_of _)
  exact nx σ2 _ _ _ _ f hR2 fE_fW ((fW_out (Nat.le_of_ble_eq_true rfl)).trans ((fW_out (Nat.le_of_ble_eq_true rfl)).trans hf)) (by omega) (by omega)
set_option maxHeartbeats 1000000 in
theorem lc_14 {G : Gx} {nm : String} {b N : Nat} {xs : Nat → Int32} {i : Int} {σ : Sg} {E : Nat → va_E} {z kc ks : Nat} {f : Nat → Int64} (hN : N ≤ 3072) (h0 : 0 ≤ i) (hi : i + 6 ≤ N) (hR : Rel σ) (hE : fE G σ E) (hf : E 120 = .inl (G.2.2.1 1, 1, .inr (.inl f))) (hkc : kc ≤ 601024) (hks : ks ≤ 7293034) (nx : Nx G nm b N xs i kc ks) : K G room_1 (mLL nm) (fS G b N xs) lQ (121, E, z) kc ks 766 [some (.ref b), some (.ref (G.2.2.2 + 0)), some (.ref (G.2.2.2 + 82)), some (.ref (G.2.2.2 + 120)), some (.int (iZ i)), none, none] [] := by
  refine k_aload_n (q := 767) (i := 1) dL_law_766 rfl rfl rfl ?_
  refine k_aload_n (q := 768) (i := 0) dL_law_767 rfl rfl rfl ?_
  refine k_iload (q := 770) dL_law_768 rfl rfl ?_
  refine k_iconst (q := 771) dL_law_770 rfl ?_
  refine k_iadd (q := 772) dL_law_771 rfl ?_
  refine k_sld (q := 773) dL_law_772 rfl (by omega) (by omega) hN ?_
  refine k_aload_n (q := 774) (i := 0) dL_law_773 rfl rfl rfl ?_
  refine k_iload (q := 776) dL_law_774 rfl rfl ?_
  refine k_iconst (q := 777) dL_law_776 rfl ?_
  refine k_iadd (q := 778) dL_law_777 rfl ?_
  refine k_sld (q := 779) dL_law_778 rfl (by omega) (by omega) hN ?_
  refine k_aload_n (q := 780) (i := 0) dL_law_779 rfl rfl rfl ?_
  refine k_iload (q := 782) dL_law_780 rfl rfl ?_
  refine k_iconst (q := 783) dL_law_782 rfl ?_
  refine k_iadd (q := 784) dL_law_783 rfl ?_
  refine k_sld (q := 785) dL_law_784 rfl (by omega) (by omega) hN ?_
  refine k_VI (q := 788) (vs := [_, _, _]) hE hkc hks ok_X11_carry ml_L_88 dL_law_785 rfl ⟨_, _, rfl⟩ rfl rfl rfl (Nat.le_of_ble_eq_true rfl) (by decide) (st_carry hR (sX_in _ _) (sX_in _ _) (sX_in _ _)) (fun w1 σ1 z1 hC => ?_)
  refine k_aload_n (q := 789) (i := 2) dL_law_788 rfl rfl rfl ?_
  refine k_aload_n (q := 790) (i := 0) dL_law_789 rfl rfl rfl ?_
  refine k_iload (q := 792) dL_law_790 rfl rfl ?_
  refine k_iconst (q := 793) dL_law_792 rfl ?_
  refine k_iadd (q := 794) dL_law_793 rfl ?_
  refine k_sld (q := 795) dL_law_794 rfl (by omega) (by omega) hN ?_
  refine k_aload_n (q := 796) (i := 0) dL_law_795 rfl rfl rfl ?_
  refine k_iload (q := 798) dL_law_796 rfl rfl ?_
  refine k_iconst (q := 799) dL_law_798 rfl ?_
  refine k_iadd (q := 800) dL_law_799 rfl ?_
  refine k_sld (q := 801) dL_law_800 rfl (by omega) (by omega) hN ?_
  refine k_aload_n (q := 802) (i := 0) dL_law_801 rfl rfl rfl ?_
  refine k_iload (q := 804) dL_law_802 rfl rfl ?_
  refine k_iconst (q := 805) dL_law_804 rfl ?_
  refine k_iadd (q := 806) dL_law_805 rfl ?_
  refine k_sld (q := 807) dL_law_806 rfl (by omega) (by omega) hN ?_
  refine k_VI (q := 810) (vs := [_, _, _]) fE_fW hkc hks ok_X12_carry ml_L_91 dL_law_807 rfl ⟨_, _, rfl⟩ rfl rfl rfl (Nat.le_of_ble_eq_true rfl) (by decide) hC (fun w2 σ2 z2 h2 => ?_)
  obtain ⟨rfl, hR2⟩ := h2
  rw [← iZ_of (iZ w2)]
  refine k_icmp_eq (q := 813) (tgt := 1634) dL_law_810 rfl (by decide) (fun c810 => ?_) (fun c810 => by exfalso; exact absurd rfl c810) (hx := R32_of _) (hy := R32_of _)
  exact nx σ2 _ _ _ _ f hR2 fE_fW ((fW_out (Nat.le_of_ble_eq_true rfl)).trans ((fW_out (Nat.le_of_ble_eq_true rfl)).trans hf)) (by omega) (by omega)
set_option maxHeartbeats 1000000 in
theorem lc_15 {G : Gx} {nm : String} {b N : Nat} {xs : Nat → Int32} {i : Int} {σ : Sg} {E : Nat → va_E} {z kc ks : Nat} {f : Nat → Int64} (hN : N ≤ 3072) (h0 : 0 ≤ i) (hi : i + 6 ≤ N) (hR : Rel σ) (hE : fE G σ E) (hf : E 120 = .inl (G.2.2.1 1, 1, .inr (.inl f))) (hkc : kc ≤ 601024) (hks : ks ≤ 7293034) (nx : Nx G nm b N xs i kc ks) : K G room_1 (mLL nm) (fS G b N xs) lQ (121, E, z) kc ks 815 [some (.ref b), some (.ref (G.2.2.2 + 0)), some (.ref (G.2.2.2 + 82)), some (.ref (G.2.2.2 + 120)), some (.int (iZ i)), none, none] [] := by
  refine k_aload_n (q := 816) (i := 1) dL_law_815 rfl rfl rfl ?_
  refine k_aload_n (q := 817) (i := 0) dL_law_816 rfl rfl rfl ?_
  refine k_iload (q := 819) dL_law_817 rfl rfl ?_
  refine k_iconst (q := 820) dL_law_819 rfl ?_
  refine k_iadd (q := 821) dL_law_820 rfl ?_
  refine k_sld (q := 822) dL_law_821 rfl (by omega) (by omega) hN ?_
  refine k_VI (q := 825) (vs := [_]) hE hkc hks ok_X11_go ml_L_92 dL_law_822 rfl ⟨_, _, rfl⟩ rfl rfl rfl (Nat.le_of_ble_eq_true rfl) (by decide) (st_go hR (sX_in _ _)) (fun w1 σ1 z1 hC => ?_)
  refine k_aload_n (q := 826) (i := 2) dL_law_825 rfl rfl rfl ?_
  refine k_aload_n (q := 827) (i := 0) dL_law_826 rfl rfl rfl ?_
  refine k_iload (q := 829) dL_law_827 rfl rfl ?_
  refine k_iconst (q := 830) dL_law_829 rfl ?_
  refine k_iadd (q := 831) dL_law_830 rfl ?_
  refine k_sld (q := 832) dL_law_831 rfl (by omega) (by omega) hN ?_
  refine k_VI (q := 835) (vs := [_]) fE_fW hkc hks ok_X12_go ml_L_95 dL_law_832 rfl ⟨_, _, rfl⟩ rfl rfl rfl (Nat.le_of_ble_eq_true rfl) (by decide) hC (fun w2 σ2 z2 h2 => ?_)
  obtain ⟨rfl, hR2⟩ := h2
  rw [← iZ_of (iZ w2)]
  refine k_icmp_eq (q := 838) (tgt := 1634) dL_law_835 rfl (by decide) (fun c835 => ?_) (fun c835 => by exfalso; exact absurd rfl c835) (hx := R32_of _) (hy := R32_of _)
  exact nx σ2 _ _ _ _ f hR2 fE_fW ((fW_out (Nat.le_of_ble_eq_true rfl)).trans ((fW_out (Nat.le_of_ble_eq_true rfl)).trans hf)) (by omega) (by omega)
set_option maxHeartbeats 1000000 in
theorem lc_16 {G : Gx} {nm : String} {b N : Nat} {xs : Nat → Int32} {i : Int} {σ : Sg} {E : Nat → va_E} {z kc ks : Nat} {f : Nat → Int64} (hN : N ≤ 3072) (h0 : 0 ≤ i) (hi : i + 6 ≤ N) (hR : Rel σ) (hE : fE G σ E) (hf : E 120 = .inl (G.2.2.1 1, 1, .inr (.inl f))) (hkc : kc ≤ 601024) (hks : ks ≤ 7293034) (nx : Nx G nm b N xs i kc ks) : K G room_1 (mLL nm) (fS G b N xs) lQ (121, E, z) kc ks 840 [some (.ref b), some (.ref (G.2.2.2 + 0)), some (.ref (G.2.2.2 + 82)), some (.ref (G.2.2.2 + 120)), some (.int (iZ i)), none, none] [] := by
  refine k_aload_n (q := 841) (i := 1) dL_law_840 rfl rfl rfl ?_
  refine k_aload_n (q := 842) (i := 0) dL_law_841 rfl rfl rfl ?_
  refine k_iload (q := 844) dL_law_842 rfl rfl ?_
  refine k_iconst (q := 845) dL_law_844 rfl ?_
  refine k_iadd (q := 846) dL_law_845 rfl ?_
  refine k_sld (q := 847) dL_law_846 rfl (by omega) (by omega) hN ?_
  refine k_aload_n (q := 848) (i := 0) dL_law_847 rfl rfl rfl ?_
  refine k_iload (q := 850) dL_law_848 rfl rfl ?_
  refine k_iconst (q := 851) dL_law_850 rfl ?_
  refine k_iadd (q := 852) dL_law_851 rfl ?_
  refine k_sld (q := 853) dL_law_852 rfl (by omega) (by omega) hN ?_
  refine k_aload_n (q := 854) (i := 0) dL_law_853 rfl rfl rfl ?_
  refine k_iload (q := 856) dL_law_854 rfl rfl ?_
  refine k_iconst (q := 857) dL_law_856 rfl ?_
  refine k_iadd (q := 858) dL_law_857 rfl ?_
  refine k_sld (q := 859) dL_law_858 rfl (by omega) (by omega) hN ?_
  refine k_VI (q := 862) (vs := [_, _, _]) hE hkc hks ok_X11_ahead ml_L_96 dL_law_859 rfl ⟨_, _, rfl⟩ rfl rfl rfl (Nat.le_of_ble_eq_true rfl) (by decide) (st_ahead hR (sX_in _ _) (sX_in _ _) (sX_in _ _)) (fun w1 σ1 z1 hC => ?_)
  refine k_aload_n (q := 863) (i := 2) dL_law_862 rfl rfl rfl ?_
  refine k_aload_n (q := 864) (i := 0) dL_law_863 rfl rfl rfl ?_
  refine k_iload (q := 866) dL_law_864 rfl rfl ?_
  refine k_iconst (q := 867) dL_law_866 rfl ?_
  refine k_iadd (q := 868) dL_law_867 rfl ?_
  refine k_sld (q := 869) dL_law_868 rfl (by omega) (by omega) hN ?_
  refine k_aload_n (q := 870) (i := 0) dL_law_869 rfl rfl rfl ?_
  refine k_iload (q := 872) dL_law_870 rfl rfl ?_
  refine k_iconst (q := 873) dL_law_872 rfl ?_
  refine k_iadd (q := 874) dL_law_873 rfl ?_
  refine k_sld (q := 875) dL_law_874 rfl (by omega) (by omega) hN ?_
  refine k_aload_n (q := 876) (i := 0) dL_law_875 rfl rfl rfl ?_
  refine k_iload (q := 878) dL_law_876 rfl rfl ?_
  refine k_iconst (q := 879) dL_law_878 rfl ?_
  refine k_iadd (q := 880) dL_law_879 rfl ?_
  refine k_sld (q := 881) dL_law_880 rfl (by omega) (by omega) hN ?_
  refine k_VI (q := 884) (vs := [_, _, _]) fE_fW hkc hks ok_X12_ahead ml_L_99 dL_law_881 rfl ⟨_, _, rfl⟩ rfl rfl rfl (Nat.le_of_ble_eq_true rfl) (by decide) hC (fun w2 σ2 z2 h2 => ?_)
  obtain ⟨rfl, hR2⟩ := h2
  rw [← iZ_of (iZ w2)]
  refine k_icmp_eq (q := 887) (tgt := 1634) dL_law_884 rfl (by decide) (fun c884 => ?_) (fun c884 => by exfalso; exact absurd rfl c884) (hx := R32_of _) (hy := R32_of _)
  exact nx σ2 _ _ _ _ f hR2 fE_fW ((fW_out (Nat.le_of_ble_eq_true rfl)).trans ((fW_out (Nat.le_of_ble_eq_true rfl)).trans hf)) (by omega) (by omega)
set_option maxHeartbeats 1000000 in
theorem lc_17 {G : Gx} {nm : String} {b N : Nat} {xs : Nat → Int32} {i : Int} {σ : Sg} {E : Nat → va_E} {z kc ks : Nat} {f : Nat → Int64} (hN : N ≤ 3072) (h0 : 0 ≤ i) (hi : i + 6 ≤ N) (hR : Rel σ) (hE : fE G σ E) (hf : E 120 = .inl (G.2.2.1 1, 1, .inr (.inl f))) (hkc : kc ≤ 601024) (hks : ks ≤ 7293034) (nx : Nx G nm b N xs i kc ks) : K G room_1 (mLL nm) (fS G b N xs) lQ (121, E, z) kc ks 889 [some (.ref b), some (.ref (G.2.2.2 + 0)), some (.ref (G.2.2.2 + 82)), some (.ref (G.2.2.2 + 120)), some (.int (iZ i)), none, none] [] := by
  refine k_aload_n (q := 890) (i := 1) dL_law_889 rfl rfl rfl ?_
  refine k_aload_n (q := 891) (i := 0) dL_law_890 rfl rfl rfl ?_
  refine k_iload (q := 893) dL_law_891 rfl rfl ?_
  refine k_iconst (q := 894) dL_law_893 rfl ?_
  refine k_iadd (q := 895) dL_law_894 rfl ?_
  refine k_sld (q := 896) dL_law_895 rfl (by omega) (by omega) hN ?_
  refine k_aload_n (q := 897) (i := 0) dL_law_896 rfl rfl rfl ?_
  refine k_iload (q := 899) dL_law_897 rfl rfl ?_
  refine k_iconst (q := 900) dL_law_899 rfl ?_
  refine k_iadd (q := 901) dL_law_900 rfl ?_
  refine k_sld (q := 902) dL_law_901 rfl (by omega) (by omega) hN ?_
  refine k_aload_n (q := 903) (i := 0) dL_law_902 rfl rfl rfl ?_
  refine k_iload (q := 905) dL_law_903 rfl rfl ?_
  refine k_iconst (q := 906) dL_law_905 rfl ?_
  refine k_iadd (q := 907) dL_law_906 rfl ?_
  refine k_sld (q := 908) dL_law_907 rfl (by omega) (by omega) hN ?_
  refine k_VI (q := 911) (vs := [_, _, _]) hE hkc hks ok_X11_when ml_L_100 dL_law_908 rfl ⟨_, _, rfl⟩ rfl rfl rfl (Nat.le_of_ble_eq_true rfl) (by decide) (st_when hR (sX_in _ _) (sX_in _ _) (sX_in _ _)) (fun w1 σ1 z1 hC => ?_)
  refine k_aload_n (q := 912) (i := 2) dL_law_911 rfl rfl rfl ?_
  refine k_aload_n (q := 913) (i := 0) dL_law_912 rfl rfl rfl ?_
  refine k_iload (q := 915) dL_law_913 rfl rfl ?_
  refine k_iconst (q := 916) dL_law_915 rfl ?_
  refine k_iadd (q := 917) dL_law_916 rfl ?_
  refine k_sld (q := 918) dL_law_917 rfl (by omega) (by omega) hN ?_
  refine k_aload_n (q := 919) (i := 0) dL_law_918 rfl rfl rfl ?_
  refine k_iload (q := 921) dL_law_919 rfl rfl ?_
  refine k_iconst (q := 922) dL_law_921 rfl ?_
  refine k_iadd (q := 923) dL_law_922 rfl ?_
  refine k_sld (q := 924) dL_law_923 rfl (by omega) (by omega) hN ?_
  refine k_aload_n (q := 925) (i := 0) dL_law_924 rfl rfl rfl ?_
  refine k_iload (q := 927) dL_law_925 rfl rfl ?_
  refine k_iconst (q := 928) dL_law_927 rfl ?_
  refine k_iadd (q := 929) dL_law_928 rfl ?_
  refine k_sld (q := 930) dL_law_929 rfl (by omega) (by omega) hN ?_
  refine k_VI (q := 933) (vs := [_, _, _]) fE_fW hkc hks ok_X12_when ml_L_103 dL_law_930 rfl ⟨_, _, rfl⟩ rfl rfl rfl (Nat.le_of_ble_eq_true rfl) (by decide) hC (fun w2 σ2 z2 h2 => ?_)
  obtain ⟨rfl, hR2⟩ := h2
  rw [← iZ_of (iZ w2)]
  refine k_icmp_eq (q := 936) (tgt := 1634) dL_law_933 rfl (by decide) (fun c933 => ?_) (fun c933 => by exfalso; exact absurd rfl c933) (hx := R32_of _) (hy := R32_of _)
  exact nx σ2 _ _ _ _ f hR2 fE_fW ((fW_out (Nat.le_of_ble_eq_true rfl)).trans ((fW_out (Nat.le_of_ble_eq_true rfl)).trans hf)) (by omega) (by omega)
set_option maxHeartbeats 1000000 in
theorem lc_18 {G : Gx} {nm : String} {b N : Nat} {xs : Nat → Int32} {i : Int} {σ : Sg} {E : Nat → va_E} {z kc ks : Nat} {f : Nat → Int64} (hN : N ≤ 3072) (h0 : 0 ≤ i) (hi : i + 6 ≤ N) (hR : Rel σ) (hE : fE G σ E) (hf : E 120 = .inl (G.2.2.1 1, 1, .inr (.inl f))) (hkc : kc ≤ 601024) (hks : ks ≤ 7293034) (nx : Nx G nm b N xs i kc ks) : K G room_1 (mLL nm) (fS G b N xs) lQ (121, E, z) kc ks 938 [some (.ref b), some (.ref (G.2.2.2 + 0)), some (.ref (G.2.2.2 + 82)), some (.ref (G.2.2.2 + 120)), some (.int (iZ i)), none, none] [] := by
  refine k_aload_n (q := 939) (i := 1) dL_law_938 rfl rfl rfl ?_
  refine k_aload_n (q := 940) (i := 0) dL_law_939 rfl rfl rfl ?_
  refine k_iload (q := 942) dL_law_940 rfl rfl ?_
  refine k_iconst (q := 943) dL_law_942 rfl ?_
  refine k_iadd (q := 944) dL_law_943 rfl ?_
  refine k_sld (q := 945) dL_law_944 rfl (by omega) (by omega) hN ?_
  refine k_aload_n (q := 946) (i := 0) dL_law_945 rfl rfl rfl ?_
  refine k_iload (q := 948) dL_law_946 rfl rfl ?_
  refine k_iconst (q := 949) dL_law_948 rfl ?_
  refine k_iadd (q := 950) dL_law_949 rfl ?_
  refine k_sld (q := 951) dL_law_950 rfl (by omega) (by omega) hN ?_
  refine k_VI (q := 954) (vs := [_, _]) hE hkc hks ok_X11_laid ml_L_104 dL_law_951 rfl ⟨_, _, rfl⟩ rfl rfl rfl (Nat.le_of_ble_eq_true rfl) (by decide) (st_laid hR (sX_in _ _) (sX_in _ _)) (fun w1 σ1 z1 hC => ?_)
  refine k_aload_n (q := 955) (i := 2) dL_law_954 rfl rfl rfl ?_
  refine k_aload_n (q := 956) (i := 0) dL_law_955 rfl rfl rfl ?_
  refine k_iload (q := 958) dL_law_956 rfl rfl ?_
  refine k_iconst (q := 959) dL_law_958 rfl ?_
  refine k_iadd (q := 960) dL_law_959 rfl ?_
  refine k_sld (q := 961) dL_law_960 rfl (by omega) (by omega) hN ?_
  refine k_aload_n (q := 962) (i := 0) dL_law_961 rfl rfl rfl ?_
  refine k_iload (q := 964) dL_law_962 rfl rfl ?_
  refine k_iconst (q := 965) dL_law_964 rfl ?_
  refine k_iadd (q := 966) dL_law_965 rfl ?_
  refine k_sld (q := 967) dL_law_966 rfl (by omega) (by omega) hN ?_
  refine k_VI (q := 970) (vs := [_, _]) fE_fW hkc hks ok_X12_laid ml_L_107 dL_law_967 rfl ⟨_, _, rfl⟩ rfl rfl rfl (Nat.le_of_ble_eq_true rfl) (by decide) hC (fun w2 σ2 z2 h2 => ?_)
  obtain ⟨rfl, hR2⟩ := h2
  rw [← iZ_of (iZ w2)]
  refine k_icmp_eq (q := 973) (tgt := 1634) dL_law_970 rfl (by decide) (fun c970 => ?_) (fun c970 => by exfalso; exact absurd rfl c970) (hx := R32_of _) (hy := R32_of _)
  exact nx σ2 _ _ _ _ f hR2 fE_fW ((fW_out (Nat.le_of_ble_eq_true rfl)).trans ((fW_out (Nat.le_of_ble_eq_true rfl)).trans hf)) (by omega) (by omega)
set_option maxHeartbeats 1000000 in
theorem lc_19 {G : Gx} {nm : String} {b N : Nat} {xs : Nat → Int32} {i : Int} {σ : Sg} {E : Nat → va_E} {z kc ks : Nat} {f : Nat → Int64} (hN : N ≤ 3072) (h0 : 0 ≤ i) (hi : i + 6 ≤ N) (hR : Rel σ) (hE : fE G σ E) (hf : E 120 = .inl (G.2.2.1 1, 1, .inr (.inl f))) (hkc : kc ≤ 601024) (hks : ks ≤ 7293034) (nx : Nx G nm b N xs i kc ks) : K G room_1 (mLL nm) (fS G b N xs) lQ (121, E, z) kc ks 975 [some (.ref b), some (.ref (G.2.2.2 + 0)), some (.ref (G.2.2.2 + 82)), some (.ref (G.2.2.2 + 120)), some (.int (iZ i)), none, none] [] := by
  refine k_aload_n (q := 976) (i := 1) dL_law_975 rfl rfl rfl ?_
  refine k_aload_n (q := 977) (i := 0) dL_law_976 rfl rfl rfl ?_
  refine k_iload (q := 979) dL_law_977 rfl rfl ?_
  refine k_iconst (q := 980) dL_law_979 rfl ?_
  refine k_iadd (q := 981) dL_law_980 rfl ?_
  refine k_sld (q := 982) dL_law_981 rfl (by omega) (by omega) hN ?_
  refine k_aload_n (q := 983) (i := 0) dL_law_982 rfl rfl rfl ?_
  refine k_iload (q := 985) dL_law_983 rfl rfl ?_
  refine k_iconst (q := 986) dL_law_985 rfl ?_
  refine k_iadd (q := 987) dL_law_986 rfl ?_
  refine k_sld (q := 988) dL_law_987 rfl (by omega) (by omega) hN ?_
  refine k_aload_n (q := 989) (i := 0) dL_law_988 rfl rfl rfl ?_
  refine k_iload (q := 991) dL_law_989 rfl rfl ?_
  refine k_iconst (q := 992) dL_law_991 rfl ?_
  refine k_iadd (q := 993) dL_law_992 rfl ?_
  refine k_sld (q := 994) dL_law_993 rfl (by omega) (by omega) hN ?_
  refine k_aload_n (q := 995) (i := 0) dL_law_994 rfl rfl rfl ?_
  refine k_iload (q := 997) dL_law_995 rfl rfl ?_
  refine k_iconst (q := 998) dL_law_997 rfl ?_
  refine k_iadd (q := 999) dL_law_998 rfl ?_
  refine k_sld (q := 1000) dL_law_999 rfl (by omega) (by omega) hN ?_
  refine k_aload_n (q := 1001) (i := 0) dL_law_1000 rfl rfl rfl ?_
  refine k_iload (q := 1003) dL_law_1001 rfl rfl ?_
  refine k_iconst (q := 1004) dL_law_1003 rfl ?_
  refine k_iadd (q := 1005) dL_law_1004 rfl ?_
  refine k_sld (q := 1006) dL_law_1005 rfl (by omega) (by omega) hN ?_
  refine k_VI (q := 1009) (vs := [_, _, _, _, _]) hE hkc hks ok_X11_cakeFor ml_L_108 dL_law_1006 rfl ⟨_, _, rfl⟩ rfl rfl rfl (Nat.le_of_ble_eq_true rfl) (by decide) (st_cakeFor hR (sX_in _ _) (sX_in _ _) (sX_in _ _) (sX_in _ _) (sX_in _ _)) (fun w1 σ1 z1 hC => ?_)
  refine k_aload_n (q := 1010) (i := 2) dL_law_1009 rfl rfl rfl ?_
  refine k_aload_n (q := 1011) (i := 0) dL_law_1010 rfl rfl rfl ?_
  refine k_iload (q := 1013) dL_law_1011 rfl rfl ?_
  refine k_iconst (q := 1014) dL_law_1013 rfl ?_
  refine k_iadd (q := 1015) dL_law_1014 rfl ?_
  refine k_sld (q := 1016) dL_law_1015 rfl (by omega) (by omega) hN ?_
  refine k_aload_n (q := 1017) (i := 0) dL_law_1016 rfl rfl rfl ?_
  refine k_iload (q := 1019) dL_law_1017 rfl rfl ?_
  refine k_iconst (q := 1020) dL_law_1019 rfl ?_
  refine k_iadd (q := 1021) dL_law_1020 rfl ?_
  refine k_sld (q := 1022) dL_law_1021 rfl (by omega) (by omega) hN ?_
  refine k_aload_n (q := 1023) (i := 0) dL_law_1022 rfl rfl rfl ?_
  refine k_iload (q := 1025) dL_law_1023 rfl rfl ?_
  refine k_iconst (q := 1026) dL_law_1025 rfl ?_
  refine k_iadd (q := 1027) dL_law_1026 rfl ?_
  refine k_sld (q := 1028) dL_law_1027 rfl (by omega) (by omega) hN ?_
  refine k_aload_n (q := 1029) (i := 0) dL_law_1028 rfl rfl rfl ?_
  refine k_iload (q := 1031) dL_law_1029 rfl rfl ?_
  refine k_iconst (q := 1032) dL_law_1031 rfl ?_
  refine k_iadd (q := 1033) dL_law_1032 rfl ?_
  refine k_sld (q := 1034) dL_law_1033 rfl (by omega) (by omega) hN ?_
  refine k_aload_n (q := 1035) (i := 0) dL_law_1034 rfl rfl rfl ?_
  refine k_iload (q := 1037) dL_law_1035 rfl rfl ?_
  refine k_iconst (q := 1038) dL_law_1037 rfl ?_
  refine k_iadd (q := 1039) dL_law_1038 rfl ?_
  refine k_sld (q := 1040) dL_law_1039 rfl (by omega) (by omega) hN ?_
  refine k_VI (q := 1043) (vs := [_, _, _, _, _]) fE_fW hkc hks ok_X12_cakeFor ml_L_111 dL_law_1040 rfl ⟨_, _, rfl⟩ rfl rfl rfl (Nat.le_of_ble_eq_true rfl) (by decide) hC (fun w2 σ2 z2 h2 => ?_)
  obtain ⟨rfl, hR2⟩ := h2
  rw [← iZ_of (iZ w2)]
  refine k_icmp_eq (q := 1046) (tgt := 1634) dL_law_1043 rfl (by decide) (fun c1043 => ?_) (fun c1043 => by exfalso; exact absurd rfl c1043) (hx := R32_of _) (hy := R32_of _)
  exact nx σ2 _ _ _ _ f hR2 fE_fW ((fW_out (Nat.le_of_ble_eq_true rfl)).trans ((fW_out (Nat.le_of_ble_eq_true rfl)).trans hf)) (by omega) (by omega)
set_option maxHeartbeats 1000000 in
theorem lc_20 {G : Gx} {nm : String} {b N : Nat} {xs : Nat → Int32} {i : Int} {σ : Sg} {E : Nat → va_E} {z kc ks : Nat} {f : Nat → Int64} (hN : N ≤ 3072) (h0 : 0 ≤ i) (hi : i + 6 ≤ N) (hR : Rel σ) (hE : fE G σ E) (hf : E 120 = .inl (G.2.2.1 1, 1, .inr (.inl f))) (hkc : kc ≤ 601024) (hks : ks ≤ 7293034) (nx : Nx G nm b N xs i kc ks) : K G room_1 (mLL nm) (fS G b N xs) lQ (121, E, z) kc ks 1048 [some (.ref b), some (.ref (G.2.2.2 + 0)), some (.ref (G.2.2.2 + 82)), some (.ref (G.2.2.2 + 120)), some (.int (iZ i)), none, none] [] := by
  refine k_aload_n (q := 1049) (i := 1) dL_law_1048 rfl rfl rfl ?_
  refine k_aload_n (q := 1050) (i := 0) dL_law_1049 rfl rfl rfl ?_
  refine k_iload (q := 1052) dL_law_1050 rfl rfl ?_
  refine k_iconst (q := 1053) dL_law_1052 rfl ?_
  refine k_iadd (q := 1054) dL_law_1053 rfl ?_
  refine k_sld (q := 1055) dL_law_1054 rfl (by omega) (by omega) hN ?_
  refine k_aload_n (q := 1056) (i := 0) dL_law_1055 rfl rfl rfl ?_
  refine k_iload (q := 1058) dL_law_1056 rfl rfl ?_
  refine k_iconst (q := 1059) dL_law_1058 rfl ?_
  refine k_iadd (q := 1060) dL_law_1059 rfl ?_
  refine k_sld (q := 1061) dL_law_1060 rfl (by omega) (by omega) hN ?_
  refine k_aload_n (q := 1062) (i := 0) dL_law_1061 rfl rfl rfl ?_
  refine k_iload (q := 1064) dL_law_1062 rfl rfl ?_
  refine k_iconst (q := 1065) dL_law_1064 rfl ?_
  refine k_iadd (q := 1066) dL_law_1065 rfl ?_
  refine k_sld (q := 1067) dL_law_1066 rfl (by omega) (by omega) hN ?_
  refine k_VI (q := 1070) (vs := [_, _, _]) hE hkc hks ok_X11_cut ml_L_112 dL_law_1067 rfl ⟨_, _, rfl⟩ rfl rfl rfl (Nat.le_of_ble_eq_true rfl) (by decide) (st_cut hR (sX_in _ _) (sX_in _ _) (sX_in _ _)) (fun w1 σ1 z1 hC => ?_)
  refine k_aload_n (q := 1071) (i := 2) dL_law_1070 rfl rfl rfl ?_
  refine k_aload_n (q := 1072) (i := 0) dL_law_1071 rfl rfl rfl ?_
  refine k_iload (q := 1074) dL_law_1072 rfl rfl ?_
  refine k_iconst (q := 1075) dL_law_1074 rfl ?_
  refine k_iadd (q := 1076) dL_law_1075 rfl ?_
  refine k_sld (q := 1077) dL_law_1076 rfl (by omega) (by omega) hN ?_
  refine k_aload_n (q := 1078) (i := 0) dL_law_1077 rfl rfl rfl ?_
  refine k_iload (q := 1080) dL_law_1078 rfl rfl ?_
  refine k_iconst (q := 1081) dL_law_1080 rfl ?_
  refine k_iadd (q := 1082) dL_law_1081 rfl ?_
  refine k_sld (q := 1083) dL_law_1082 rfl (by omega) (by omega) hN ?_
  refine k_aload_n (q := 1084) (i := 0) dL_law_1083 rfl rfl rfl ?_
  refine k_iload (q := 1086) dL_law_1084 rfl rfl ?_
  refine k_iconst (q := 1087) dL_law_1086 rfl ?_
  refine k_iadd (q := 1088) dL_law_1087 rfl ?_
  refine k_sld (q := 1089) dL_law_1088 rfl (by omega) (by omega) hN ?_
  refine k_VI (q := 1092) (vs := [_, _, _]) fE_fW hkc hks ok_X12_cut ml_L_115 dL_law_1089 rfl ⟨_, _, rfl⟩ rfl rfl rfl (Nat.le_of_ble_eq_true rfl) (by decide) hC (fun w2 σ2 z2 h2 => ?_)
  obtain ⟨rfl, hR2⟩ := h2
  rw [← iZ_of (iZ w2)]
  refine k_icmp_eq (q := 1095) (tgt := 1634) dL_law_1092 rfl (by decide) (fun c1092 => ?_) (fun c1092 => by exfalso; exact absurd rfl c1092) (hx := R32_of _) (hy := R32_of _)
  exact nx σ2 _ _ _ _ f hR2 fE_fW ((fW_out (Nat.le_of_ble_eq_true rfl)).trans ((fW_out (Nat.le_of_ble_eq_true rfl)).trans hf)) (by omega) (by omega)
set_option maxHeartbeats 1000000 in
theorem lc_21 {G : Gx} {nm : String} {b N : Nat} {xs : Nat → Int32} {i : Int} {σ : Sg} {E : Nat → va_E} {z kc ks : Nat} {f : Nat → Int64} (hN : N ≤ 3072) (h0 : 0 ≤ i) (hi : i + 6 ≤ N) (hR : Rel σ) (hE : fE G σ E) (hf : E 120 = .inl (G.2.2.1 1, 1, .inr (.inl f))) (hkc : kc ≤ 601024) (hks : ks ≤ 7293034) (nx : Nx G nm b N xs i kc ks) : K G room_1 (mLL nm) (fS G b N xs) lQ (121, E, z) kc ks 1097 [some (.ref b), some (.ref (G.2.2.2 + 0)), some (.ref (G.2.2.2 + 82)), some (.ref (G.2.2.2 + 120)), some (.int (iZ i)), none, none] [] := by
  refine k_aload_n (q := 1098) (i := 1) dL_law_1097 rfl rfl rfl ?_
  refine k_VI (q := 1101) (vs := []) hE hkc hks ok_X11_realms ml_L_116 dL_law_1098 rfl ⟨_, _, rfl⟩ rfl rfl rfl (Nat.le_of_ble_eq_true rfl) (by decide) (st_realms hR) (fun w1 σ1 z1 hC => ?_)
  refine k_aload_n (q := 1102) (i := 2) dL_law_1101 rfl rfl rfl ?_
  refine k_VI (q := 1105) (vs := []) fE_fW hkc hks ok_X12_realms ml_L_119 dL_law_1102 rfl ⟨_, _, rfl⟩ rfl rfl rfl (Nat.le_of_ble_eq_true rfl) (by decide) hC (fun w2 σ2 z2 h2 => ?_)
  obtain ⟨rfl, hR2⟩ := h2
  rw [← iZ_of (iZ w2)]
  refine k_icmp_eq (q := 1108) (tgt := 1634) dL_law_1105 rfl (by decide) (fun c1105 => ?_) (fun c1105 => by exfalso; exact absurd rfl c1105) (hx := R32_of _) (hy := R32_of _)
  exact nx σ2 _ _ _ _ f hR2 fE_fW ((fW_out (Nat.le_of_ble_eq_true rfl)).trans ((fW_out (Nat.le_of_ble_eq_true rfl)).trans hf)) (by omega) (by omega)
set_option maxHeartbeats 1000000 in
theorem lc_22 {G : Gx} {nm : String} {b N : Nat} {xs : Nat → Int32} {i : Int} {σ : Sg} {E : Nat → va_E} {z kc ks : Nat} {f : Nat → Int64} (hN : N ≤ 3072) (h0 : 0 ≤ i) (hi : i + 6 ≤ N) (hR : Rel σ) (hE : fE G σ E) (hf : E 120 = .inl (G.2.2.1 1, 1, .inr (.inl f))) (hkc : kc ≤ 601024) (hks : ks ≤ 7293034) (nx : Nx G nm b N xs i kc ks) : K G room_1 (mLL nm) (fS G b N xs) lQ (121, E, z) kc ks 1110 [some (.ref b), some (.ref (G.2.2.2 + 0)), some (.ref (G.2.2.2 + 82)), some (.ref (G.2.2.2 + 120)), some (.int (iZ i)), none, none] [] := by
  refine k_aload_n (q := 1111) (i := 1) dL_law_1110 rfl rfl rfl ?_
  refine k_VI (q := 1114) (vs := []) hE hkc hks ok_X11_colours ml_L_120 dL_law_1111 rfl ⟨_, _, rfl⟩ rfl rfl rfl (Nat.le_of_ble_eq_true rfl) (by decide) (st_colours hR) (fun w1 σ1 z1 hC => ?_)
  refine k_aload_n (q := 1115) (i := 2) dL_law_1114 rfl rfl rfl ?_
  refine k_VI (q := 1118) (vs := []) fE_fW hkc hks ok_X12_colours ml_L_123 dL_law_1115 rfl ⟨_, _, rfl⟩ rfl rfl rfl (Nat.le_of_ble_eq_true rfl) (by decide) hC (fun w2 σ2 z2 h2 => ?_)
  obtain ⟨rfl, hR2⟩ := h2
  rw [← iZ_of (iZ w2)]
  refine k_icmp_eq (q := 1121) (tgt := 1634) dL_law_1118 rfl (by decide) (fun c1118 => ?_) (fun c1118 => by exfalso; exact absurd rfl c1118) (hx := R32_of _) (hy := R32_of _)
  exact nx σ2 _ _ _ _ f hR2 fE_fW ((fW_out (Nat.le_of_ble_eq_true rfl)).trans ((fW_out (Nat.le_of_ble_eq_true rfl)).trans hf)) (by omega) (by omega)
set_option maxHeartbeats 1000000 in
theorem lc_23 {G : Gx} {nm : String} {b N : Nat} {xs : Nat → Int32} {i : Int} {σ : Sg} {E : Nat → va_E} {z kc ks : Nat} {f : Nat → Int64} (hN : N ≤ 3072) (h0 : 0 ≤ i) (hi : i + 6 ≤ N) (hR : Rel σ) (hE : fE G σ E) (hf : E 120 = .inl (G.2.2.1 1, 1, .inr (.inl f))) (hkc : kc ≤ 601024) (hks : ks ≤ 7293034) (nx : Nx G nm b N xs i kc ks) : K G room_1 (mLL nm) (fS G b N xs) lQ (121, E, z) kc ks 1123 [some (.ref b), some (.ref (G.2.2.2 + 0)), some (.ref (G.2.2.2 + 82)), some (.ref (G.2.2.2 + 120)), some (.int (iZ i)), none, none] [] := by
  refine k_aload_n (q := 1124) (i := 1) dL_law_1123 rfl rfl rfl ?_
  refine k_aload_n (q := 1125) (i := 0) dL_law_1124 rfl rfl rfl ?_
  refine k_iload (q := 1127) dL_law_1125 rfl rfl ?_
  refine k_iconst (q := 1128) dL_law_1127 rfl ?_
  refine k_iadd (q := 1129) dL_law_1128 rfl ?_
  refine k_sld (q := 1130) dL_law_1129 rfl (by omega) (by omega) hN ?_
  refine k_aload_n (q := 1131) (i := 0) dL_law_1130 rfl rfl rfl ?_
  refine k_iload (q := 1133) dL_law_1131 rfl rfl ?_
  refine k_iconst (q := 1134) dL_law_1133 rfl ?_
  refine k_iadd (q := 1135) dL_law_1134 rfl ?_
  refine k_sld (q := 1136) dL_law_1135 rfl (by omega) (by omega) hN ?_
  refine k_VI (q := 1139) (vs := [_, _]) hE hkc hks ok_X11_rests ml_L_124 dL_law_1136 rfl ⟨_, _, rfl⟩ rfl rfl rfl (Nat.le_of_ble_eq_true rfl) (by decide) (st_rests hR (sX_in _ _) (sX_in _ _)) (fun w1 σ1 z1 hC => ?_)
  refine k_aload_n (q := 1140) (i := 2) dL_law_1139 rfl rfl rfl ?_
  refine k_aload_n (q := 1141) (i := 0) dL_law_1140 rfl rfl rfl ?_
  refine k_iload (q := 1143) dL_law_1141 rfl rfl ?_
  refine k_iconst (q := 1144) dL_law_1143 rfl ?_
  refine k_iadd (q := 1145) dL_law_1144 rfl ?_
  refine k_sld (q := 1146) dL_law_1145 rfl (by omega) (by omega) hN ?_
  refine k_aload_n (q := 1147) (i := 0) dL_law_1146 rfl rfl rfl ?_
  refine k_iload (q := 1149) dL_law_1147 rfl rfl ?_
  refine k_iconst (q := 1150) dL_law_1149 rfl ?_
  refine k_iadd (q := 1151) dL_law_1150 rfl ?_
  refine k_sld (q := 1152) dL_law_1151 rfl (by omega) (by omega) hN ?_
  refine k_VI (q := 1155) (vs := [_, _]) fE_fW hkc hks ok_X12_rests ml_L_127 dL_law_1152 rfl ⟨_, _, rfl⟩ rfl rfl rfl (Nat.le_of_ble_eq_true rfl) (by decide) hC (fun w2 σ2 z2 h2 => ?_)
  obtain ⟨rfl, hR2⟩ := h2
  rw [← iZ_of (iZ w2)]
  refine k_icmp_eq (q := 1158) (tgt := 1634) dL_law_1155 rfl (by decide) (fun c1155 => ?_) (fun c1155 => by exfalso; exact absurd rfl c1155) (hx := R32_of _) (hy := R32_of _)
  exact nx σ2 _ _ _ _ f hR2 fE_fW ((fW_out (Nat.le_of_ble_eq_true rfl)).trans ((fW_out (Nat.le_of_ble_eq_true rfl)).trans hf)) (by omega) (by omega)
set_option maxHeartbeats 1000000 in
theorem lc_24 {G : Gx} {nm : String} {b N : Nat} {xs : Nat → Int32} {i : Int} {σ : Sg} {E : Nat → va_E} {z kc ks : Nat} {f : Nat → Int64} (hN : N ≤ 3072) (h0 : 0 ≤ i) (hi : i + 6 ≤ N) (hR : Rel σ) (hE : fE G σ E) (hf : E 120 = .inl (G.2.2.1 1, 1, .inr (.inl f))) (hkc : kc ≤ 601024) (hks : ks ≤ 7293034) (nx : Nx G nm b N xs i kc ks) : K G room_1 (mLL nm) (fS G b N xs) lQ (121, E, z) kc ks 1160 [some (.ref b), some (.ref (G.2.2.2 + 0)), some (.ref (G.2.2.2 + 82)), some (.ref (G.2.2.2 + 120)), some (.int (iZ i)), none, none] [] := by
  refine k_aload_n (q := 1161) (i := 1) dL_law_1160 rfl rfl rfl ?_
  refine k_aload_n (q := 1162) (i := 0) dL_law_1161 rfl rfl rfl ?_
  refine k_iload (q := 1164) dL_law_1162 rfl rfl ?_
  refine k_iconst (q := 1165) dL_law_1164 rfl ?_
  refine k_iadd (q := 1166) dL_law_1165 rfl ?_
  refine k_sld (q := 1167) dL_law_1166 rfl (by omega) (by omega) hN ?_
  refine k_aload_n (q := 1168) (i := 0) dL_law_1167 rfl rfl rfl ?_
  refine k_iload (q := 1170) dL_law_1168 rfl rfl ?_
  refine k_iconst (q := 1171) dL_law_1170 rfl ?_
  refine k_iadd (q := 1172) dL_law_1171 rfl ?_
  refine k_sld (q := 1173) dL_law_1172 rfl (by omega) (by omega) hN ?_
  refine k_aload_n (q := 1174) (i := 0) dL_law_1173 rfl rfl rfl ?_
  refine k_iload (q := 1176) dL_law_1174 rfl rfl ?_
  refine k_iconst (q := 1177) dL_law_1176 rfl ?_
  refine k_iadd (q := 1178) dL_law_1177 rfl ?_
  refine k_sld (q := 1179) dL_law_1178 rfl (by omega) (by omega) hN ?_
  refine k_VI (q := 1182) (vs := [_, _, _]) hE hkc hks ok_X11_rest ml_L_128 dL_law_1179 rfl ⟨_, _, rfl⟩ rfl rfl rfl (Nat.le_of_ble_eq_true rfl) (by decide) (st_rest hR (sX_in _ _) (sX_in _ _) (sX_in _ _)) (fun w1 σ1 z1 hC => ?_)
  refine k_aload_n (q := 1183) (i := 2) dL_law_1182 rfl rfl rfl ?_
  refine k_aload_n (q := 1184) (i := 0) dL_law_1183 rfl rfl rfl ?_
  refine k_iload (q := 1186) dL_law_1184 rfl rfl ?_
  refine k_iconst (q := 1187) dL_law_1186 rfl ?_
  refine k_iadd (q := 1188) dL_law_1187 rfl ?_
  refine k_sld (q := 1189) dL_law_1188 rfl (by omega) (by omega) hN ?_
  refine k_aload_n (q := 1190) (i := 0) dL_law_1189 rfl rfl rfl ?_
  refine k_iload (q := 1192) dL_law_1190 rfl rfl ?_
  refine k_iconst (q := 1193) dL_law_1192 rfl ?_
  refine k_iadd (q := 1194) dL_law_1193 rfl ?_
  refine k_sld (q := 1195) dL_law_1194 rfl (by omega) (by omega) hN ?_
  refine k_aload_n (q := 1196) (i := 0) dL_law_1195 rfl rfl rfl ?_
  refine k_iload (q := 1198) dL_law_1196 rfl rfl ?_
  refine k_iconst (q := 1199) dL_law_1198 rfl ?_
  refine k_iadd (q := 1200) dL_law_1199 rfl ?_
  refine k_sld (q := 1201) dL_law_1200 rfl (by omega) (by omega) hN ?_
  refine k_VI (q := 1204) (vs := [_, _, _]) fE_fW hkc hks ok_X12_rest ml_L_131 dL_law_1201 rfl ⟨_, _, rfl⟩ rfl rfl rfl (Nat.le_of_ble_eq_true rfl) (by decide) hC (fun w2 σ2 z2 h2 => ?_)
  obtain ⟨rfl, hR2⟩ := h2
  rw [← iZ_of (iZ w2)]
  refine k_icmp_eq (q := 1207) (tgt := 1634) dL_law_1204 rfl (by decide) (fun c1204 => ?_) (fun c1204 => by exfalso; exact absurd rfl c1204) (hx := R32_of _) (hy := R32_of _)
  exact nx σ2 _ _ _ _ f hR2 fE_fW ((fW_out (Nat.le_of_ble_eq_true rfl)).trans ((fW_out (Nat.le_of_ble_eq_true rfl)).trans hf)) (by omega) (by omega)
set_option maxHeartbeats 1000000 in
theorem lc_25 {G : Gx} {nm : String} {b N : Nat} {xs : Nat → Int32} {i : Int} {σ : Sg} {E : Nat → va_E} {z kc ks : Nat} {f : Nat → Int64} (hN : N ≤ 3072) (h0 : 0 ≤ i) (hi : i + 6 ≤ N) (hR : Rel σ) (hE : fE G σ E) (hf : E 120 = .inl (G.2.2.1 1, 1, .inr (.inl f))) (hkc : kc ≤ 601024) (hks : ks ≤ 7293034) (nx : Nx G nm b N xs i kc ks) : K G room_1 (mLL nm) (fS G b N xs) lQ (121, E, z) kc ks 1209 [some (.ref b), some (.ref (G.2.2.2 + 0)), some (.ref (G.2.2.2 + 82)), some (.ref (G.2.2.2 + 120)), some (.int (iZ i)), none, none] [] := by
  refine k_aload_n (q := 1210) (i := 1) dL_law_1209 rfl rfl rfl ?_
  refine k_aload_n (q := 1211) (i := 0) dL_law_1210 rfl rfl rfl ?_
  refine k_iload (q := 1213) dL_law_1211 rfl rfl ?_
  refine k_iconst (q := 1214) dL_law_1213 rfl ?_
  refine k_iadd (q := 1215) dL_law_1214 rfl ?_
  refine k_sld (q := 1216) dL_law_1215 rfl (by omega) (by omega) hN ?_
  refine k_aload_n (q := 1217) (i := 0) dL_law_1216 rfl rfl rfl ?_
  refine k_iload (q := 1219) dL_law_1217 rfl rfl ?_
  refine k_iconst (q := 1220) dL_law_1219 rfl ?_
  refine k_iadd (q := 1221) dL_law_1220 rfl ?_
  refine k_sld (q := 1222) dL_law_1221 rfl (by omega) (by omega) hN ?_
  refine k_VL (q := 1225) (vs := [_, _]) hE hkc hks ok_X11_dry ml_L_132 dL_law_1222 rfl ⟨_, _, rfl⟩ rfl rfl rfl (Nat.le_of_ble_eq_true rfl) (by decide) (st_dry hR (sX_in _ _) (sX_in _ _)) (fun w1 σ1 z1 hC => ?_)
  refine k_aload_n (q := 1226) (i := 2) dL_law_1225 rfl rfl rfl ?_
  refine k_aload_n (q := 1227) (i := 0) dL_law_1226 rfl rfl rfl ?_
  refine k_iload (q := 1229) dL_law_1227 rfl rfl ?_
  refine k_iconst (q := 1230) dL_law_1229 rfl ?_
  refine k_iadd (q := 1231) dL_law_1230 rfl ?_
  refine k_sld (q := 1232) dL_law_1231 rfl (by omega) (by omega) hN ?_
  refine k_aload_n (q := 1233) (i := 0) dL_law_1232 rfl rfl rfl ?_
  refine k_iload (q := 1235) dL_law_1233 rfl rfl ?_
  refine k_iconst (q := 1236) dL_law_1235 rfl ?_
  refine k_iadd (q := 1237) dL_law_1236 rfl ?_
  refine k_sld (q := 1238) dL_law_1237 rfl (by omega) (by omega) hN ?_
  refine k_VL (q := 1241) (vs := [_, _]) fE_fW hkc hks ok_X12_dry ml_L_136 dL_law_1238 rfl ⟨_, _, rfl⟩ rfl rfl rfl (Nat.le_of_ble_eq_true rfl) (by decide) hC (fun w2 σ2 z2 h2 => ?_)
  obtain ⟨rfl, hR2⟩ := h2
  rw [← lZ_of (lZ w2)]
  refine k_lcmp (q := 1242) dL_law_1241 rfl (R64_of _) (R64_of _) ?_
  rw [if_neg (Int.lt_irrefl _), if_pos rfl]
  refine k_if_eq (q := 1245) (tgt := 1634) dL_law_1242 rfl (by decide) (fun c1242 => ?_) (fun c1242 => by exfalso; exact absurd rfl c1242)
  exact nx σ2 _ _ _ _ f hR2 fE_fW ((fW_out (Nat.le_of_ble_eq_true rfl)).trans ((fW_out (Nat.le_of_ble_eq_true rfl)).trans hf)) (by omega) (by omega)
set_option maxHeartbeats 1000000 in
theorem lc_26 {G : Gx} {nm : String} {b N : Nat} {xs : Nat → Int32} {i : Int} {σ : Sg} {E : Nat → va_E} {z kc ks : Nat} {f : Nat → Int64} (hN : N ≤ 3072) (h0 : 0 ≤ i) (hi : i + 6 ≤ N) (hR : Rel σ) (hE : fE G σ E) (hf : E 120 = .inl (G.2.2.1 1, 1, .inr (.inl f))) (hkc : kc ≤ 601024) (hks : ks ≤ 7293034) (nx : Nx G nm b N xs i kc ks) : K G room_1 (mLL nm) (fS G b N xs) lQ (121, E, z) kc ks 1247 [some (.ref b), some (.ref (G.2.2.2 + 0)), some (.ref (G.2.2.2 + 82)), some (.ref (G.2.2.2 + 120)), some (.int (iZ i)), none, none] [] := by
  refine k_aload_n (q := 1248) (i := 1) dL_law_1247 rfl rfl rfl ?_
  refine k_aload_n (q := 1249) (i := 0) dL_law_1248 rfl rfl rfl ?_
  refine k_iload (q := 1251) dL_law_1249 rfl rfl ?_
  refine k_iconst (q := 1252) dL_law_1251 rfl ?_
  refine k_iadd (q := 1253) dL_law_1252 rfl ?_
  refine k_sld (q := 1254) dL_law_1253 rfl (by omega) (by omega) hN ?_
  refine k_aload_n (q := 1255) (i := 0) dL_law_1254 rfl rfl rfl ?_
  refine k_iload (q := 1257) dL_law_1255 rfl rfl ?_
  refine k_iconst (q := 1258) dL_law_1257 rfl ?_
  refine k_iadd (q := 1259) dL_law_1258 rfl ?_
  refine k_sld (q := 1260) dL_law_1259 rfl (by omega) (by omega) hN ?_
  refine k_aload_n (q := 1261) (i := 0) dL_law_1260 rfl rfl rfl ?_
  refine k_iload (q := 1263) dL_law_1261 rfl rfl ?_
  refine k_iconst (q := 1264) dL_law_1263 rfl ?_
  refine k_iadd (q := 1265) dL_law_1264 rfl ?_
  refine k_sld (q := 1266) dL_law_1265 rfl (by omega) (by omega) hN ?_
  refine k_aload_n (q := 1267) (i := 0) dL_law_1266 rfl rfl rfl ?_
  refine k_iload (q := 1269) dL_law_1267 rfl rfl ?_
  refine k_iconst (q := 1270) dL_law_1269 rfl ?_
  refine k_iadd (q := 1271) dL_law_1270 rfl ?_
  refine k_sld (q := 1272) dL_law_1271 rfl (by omega) (by omega) hN ?_
  refine k_aload_n (q := 1273) (i := 0) dL_law_1272 rfl rfl rfl ?_
  refine k_iload (q := 1275) dL_law_1273 rfl rfl ?_
  refine k_iconst (q := 1276) dL_law_1275 rfl ?_
  refine k_iadd (q := 1277) dL_law_1276 rfl ?_
  refine k_sld (q := 1278) dL_law_1277 rfl (by omega) (by omega) hN ?_
  refine k_if_eq (q := 1281) (tgt := 1285) dL_law_1278 rfl (by decide) (fun c1278 => ?_) (fun c1278 => ?_) (hx := sX_in _ _)
  · refine k_iconst (q := 1286) dL_law_1285 rfl ?_
    refine k_VI (q := 1289) (vs := [_, _, _, _, _]) hE hkc hks ok_X11_see ml_L_137 dL_law_1286 rfl ⟨_, _, rfl⟩ rfl rfl rfl (Nat.le_of_ble_eq_true rfl) (by decide) (st_see hR (sX_in _ _) (sX_in _ _) (sX_in _ _) (sX_in _ _) (by first | exact Or.inl rfl | exact Or.inr rfl)) (fun w1 σ1 z1 hC => ?_)
    refine k_aload_n (q := 1290) (i := 2) dL_law_1289 rfl rfl rfl ?_
    refine k_aload_n (q := 1291) (i := 0) dL_law_1290 rfl rfl rfl ?_
    refine k_iload (q := 1293) dL_law_1291 rfl rfl ?_
    refine k_iconst (q := 1294) dL_law_1293 rfl ?_
    refine k_iadd (q := 1295) dL_law_1294 rfl ?_
    refine k_sld (q := 1296) dL_law_1295 rfl (by omega) (by omega) hN ?_
    refine k_aload_n (q := 1297) (i := 0) dL_law_1296 rfl rfl rfl ?_
    refine k_iload (q := 1299) dL_law_1297 rfl rfl ?_
    refine k_iconst (q := 1300) dL_law_1299 rfl ?_
    refine k_iadd (q := 1301) dL_law_1300 rfl ?_
    refine k_sld (q := 1302) dL_law_1301 rfl (by omega) (by omega) hN ?_
    refine k_aload_n (q := 1303) (i := 0) dL_law_1302 rfl rfl rfl ?_
    refine k_iload (q := 1305) dL_law_1303 rfl rfl ?_
    refine k_iconst (q := 1306) dL_law_1305 rfl ?_
    refine k_iadd (q := 1307) dL_law_1306 rfl ?_
    refine k_sld (q := 1308) dL_law_1307 rfl (by omega) (by omega) hN ?_
    refine k_aload_n (q := 1309) (i := 0) dL_law_1308 rfl rfl rfl ?_
    refine k_iload (q := 1311) dL_law_1309 rfl rfl ?_
    refine k_iconst (q := 1312) dL_law_1311 rfl ?_
    refine k_iadd (q := 1313) dL_law_1312 rfl ?_
    refine k_sld (q := 1314) dL_law_1313 rfl (by omega) (by omega) hN ?_
    refine k_aload_n (q := 1315) (i := 0) dL_law_1314 rfl rfl rfl ?_
    refine k_iload (q := 1317) dL_law_1315 rfl rfl ?_
    refine k_iconst (q := 1318) dL_law_1317 rfl ?_
    refine k_iadd (q := 1319) dL_law_1318 rfl ?_
    refine k_sld (q := 1320) dL_law_1319 rfl (by omega) (by omega) hN ?_
    refine k_if_eq (q := 1323) (tgt := 1327) dL_law_1320 rfl (by decide) (fun c1320 => ?_) (fun c1320 => by exfalso; exact c1320 c1278) (hx := sX_in _ _)
    refine k_iconst (q := 1328) dL_law_1327 rfl ?_
    refine k_VI (q := 1331) (vs := [_, _, _, _, _]) fE_fW hkc hks ok_X12_see ml_L_141 dL_law_1328 rfl ⟨_, _, rfl⟩ rfl rfl rfl (Nat.le_of_ble_eq_true rfl) (by decide) hC (fun w2 σ2 z2 h2 => ?_)
    obtain ⟨rfl, hR2⟩ := h2
    rw [← iZ_of (iZ w2)]
    refine k_icmp_eq (q := 1334) (tgt := 1634) dL_law_1331 rfl (by decide) (fun c1331 => ?_) (fun c1331 => by exfalso; exact absurd rfl c1331) (hx := R32_of _) (hy := R32_of _)
    exact nx σ2 _ _ _ _ f hR2 fE_fW ((fW_out (Nat.le_of_ble_eq_true rfl)).trans ((fW_out (Nat.le_of_ble_eq_true rfl)).trans hf)) (by omega) (by omega)
  · refine k_iconst (q := 1282) dL_law_1281 rfl ?_
    refine k_goto (tgt := 1286) dL_law_1282 (by decide) ?_
    refine k_VI (q := 1289) (vs := [_, _, _, _, _]) hE hkc hks ok_X11_see ml_L_137 dL_law_1286 rfl ⟨_, _, rfl⟩ rfl rfl rfl (Nat.le_of_ble_eq_true rfl) (by decide) (st_see hR (sX_in _ _) (sX_in _ _) (sX_in _ _) (sX_in _ _) (by first | exact Or.inl rfl | exact Or.inr rfl)) (fun w1 σ1 z1 hC => ?_)
    refine k_aload_n (q := 1290) (i := 2) dL_law_1289 rfl rfl rfl ?_
    refine k_aload_n (q := 1291) (i := 0) dL_law_1290 rfl rfl rfl ?_
    refine k_iload (q := 1293) dL_law_1291 rfl rfl ?_
    refine k_iconst (q := 1294) dL_law_1293 rfl ?_
    refine k_iadd (q := 1295) dL_law_1294 rfl ?_
    refine k_sld (q := 1296) dL_law_1295 rfl (by omega) (by omega) hN ?_
    refine k_aload_n (q := 1297) (i := 0) dL_law_1296 rfl rfl rfl ?_
    refine k_iload (q := 1299) dL_law_1297 rfl rfl ?_
    refine k_iconst (q := 1300) dL_law_1299 rfl ?_
    refine k_iadd (q := 1301) dL_law_1300 rfl ?_
    refine k_sld (q := 1302) dL_law_1301 rfl (by omega) (by omega) hN ?_
    refine k_aload_n (q := 1303) (i := 0) dL_law_1302 rfl rfl rfl ?_
    refine k_iload (q := 1305) dL_law_1303 rfl rfl ?_
    refine k_iconst (q := 1306) dL_law_1305 rfl ?_
    refine k_iadd (q := 1307) dL_law_1306 rfl ?_
    refine k_sld (q := 1308) dL_law_1307 rfl (by omega) (by omega) hN ?_
    refine k_aload_n (q := 1309) (i := 0) dL_law_1308 rfl rfl rfl ?_
    refine k_iload (q := 1311) dL_law_1309 rfl rfl ?_
    refine k_iconst (q := 1312) dL_law_1311 rfl ?_
    refine k_iadd (q := 1313) dL_law_1312 rfl ?_
    refine k_sld (q := 1314) dL_law_1313 rfl (by omega) (by omega) hN ?_
    refine k_aload_n (q := 1315) (i := 0) dL_law_1314 rfl rfl rfl ?_
    refine k_iload (q := 1317) dL_law_1315 rfl rfl ?_
    refine k_iconst (q := 1318) dL_law_1317 rfl ?_
    refine k_iadd (q := 1319) dL_law_1318 rfl ?_
    refine k_sld (q := 1320) dL_law_1319 rfl (by omega) (by omega) hN ?_
    refine k_if_eq (q := 1323) (tgt := 1327) dL_law_1320 rfl (by decide) (fun c1320 => by exfalso; exact c1278 c1320) (fun c1320 => ?_) (hx := sX_in _ _)
    refine k_iconst (q := 1324) dL_law_1323 rfl ?_
    refine k_goto (tgt := 1328) dL_law_1324 (by decide) ?_
    refine k_VI (q := 1331) (vs := [_, _, _, _, _]) fE_fW hkc hks ok_X12_see ml_L_141 dL_law_1328 rfl ⟨_, _, rfl⟩ rfl rfl rfl (Nat.le_of_ble_eq_true rfl) (by decide) hC (fun w2 σ2 z2 h2 => ?_)
    obtain ⟨rfl, hR2⟩ := h2
    rw [← iZ_of (iZ w2)]
    refine k_icmp_eq (q := 1334) (tgt := 1634) dL_law_1331 rfl (by decide) (fun c1331 => ?_) (fun c1331 => by exfalso; exact absurd rfl c1331) (hx := R32_of _) (hy := R32_of _)
    exact nx σ2 _ _ _ _ f hR2 fE_fW ((fW_out (Nat.le_of_ble_eq_true rfl)).trans ((fW_out (Nat.le_of_ble_eq_true rfl)).trans hf)) (by omega) (by omega)
set_option maxHeartbeats 1000000 in
theorem lc_27 {G : Gx} {nm : String} {b N : Nat} {xs : Nat → Int32} {i : Int} {σ : Sg} {E : Nat → va_E} {z kc ks : Nat} {f : Nat → Int64} (hN : N ≤ 3072) (h0 : 0 ≤ i) (hi : i + 6 ≤ N) (hR : Rel σ) (hE : fE G σ E) (hf : E 120 = .inl (G.2.2.1 1, 1, .inr (.inl f))) (hkc : kc ≤ 601024) (hks : ks ≤ 7293034) (nx : Nx G nm b N xs i kc ks) : K G room_1 (mLL nm) (fS G b N xs) lQ (121, E, z) kc ks 1336 [some (.ref b), some (.ref (G.2.2.2 + 0)), some (.ref (G.2.2.2 + 82)), some (.ref (G.2.2.2 + 120)), some (.int (iZ i)), none, none] [] := by
  refine k_aload_n (q := 1337) (i := 1) dL_law_1336 rfl rfl rfl ?_
  refine k_aload_n (q := 1338) (i := 0) dL_law_1337 rfl rfl rfl ?_
  refine k_iload (q := 1340) dL_law_1338 rfl rfl ?_
  refine k_iconst (q := 1341) dL_law_1340 rfl ?_
  refine k_iadd (q := 1342) dL_law_1341 rfl ?_
  refine k_sld (q := 1343) dL_law_1342 rfl (by omega) (by omega) hN ?_
  refine k_VI (q := 1346) (vs := [_]) hE hkc hks ok_X11_strike ml_L_142 dL_law_1343 rfl ⟨_, _, rfl⟩ rfl rfl rfl (Nat.le_of_ble_eq_true rfl) (by decide) (st_strike hR (sX_in _ _)) (fun w1 σ1 z1 hC => ?_)
  refine k_aload_n (q := 1347) (i := 2) dL_law_1346 rfl rfl rfl ?_
  refine k_aload_n (q := 1348) (i := 0) dL_law_1347 rfl rfl rfl ?_
  refine k_iload (q := 1350) dL_law_1348 rfl rfl ?_
  refine k_iconst (q := 1351) dL_law_1350 rfl ?_
  refine k_iadd (q := 1352) dL_law_1351 rfl ?_
  refine k_sld (q := 1353) dL_law_1352 rfl (by omega) (by omega) hN ?_
  refine k_VI (q := 1356) (vs := [_]) fE_fW hkc hks ok_X12_strike ml_L_145 dL_law_1353 rfl ⟨_, _, rfl⟩ rfl rfl rfl (Nat.le_of_ble_eq_true rfl) (by decide) hC (fun w2 σ2 z2 h2 => ?_)
  obtain ⟨rfl, hR2⟩ := h2
  rw [← iZ_of (iZ w2)]
  refine k_icmp_eq (q := 1359) (tgt := 1634) dL_law_1356 rfl (by decide) (fun c1356 => ?_) (fun c1356 => by exfalso; exact absurd rfl c1356) (hx := R32_of _) (hy := R32_of _)
  exact nx σ2 _ _ _ _ f hR2 fE_fW ((fW_out (Nat.le_of_ble_eq_true rfl)).trans ((fW_out (Nat.le_of_ble_eq_true rfl)).trans hf)) (by omega) (by omega)
set_option maxHeartbeats 1000000 in
theorem lc_28 {G : Gx} {nm : String} {b N : Nat} {xs : Nat → Int32} {i : Int} {σ : Sg} {E : Nat → va_E} {z kc ks : Nat} {f : Nat → Int64} (hN : N ≤ 3072) (h0 : 0 ≤ i) (hi : i + 6 ≤ N) (hR : Rel σ) (hE : fE G σ E) (hf : E 120 = .inl (G.2.2.1 1, 1, .inr (.inl f))) (hkc : kc ≤ 601024) (hks : ks ≤ 7293034) (nx : Nx G nm b N xs i kc ks) : K G room_1 (mLL nm) (fS G b N xs) lQ (121, E, z) kc ks 1361 [some (.ref b), some (.ref (G.2.2.2 + 0)), some (.ref (G.2.2.2 + 82)), some (.ref (G.2.2.2 + 120)), some (.int (iZ i)), none, none] [] := by
  refine k_aload_n (q := 1362) (i := 1) dL_law_1361 rfl rfl rfl ?_
  refine k_aload_n (q := 1363) (i := 0) dL_law_1362 rfl rfl rfl ?_
  refine k_iload (q := 1365) dL_law_1363 rfl rfl ?_
  refine k_iconst (q := 1366) dL_law_1365 rfl ?_
  refine k_iadd (q := 1367) dL_law_1366 rfl ?_
  refine k_sld (q := 1368) dL_law_1367 rfl (by omega) (by omega) hN ?_
  refine k_VI (q := 1371) (vs := [_]) hE hkc hks ok_X11_known ml_L_146 dL_law_1368 rfl ⟨_, _, rfl⟩ rfl rfl rfl (Nat.le_of_ble_eq_true rfl) (by decide) (st_known hR (sX_in _ _)) (fun w1 σ1 z1 hC => ?_)
  refine k_aload_n (q := 1372) (i := 2) dL_law_1371 rfl rfl rfl ?_
  refine k_aload_n (q := 1373) (i := 0) dL_law_1372 rfl rfl rfl ?_
  refine k_iload (q := 1375) dL_law_1373 rfl rfl ?_
  refine k_iconst (q := 1376) dL_law_1375 rfl ?_
  refine k_iadd (q := 1377) dL_law_1376 rfl ?_
  refine k_sld (q := 1378) dL_law_1377 rfl (by omega) (by omega) hN ?_
  refine k_VI (q := 1381) (vs := [_]) fE_fW hkc hks ok_X12_known ml_L_150 dL_law_1378 rfl ⟨_, _, rfl⟩ rfl rfl rfl (Nat.le_of_ble_eq_true rfl) (by decide) hC (fun w2 σ2 z2 h2 => ?_)
  obtain ⟨rfl, hR2⟩ := h2
  rw [← iZ_of (iZ w2)]
  refine k_icmp_eq (q := 1384) (tgt := 1634) dL_law_1381 rfl (by decide) (fun c1381 => ?_) (fun c1381 => by exfalso; exact absurd rfl c1381) (hx := R32_of _) (hy := R32_of _)
  exact nx σ2 _ _ _ _ f hR2 fE_fW ((fW_out (Nat.le_of_ble_eq_true rfl)).trans ((fW_out (Nat.le_of_ble_eq_true rfl)).trans hf)) (by omega) (by omega)
set_option maxHeartbeats 1000000 in
theorem lc_29 {G : Gx} {nm : String} {b N : Nat} {xs : Nat → Int32} {i : Int} {σ : Sg} {E : Nat → va_E} {z kc ks : Nat} {f : Nat → Int64} (hN : N ≤ 3072) (h0 : 0 ≤ i) (hi : i + 6 ≤ N) (hR : Rel σ) (hE : fE G σ E) (hf : E 120 = .inl (G.2.2.1 1, 1, .inr (.inl f))) (hkc : kc ≤ 601024) (hks : ks ≤ 7293034) (nx : Nx G nm b N xs i kc ks) : K G room_1 (mLL nm) (fS G b N xs) lQ (121, E, z) kc ks 1386 [some (.ref b), some (.ref (G.2.2.2 + 0)), some (.ref (G.2.2.2 + 82)), some (.ref (G.2.2.2 + 120)), some (.int (iZ i)), none, none] [] := by
  refine k_aload_n (q := 1387) (i := 1) dL_law_1386 rfl rfl rfl ?_
  refine k_aload_n (q := 1388) (i := 0) dL_law_1387 rfl rfl rfl ?_
  refine k_iload (q := 1390) dL_law_1388 rfl rfl ?_
  refine k_iconst (q := 1391) dL_law_1390 rfl ?_
  refine k_iadd (q := 1392) dL_law_1391 rfl ?_
  refine k_sld (q := 1393) dL_law_1392 rfl (by omega) (by omega) hN ?_
  refine k_VI (q := 1396) (vs := [_]) hE hkc hks ok_X11_legsOf ml_L_151 dL_law_1393 rfl ⟨_, _, rfl⟩ rfl rfl rfl (Nat.le_of_ble_eq_true rfl) (by decide) (st_legsOf hR (sX_in _ _)) (fun w1 σ1 z1 hC => ?_)
  refine k_aload_n (q := 1397) (i := 2) dL_law_1396 rfl rfl rfl ?_
  refine k_aload_n (q := 1398) (i := 0) dL_law_1397 rfl rfl rfl ?_
  refine k_iload (q := 1400) dL_law_1398 rfl rfl ?_
  refine k_iconst (q := 1401) dL_law_1400 rfl ?_
  refine k_iadd (q := 1402) dL_law_1401 rfl ?_
  refine k_sld (q := 1403) dL_law_1402 rfl (by omega) (by omega) hN ?_
  refine k_VI (q := 1406) (vs := [_]) fE_fW hkc hks ok_X12_legsOf ml_L_154 dL_law_1403 rfl ⟨_, _, rfl⟩ rfl rfl rfl (Nat.le_of_ble_eq_true rfl) (by decide) hC (fun w2 σ2 z2 h2 => ?_)
  obtain ⟨rfl, hR2⟩ := h2
  rw [← iZ_of (iZ w2)]
  refine k_icmp_eq (q := 1409) (tgt := 1634) dL_law_1406 rfl (by decide) (fun c1406 => ?_) (fun c1406 => by exfalso; exact absurd rfl c1406) (hx := R32_of _) (hy := R32_of _)
  exact nx σ2 _ _ _ _ f hR2 fE_fW ((fW_out (Nat.le_of_ble_eq_true rfl)).trans ((fW_out (Nat.le_of_ble_eq_true rfl)).trans hf)) (by omega) (by omega)
set_option maxHeartbeats 1000000 in
theorem lc_30 {G : Gx} {nm : String} {b N : Nat} {xs : Nat → Int32} {i : Int} {σ : Sg} {E : Nat → va_E} {z kc ks : Nat} {f : Nat → Int64} (hN : N ≤ 3072) (h0 : 0 ≤ i) (hi : i + 6 ≤ N) (hR : Rel σ) (hE : fE G σ E) (hf : E 120 = .inl (G.2.2.1 1, 1, .inr (.inl f))) (hkc : kc ≤ 601024) (hks : ks ≤ 7293034) (nx : Nx G nm b N xs i kc ks) : K G room_1 (mLL nm) (fS G b N xs) lQ (121, E, z) kc ks 1411 [some (.ref b), some (.ref (G.2.2.2 + 0)), some (.ref (G.2.2.2 + 82)), some (.ref (G.2.2.2 + 120)), some (.int (iZ i)), none, none] [] := by
  refine k_aload_n (q := 1412) (i := 1) dL_law_1411 rfl rfl rfl ?_
  refine k_aload_n (q := 1413) (i := 0) dL_law_1412 rfl rfl rfl ?_
  refine k_iload (q := 1415) dL_law_1413 rfl rfl ?_
  refine k_iconst (q := 1416) dL_law_1415 rfl ?_
  refine k_iadd (q := 1417) dL_law_1416 rfl ?_
  refine k_sld (q := 1418) dL_law_1417 rfl (by omega) (by omega) hN ?_
  refine k_aload_n (q := 1419) (i := 0) dL_law_1418 rfl rfl rfl ?_
  refine k_iload (q := 1421) dL_law_1419 rfl rfl ?_
  refine k_iconst (q := 1422) dL_law_1421 rfl ?_
  refine k_iadd (q := 1423) dL_law_1422 rfl ?_
  refine k_sld (q := 1424) dL_law_1423 rfl (by omega) (by omega) hN ?_
  refine k_aload_n (q := 1425) (i := 0) dL_law_1424 rfl rfl rfl ?_
  refine k_iload (q := 1427) dL_law_1425 rfl rfl ?_
  refine k_iconst (q := 1428) dL_law_1427 rfl ?_
  refine k_iadd (q := 1429) dL_law_1428 rfl ?_
  refine k_sld (q := 1430) dL_law_1429 rfl (by omega) (by omega) hN ?_
  refine k_VI (q := 1433) (vs := [_, _, _]) hE hkc hks ok_X11_ask ml_L_155 dL_law_1430 rfl ⟨_, _, rfl⟩ rfl rfl rfl (Nat.le_of_ble_eq_true rfl) (by decide) (st_ask hR (sX_in _ _) (sX_in _ _) (sX_in _ _)) (fun w1 σ1 z1 hC => ?_)
  refine k_aload_n (q := 1434) (i := 2) dL_law_1433 rfl rfl rfl ?_
  refine k_aload_n (q := 1435) (i := 0) dL_law_1434 rfl rfl rfl ?_
  refine k_iload (q := 1437) dL_law_1435 rfl rfl ?_
  refine k_iconst (q := 1438) dL_law_1437 rfl ?_
  refine k_iadd (q := 1439) dL_law_1438 rfl ?_
  refine k_sld (q := 1440) dL_law_1439 rfl (by omega) (by omega) hN ?_
  refine k_aload_n (q := 1441) (i := 0) dL_law_1440 rfl rfl rfl ?_
  refine k_iload (q := 1443) dL_law_1441 rfl rfl ?_
  refine k_iconst (q := 1444) dL_law_1443 rfl ?_
  refine k_iadd (q := 1445) dL_law_1444 rfl ?_
  refine k_sld (q := 1446) dL_law_1445 rfl (by omega) (by omega) hN ?_
  refine k_aload_n (q := 1447) (i := 0) dL_law_1446 rfl rfl rfl ?_
  refine k_iload (q := 1449) dL_law_1447 rfl rfl ?_
  refine k_iconst (q := 1450) dL_law_1449 rfl ?_
  refine k_iadd (q := 1451) dL_law_1450 rfl ?_
  refine k_sld (q := 1452) dL_law_1451 rfl (by omega) (by omega) hN ?_
  refine k_VI (q := 1455) (vs := [_, _, _]) fE_fW hkc hks ok_X12_ask ml_L_158 dL_law_1452 rfl ⟨_, _, rfl⟩ rfl rfl rfl (Nat.le_of_ble_eq_true rfl) (by decide) hC (fun w2 σ2 z2 h2 => ?_)
  obtain ⟨rfl, hR2⟩ := h2
  rw [← iZ_of (iZ w2)]
  refine k_icmp_eq (q := 1458) (tgt := 1634) dL_law_1455 rfl (by decide) (fun c1455 => ?_) (fun c1455 => by exfalso; exact absurd rfl c1455) (hx := R32_of _) (hy := R32_of _)
  exact nx σ2 _ _ _ _ f hR2 fE_fW ((fW_out (Nat.le_of_ble_eq_true rfl)).trans ((fW_out (Nat.le_of_ble_eq_true rfl)).trans hf)) (by omega) (by omega)
set_option maxHeartbeats 1000000 in
theorem lc_31 {G : Gx} {nm : String} {b N : Nat} {xs : Nat → Int32} {i : Int} {σ : Sg} {E : Nat → va_E} {z kc ks : Nat} {f : Nat → Int64} (hN : N ≤ 3072) (h0 : 0 ≤ i) (hi : i + 6 ≤ N) (hR : Rel σ) (hE : fE G σ E) (hf : E 120 = .inl (G.2.2.1 1, 1, .inr (.inl f))) (hkc : kc ≤ 601024) (hks : ks ≤ 7293034) (nx : Nx G nm b N xs i kc ks) : K G room_1 (mLL nm) (fS G b N xs) lQ (121, E, z) kc ks 1460 [some (.ref b), some (.ref (G.2.2.2 + 0)), some (.ref (G.2.2.2 + 82)), some (.ref (G.2.2.2 + 120)), some (.int (iZ i)), none, none] [] := by
  refine k_aload_n (q := 1461) (i := 1) dL_law_1460 rfl rfl rfl ?_
  refine k_aload_n (q := 1462) (i := 0) dL_law_1461 rfl rfl rfl ?_
  refine k_iload (q := 1464) dL_law_1462 rfl rfl ?_
  refine k_iconst (q := 1465) dL_law_1464 rfl ?_
  refine k_iadd (q := 1466) dL_law_1465 rfl ?_
  refine k_sld (q := 1467) dL_law_1466 rfl (by omega) (by omega) hN ?_
  refine k_aload_n (q := 1468) (i := 0) dL_law_1467 rfl rfl rfl ?_
  refine k_iload (q := 1470) dL_law_1468 rfl rfl ?_
  refine k_iconst (q := 1471) dL_law_1470 rfl ?_
  refine k_iadd (q := 1472) dL_law_1471 rfl ?_
  refine k_sld (q := 1473) dL_law_1472 rfl (by omega) (by omega) hN ?_
  refine k_aload_n (q := 1474) (i := 0) dL_law_1473 rfl rfl rfl ?_
  refine k_iload (q := 1476) dL_law_1474 rfl rfl ?_
  refine k_iconst (q := 1477) dL_law_1476 rfl ?_
  refine k_iadd (q := 1478) dL_law_1477 rfl ?_
  refine k_sld (q := 1479) dL_law_1478 rfl (by omega) (by omega) hN ?_
  refine k_aload_n (q := 1480) (i := 0) dL_law_1479 rfl rfl rfl ?_
  refine k_iload (q := 1482) dL_law_1480 rfl rfl ?_
  refine k_iconst (q := 1483) dL_law_1482 rfl ?_
  refine k_iadd (q := 1484) dL_law_1483 rfl ?_
  refine k_sld (q := 1485) dL_law_1484 rfl (by omega) (by omega) hN ?_
  refine k_VI (q := 1488) (vs := [_, _, _, _]) hE hkc hks ok_X11_chance ml_L_159 dL_law_1485 rfl ⟨_, _, rfl⟩ rfl rfl rfl (Nat.le_of_ble_eq_true rfl) (by decide) (st_chance hR (sX_in _ _) (sX_in _ _) (sX_in _ _) (sX_in _ _)) (fun w1 σ1 z1 hC => ?_)
  refine k_aload_n (q := 1489) (i := 2) dL_law_1488 rfl rfl rfl ?_
  refine k_aload_n (q := 1490) (i := 0) dL_law_1489 rfl rfl rfl ?_
  refine k_iload (q := 1492) dL_law_1490 rfl rfl ?_
  refine k_iconst (q := 1493) dL_law_1492 rfl ?_
  refine k_iadd (q := 1494) dL_law_1493 rfl ?_
  refine k_sld (q := 1495) dL_law_1494 rfl (by omega) (by omega) hN ?_
  refine k_aload_n (q := 1496) (i := 0) dL_law_1495 rfl rfl rfl ?_
  refine k_iload (q := 1498) dL_law_1496 rfl rfl ?_
  refine k_iconst (q := 1499) dL_law_1498 rfl ?_
  refine k_iadd (q := 1500) dL_law_1499 rfl ?_
  refine k_sld (q := 1501) dL_law_1500 rfl (by omega) (by omega) hN ?_
  refine k_aload_n (q := 1502) (i := 0) dL_law_1501 rfl rfl rfl ?_
  refine k_iload (q := 1504) dL_law_1502 rfl rfl ?_
  refine k_iconst (q := 1505) dL_law_1504 rfl ?_
  refine k_iadd (q := 1506) dL_law_1505 rfl ?_
  refine k_sld (q := 1507) dL_law_1506 rfl (by omega) (by omega) hN ?_
  refine k_aload_n (q := 1508) (i := 0) dL_law_1507 rfl rfl rfl ?_
  refine k_iload (q := 1510) dL_law_1508 rfl rfl ?_
  refine k_iconst (q := 1511) dL_law_1510 rfl ?_
  refine k_iadd (q := 1512) dL_law_1511 rfl ?_
  refine k_sld (q := 1513) dL_law_1512 rfl (by omega) (by omega) hN ?_
  refine k_VI (q := 1516) (vs := [_, _, _, _]) fE_fW hkc hks ok_X12_chance ml_L_163 dL_law_1513 rfl ⟨_, _, rfl⟩ rfl rfl rfl (Nat.le_of_ble_eq_true rfl) (by decide) hC (fun w2 σ2 z2 h2 => ?_)
  obtain ⟨rfl, hR2⟩ := h2
  rw [← iZ_of (iZ w2)]
  refine k_icmp_eq (q := 1519) (tgt := 1634) dL_law_1516 rfl (by decide) (fun c1516 => ?_) (fun c1516 => by exfalso; exact absurd rfl c1516) (hx := R32_of _) (hy := R32_of _)
  exact nx σ2 _ _ _ _ f hR2 fE_fW ((fW_out (Nat.le_of_ble_eq_true rfl)).trans ((fW_out (Nat.le_of_ble_eq_true rfl)).trans hf)) (by omega) (by omega)
set_option maxHeartbeats 1000000 in
theorem lc_32 {G : Gx} {nm : String} {b N : Nat} {xs : Nat → Int32} {i : Int} {σ : Sg} {E : Nat → va_E} {z kc ks : Nat} {f : Nat → Int64} (hN : N ≤ 3072) (h0 : 0 ≤ i) (hi : i + 6 ≤ N) (hR : Rel σ) (hE : fE G σ E) (hf : E 120 = .inl (G.2.2.1 1, 1, .inr (.inl f))) (hkc : kc ≤ 601024) (hks : ks ≤ 7293034) (nx : Nx G nm b N xs i kc ks) : K G room_1 (mLL nm) (fS G b N xs) lQ (121, E, z) kc ks 1521 [some (.ref b), some (.ref (G.2.2.2 + 0)), some (.ref (G.2.2.2 + 82)), some (.ref (G.2.2.2 + 120)), some (.int (iZ i)), none, none] [] := by
  refine k_aload_n (q := 1522) (i := 1) dL_law_1521 rfl rfl rfl ?_
  refine k_aload_n (q := 1523) (i := 0) dL_law_1522 rfl rfl rfl ?_
  refine k_iload (q := 1525) dL_law_1523 rfl rfl ?_
  refine k_iconst (q := 1526) dL_law_1525 rfl ?_
  refine k_iadd (q := 1527) dL_law_1526 rfl ?_
  refine k_sld (q := 1528) dL_law_1527 rfl (by omega) (by omega) hN ?_
  refine k_aload_n (q := 1529) (i := 0) dL_law_1528 rfl rfl rfl ?_
  refine k_iload (q := 1531) dL_law_1529 rfl rfl ?_
  refine k_iconst (q := 1532) dL_law_1531 rfl ?_
  refine k_iadd (q := 1533) dL_law_1532 rfl ?_
  refine k_sld (q := 1534) dL_law_1533 rfl (by omega) (by omega) hN ?_
  refine k_aload_n (q := 1535) (i := 0) dL_law_1534 rfl rfl rfl ?_
  refine k_iload (q := 1537) dL_law_1535 rfl rfl ?_
  refine k_iconst (q := 1538) dL_law_1537 rfl ?_
  refine k_iadd (q := 1539) dL_law_1538 rfl ?_
  refine k_sld (q := 1540) dL_law_1539 rfl (by omega) (by omega) hN ?_
  refine k_VI (q := 1543) (vs := [_, _, _]) hE hkc hks ok_X11_tried ml_L_164 dL_law_1540 rfl ⟨_, _, rfl⟩ rfl rfl rfl (Nat.le_of_ble_eq_true rfl) (by decide) (st_tried hR (sX_in _ _) (sX_in _ _) (sX_in _ _)) (fun w1 σ1 z1 hC => ?_)
  refine k_aload_n (q := 1544) (i := 2) dL_law_1543 rfl rfl rfl ?_
  refine k_aload_n (q := 1545) (i := 0) dL_law_1544 rfl rfl rfl ?_
  refine k_iload (q := 1547) dL_law_1545 rfl rfl ?_
  refine k_iconst (q := 1548) dL_law_1547 rfl ?_
  refine k_iadd (q := 1549) dL_law_1548 rfl ?_
  refine k_sld (q := 1550) dL_law_1549 rfl (by omega) (by omega) hN ?_
  refine k_aload_n (q := 1551) (i := 0) dL_law_1550 rfl rfl rfl ?_
  refine k_iload (q := 1553) dL_law_1551 rfl rfl ?_
  refine k_iconst (q := 1554) dL_law_1553 rfl ?_
  refine k_iadd (q := 1555) dL_law_1554 rfl ?_
  refine k_sld (q := 1556) dL_law_1555 rfl (by omega) (by omega) hN ?_
  refine k_aload_n (q := 1557) (i := 0) dL_law_1556 rfl rfl rfl ?_
  refine k_iload (q := 1559) dL_law_1557 rfl rfl ?_
  refine k_iconst (q := 1560) dL_law_1559 rfl ?_
  refine k_iadd (q := 1561) dL_law_1560 rfl ?_
  refine k_sld (q := 1562) dL_law_1561 rfl (by omega) (by omega) hN ?_
  refine k_VI (q := 1565) (vs := [_, _, _]) fE_fW hkc hks ok_X12_tried ml_L_167 dL_law_1562 rfl ⟨_, _, rfl⟩ rfl rfl rfl (Nat.le_of_ble_eq_true rfl) (by decide) hC (fun w2 σ2 z2 h2 => ?_)
  obtain ⟨rfl, hR2⟩ := h2
  rw [← iZ_of (iZ w2)]
  refine k_icmp_eq (q := 1568) (tgt := 1634) dL_law_1565 rfl (by decide) (fun c1565 => ?_) (fun c1565 => by exfalso; exact absurd rfl c1565) (hx := R32_of _) (hy := R32_of _)
  exact nx σ2 _ _ _ _ f hR2 fE_fW ((fW_out (Nat.le_of_ble_eq_true rfl)).trans ((fW_out (Nat.le_of_ble_eq_true rfl)).trans hf)) (by omega) (by omega)
set_option maxHeartbeats 1000000 in
theorem lc_33 {G : Gx} {nm : String} {b N : Nat} {xs : Nat → Int32} {i : Int} {σ : Sg} {E : Nat → va_E} {z kc ks : Nat} {f : Nat → Int64} (hN : N ≤ 3072) (h0 : 0 ≤ i) (hi : i + 6 ≤ N) (hR : Rel σ) (hE : fE G σ E) (hf : E 120 = .inl (G.2.2.1 1, 1, .inr (.inl f))) (hkc : kc ≤ 601024) (hks : ks ≤ 7293034) (nx : Nx G nm b N xs i kc ks) : K G room_1 (mLL nm) (fS G b N xs) lQ (121, E, z) kc ks 1570 [some (.ref b), some (.ref (G.2.2.2 + 0)), some (.ref (G.2.2.2 + 82)), some (.ref (G.2.2.2 + 120)), some (.int (iZ i)), none, none] [] := by
  refine k_aload_n (q := 1571) (i := 1) dL_law_1570 rfl rfl rfl ?_
  refine k_VI (q := 1574) (vs := []) hE hkc hks ok_X11_undo ml_L_168 dL_law_1571 rfl ⟨_, _, rfl⟩ rfl rfl rfl (Nat.le_of_ble_eq_true rfl) (by decide) (st_undo hR) (fun w1 σ1 z1 hC => ?_)
  refine k_aload_n (q := 1575) (i := 2) dL_law_1574 rfl rfl rfl ?_
  refine k_VI (q := 1578) (vs := []) fE_fW hkc hks ok_X12_undo ml_L_171 dL_law_1575 rfl ⟨_, _, rfl⟩ rfl rfl rfl (Nat.le_of_ble_eq_true rfl) (by decide) hC (fun w2 σ2 z2 h2 => ?_)
  obtain ⟨rfl, hR2⟩ := h2
  rw [← iZ_of (iZ w2)]
  refine k_icmp_eq (q := 1581) (tgt := 1634) dL_law_1578 rfl (by decide) (fun c1578 => ?_) (fun c1578 => by exfalso; exact absurd rfl c1578) (hx := R32_of _) (hy := R32_of _)
  exact nx σ2 _ _ _ _ f hR2 fE_fW ((fW_out (Nat.le_of_ble_eq_true rfl)).trans ((fW_out (Nat.le_of_ble_eq_true rfl)).trans hf)) (by omega) (by omega)
set_option maxHeartbeats 1000000 in
theorem lc_34 {G : Gx} {nm : String} {b N : Nat} {xs : Nat → Int32} {i : Int} {σ : Sg} {E : Nat → va_E} {z kc ks : Nat} {f : Nat → Int64} (hN : N ≤ 3072) (h0 : 0 ≤ i) (hi : i + 6 ≤ N) (hR : Rel σ) (hE : fE G σ E) (hf : E 120 = .inl (G.2.2.1 1, 1, .inr (.inl f))) (hkc : kc ≤ 601024) (hks : ks ≤ 7293034) (nx : Nx G nm b N xs i kc ks) : K G room_1 (mLL nm) (fS G b N xs) lQ (121, E, z) kc ks 1583 [some (.ref b), some (.ref (G.2.2.2 + 0)), some (.ref (G.2.2.2 + 82)), some (.ref (G.2.2.2 + 120)), some (.int (iZ i)), none, none] [] := by
  refine k_aload_n (q := 1584) (i := 1) dL_law_1583 rfl rfl rfl ?_
  refine k_VI (q := 1587) (vs := []) hE hkc hks ok_X11_keep ml_L_172 dL_law_1584 rfl ⟨_, _, rfl⟩ rfl rfl rfl (Nat.le_of_ble_eq_true rfl) (by decide) (st_keep hR) (fun w1 σ1 z1 hC => ?_)
  refine k_aload_n (q := 1588) (i := 2) dL_law_1587 rfl rfl rfl ?_
  refine k_VI (q := 1591) (vs := []) fE_fW hkc hks ok_X12_keep ml_L_175 dL_law_1588 rfl ⟨_, _, rfl⟩ rfl rfl rfl (Nat.le_of_ble_eq_true rfl) (by decide) hC (fun w2 σ2 z2 h2 => ?_)
  obtain ⟨rfl, hR2⟩ := h2
  rw [← iZ_of (iZ w2)]
  refine k_icmp_eq (q := 1594) (tgt := 1634) dL_law_1591 rfl (by decide) (fun c1591 => ?_) (fun c1591 => by exfalso; exact absurd rfl c1591) (hx := R32_of _) (hy := R32_of _)
  exact nx σ2 _ _ _ _ f hR2 fE_fW ((fW_out (Nat.le_of_ble_eq_true rfl)).trans ((fW_out (Nat.le_of_ble_eq_true rfl)).trans hf)) (by omega) (by omega)
set_option maxHeartbeats 1000000 in
theorem lc_35 {G : Gx} {nm : String} {b N : Nat} {xs : Nat → Int32} {i : Int} {σ : Sg} {E : Nat → va_E} {z kc ks : Nat} {f : Nat → Int64} (hN : N ≤ 3072) (h0 : 0 ≤ i) (hi : i + 6 ≤ N) (hR : Rel σ) (hE : fE G σ E) (hf : E 120 = .inl (G.2.2.1 1, 1, .inr (.inl f))) (hkc : kc ≤ 601024) (hks : ks ≤ 7293034) (nx : Nx G nm b N xs i kc ks) : K G room_1 (mLL nm) (fS G b N xs) lQ (121, E, z) kc ks 1596 [some (.ref b), some (.ref (G.2.2.2 + 0)), some (.ref (G.2.2.2 + 82)), some (.ref (G.2.2.2 + 120)), some (.int (iZ i)), none, none] [] := by
  refine k_aload_n (q := 1597) (i := 1) dL_law_1596 rfl rfl rfl ?_
  refine k_VI (q := 1600) (vs := []) hE hkc hks ok_X11_back ml_L_176 dL_law_1597 rfl ⟨_, _, rfl⟩ rfl rfl rfl (Nat.le_of_ble_eq_true rfl) (by decide) (st_back hR) (fun w1 σ1 z1 hC => ?_)
  refine k_aload_n (q := 1601) (i := 2) dL_law_1600 rfl rfl rfl ?_
  refine k_VI (q := 1604) (vs := []) fE_fW hkc hks ok_X12_back ml_L_179 dL_law_1601 rfl ⟨_, _, rfl⟩ rfl rfl rfl (Nat.le_of_ble_eq_true rfl) (by decide) hC (fun w2 σ2 z2 h2 => ?_)
  obtain ⟨rfl, hR2⟩ := h2
  rw [← iZ_of (iZ w2)]
  refine k_icmp_eq (q := 1607) (tgt := 1634) dL_law_1604 rfl (by decide) (fun c1604 => ?_) (fun c1604 => by exfalso; exact absurd rfl c1604) (hx := R32_of _) (hy := R32_of _)
  exact nx σ2 _ _ _ _ f hR2 fE_fW ((fW_out (Nat.le_of_ble_eq_true rfl)).trans ((fW_out (Nat.le_of_ble_eq_true rfl)).trans hf)) (by omega) (by omega)
set_option maxHeartbeats 1000000 in
theorem lc_36 {G : Gx} {nm : String} {b N : Nat} {xs : Nat → Int32} {i : Int} {σ : Sg} {E : Nat → va_E} {z kc ks : Nat} {f : Nat → Int64} (hN : N ≤ 3072) (h0 : 0 ≤ i) (hi : i + 6 ≤ N) (hR : Rel σ) (hE : fE G σ E) (hf : E 120 = .inl (G.2.2.1 1, 1, .inr (.inl f))) (hkc : kc ≤ 601024) (hks : ks ≤ 7293034) (nx : Nx G nm b N xs i kc ks) : K G room_1 (mLL nm) (fS G b N xs) lQ (121, E, z) kc ks 1609 [some (.ref b), some (.ref (G.2.2.2 + 0)), some (.ref (G.2.2.2 + 82)), some (.ref (G.2.2.2 + 120)), some (.int (iZ i)), none, none] [] := by
  refine k_aload_n (q := 1610) (i := 1) dL_law_1609 rfl rfl rfl ?_
  refine k_aload_n (q := 1611) (i := 0) dL_law_1610 rfl rfl rfl ?_
  refine k_iload (q := 1613) dL_law_1611 rfl rfl ?_
  refine k_iconst (q := 1614) dL_law_1613 rfl ?_
  refine k_iadd (q := 1615) dL_law_1614 rfl ?_
  refine k_sld (q := 1616) dL_law_1615 rfl (by omega) (by omega) hN ?_
  refine k_VI (q := 1619) (vs := [_]) hE hkc hks ok_X11_count ml_L_180 dL_law_1616 rfl ⟨_, _, rfl⟩ rfl rfl rfl (Nat.le_of_ble_eq_true rfl) (by decide) (st_count hR (sX_in _ _)) (fun w1 σ1 z1 hC => ?_)
  refine k_aload_n (q := 1620) (i := 2) dL_law_1619 rfl rfl rfl ?_
  refine k_aload_n (q := 1621) (i := 0) dL_law_1620 rfl rfl rfl ?_
  refine k_iload (q := 1623) dL_law_1621 rfl rfl ?_
  refine k_iconst (q := 1624) dL_law_1623 rfl ?_
  refine k_iadd (q := 1625) dL_law_1624 rfl ?_
  refine k_sld (q := 1626) dL_law_1625 rfl (by omega) (by omega) hN ?_
  refine k_VI (q := 1629) (vs := [_]) fE_fW hkc hks ok_X12_count ml_L_183 dL_law_1626 rfl ⟨_, _, rfl⟩ rfl rfl rfl (Nat.le_of_ble_eq_true rfl) (by decide) hC (fun w2 σ2 z2 h2 => ?_)
  obtain ⟨rfl, hR2⟩ := h2
  rw [← iZ_of (iZ w2)]
  refine k_icmp_eq (q := 1632) (tgt := 1634) dL_law_1629 rfl (by decide) (fun c1629 => ?_) (fun c1629 => by exfalso; exact absurd rfl c1629) (hx := R32_of _) (hy := R32_of _)
  exact nx σ2 _ _ _ _ f hR2 fE_fW ((fW_out (Nat.le_of_ble_eq_true rfl)).trans ((fW_out (Nat.le_of_ble_eq_true rfl)).trans hf)) (by omega) (by omega)
