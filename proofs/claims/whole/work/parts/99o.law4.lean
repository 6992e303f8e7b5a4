set_option maxHeartbeats 2000000 in
theorem lc_4 {G : Gx} {nm : String} {b N : Nat} {xs : Nat → Int32} {i : Int} {σ : Sg} {E : Nat → va_E} {z kc ks : Nat} {f : Nat → Int64} (hlt : G.1.stackTraces = false) (hN : N ≤ 3072) (h0 : 0 ≤ i) (hi : i + 6 ≤ N) (hR : Rel σ) (hE : fE G σ E) (hf : E 120 = .inl (G.2.2.1 1, 1, .inr (.inl f))) (hkc : kc ≤ 601000) (hks : ks ≤ 7293000) (nx : Nx G nm b N xs i kc ks) : K G room_1 (mLL nm) (fS G b N xs) lQ (121, E, z) kc ks 364 [some (.ref b), some (.ref (G.2.2.2 + 0)), some (.ref (G.2.2.2 + 82)), some (.ref (G.2.2.2 + 120)), some (.int (iZ i)), none, none] [] := by
  refine k_aload_n (q := 365) (i := 1) dL_law_364 rfl rfl rfl ?_
  refine k_aload_n (q := 366) (i := 0) dL_law_365 rfl rfl rfl ?_
  refine k_iload (q := 368) dL_law_366 rfl rfl ?_
  refine k_iconst (q := 369) dL_law_368 rfl ?_
  refine k_iadd (q := 370) dL_law_369 rfl ?_
  refine k_sld (q := 371) dL_law_370 rfl (by omega) (by omega) hN ?_
  refine k_aload_n (q := 372) (i := 0) dL_law_371 rfl rfl rfl ?_
  refine k_iload (q := 374) dL_law_372 rfl rfl ?_
  refine k_iconst (q := 375) dL_law_374 rfl ?_
  refine k_iadd (q := 376) dL_law_375 rfl ?_
  refine k_sld (q := 377) dL_law_376 rfl (by omega) (by omega) hN ?_
  refine k_aload_n (q := 378) (i := 3) dL_law_377 rfl rfl rfl ?_
  refine k_lpar (q := 381) hlt hE hf hR.ti hR.li (sX_in _ _) (sX_in _ _) dL_law_378 rfl (Nat.le_of_ble_eq_true rfl) (by omega) (by omega) (fun r ω' h => ?_)
  obtain ⟨z1, f1, rfl, hcs⟩ := h
  obtain ⟨t, rfl, htt, hcs⟩ : ∃ t : Int, r = some (.int (iZ t)) ∧ (0 ≤ t ∧ t ≤ 2) ∧ ((¬ (0 ≤ sX xs (i + 1) ∧ sX xs (i + 1) < σ.1 2 2) ∧ t = 1) ∨ ((0 ≤ sX xs (i + 1) ∧ sX xs (i + 1) < σ.1 2 2) ∧ ¬ (0 ≤ sX xs (i + 2) ∧ sX xs (i + 2) ≤ 7) ∧ t = 2) ∨ ((0 ≤ sX xs (i + 1) ∧ sX xs (i + 1) < σ.1 2 2) ∧ (0 ≤ sX xs (i + 2) ∧ sX xs (i + 2) ≤ 7) ∧ t = 0 ∧ f1 0 = lZ ((iZ (paA σ (sX xs (i + 1)) (sX xs (i + 2)))).toInt))) := by
    rcases hcs with ⟨a, e⟩ | ⟨a, c, e⟩ | ⟨a, c, e, g⟩
    · exact ⟨1, e, ⟨by decide, by decide⟩, Or.inl ⟨a, rfl⟩⟩
    · exact ⟨2, e, ⟨by decide, by decide⟩, Or.inr (Or.inl ⟨a, c, rfl⟩)⟩
    · exact ⟨0, e, ⟨by decide, by decide⟩, Or.inr (Or.inr ⟨a, c, rfl, g⟩)⟩
  refine k_istore (q := 383) (L' := [_, _, _, _, _, _, _]) dL_law_381 rfl (Nat.le_of_ble_eq_true rfl) rfl rfl ?_
  refine k_aload_n (q := 384) (i := 2) dL_law_383 rfl rfl rfl ?_
  refine k_aload_n (q := 385) (i := 0) dL_law_384 rfl rfl rfl ?_
  refine k_iload (q := 387) dL_law_385 rfl rfl ?_
  refine k_iconst (q := 388) dL_law_387 rfl ?_
  refine k_iadd (q := 389) dL_law_388 rfl ?_
  refine k_sld (q := 390) dL_law_389 rfl (by omega) (by omega) hN ?_
  refine k_aload_n (q := 391) (i := 0) dL_law_390 rfl rfl rfl ?_
  refine k_iload (q := 393) dL_law_391 rfl rfl ?_
  refine k_iconst (q := 394) dL_law_393 rfl ?_
  refine k_iadd (q := 395) dL_law_394 rfl ?_
  refine k_sld (q := 396) dL_law_395 rfl (by omega) (by omega) hN ?_
  refine k_VI (q := 399) (vs := [_, _]) (fE_oE hE) (by omega) (by omega) ok_X12_parish ml_L_44 dL_law_396 rfl ⟨_, _, rfl⟩ rfl rfl rfl (Nat.le_of_ble_eq_true rfl) (by decide) (c_par hR (sX_in _ _) (sX_in _ _)) (fun w2 σ2 z2 h2 => ?_)
  obtain ⟨hR2, hm⟩ := h2
  refine k_istore (q := 401) (L' := [_, _, _, _, _, _, _]) dL_law_399 rfl (Nat.le_of_ble_eq_true rfl) rfl rfl ?_
  refine k_aload_n (q := 402) (i := 2) dL_law_401 rfl rfl rfl ?_
  refine k_VI (q := 405) (vs := []) fE_fW (by omega) (by omega) ok_X12_thrown ml_L_45 dL_law_402 rfl ⟨_, _, rfl⟩ rfl rfl rfl (Nat.le_of_ble_eq_true rfl) (by decide) c_X12_thrown (fun w3 σ3 z3 h3 => ?_)
  obtain ⟨e3, e4⟩ := h3
  rw [e3, e4]
  have het : σ2.1 82 0 = t ∧ (t = 0 → w2 = paA σ (sX xs (i + 1)) (sX xs (i + 2)) ∧ f1 0 = lZ ((iZ (paA σ (sX xs (i + 1)) (sX xs (i + 2)))).toInt)) := by
    rcases hcs with ⟨a, e⟩ | ⟨a, c, e⟩ | ⟨a, c, e, g⟩ <;> rcases hm with ⟨a2, e2⟩ | ⟨a2, c2, e2⟩ | ⟨a2, c2, e2, g2⟩ <;> first | exact absurd a2 a | exact absurd a a2 | exact absurd c2 c | exact absurd c c2 | exact ⟨by omega, fun q => by omega⟩ | exact ⟨by omega, fun _ => ⟨g2, g⟩⟩
  refine k_iload (q := 407) dL_law_405 rfl rfl ?_
  rw [het.1]
  refine k_icmp_eq (q := 410) (tgt := 412) dL_law_407 rfl (by decide) (fun c407 => ?_) (fun c407 => absurd rfl c407) (hx := ⟨by omega, by omega⟩) (hy := ⟨by omega, by omega⟩)
  refine k_iload (q := 414) dL_law_412 rfl rfl ?_
  have hl : lay.length ≤ 120 := Nat.le_of_ble_eq_true rfl
  have e120 : fW G σ2 (fW G σ2 (oE G E f1)) 120 = .inl (G.2.2.1 1, 1, .inr (.inl f1)) := by
    rw [fW_out hl, fW_out hl]
    unfold oE
    exact upE_eq
  have fin : ∀ z9, K G room_1 (mLL nm) (fS G b N xs) lQ (121, fW G σ2 (fW G σ2 (oE G E f1)), z9) (kc + 1) (ks + 6) 429 [some (.ref b), some (.ref (G.2.2.2 + 0)), some (.ref (G.2.2.2 + 82)), some (.ref (G.2.2.2 + 120)), some (.int (iZ i)), some (.int (iZ t)), some (.int (iZ w2))] [] := by
    intro z9
    refine k_goto (tgt := 1634) dL_law_429 (by decide) ?_
    exact k_sub _ (fun i v h => by rcases i with _ | _ | _ | _ | _ | _ | _ | i <;> first | exact h | cases h) (nx σ2 _ z9 _ _ f1 hR2 fE_fW e120 (Nat.le_refl _) (Nat.le_refl _))
  refine k_if_ne (q := 417) (tgt := 429) dL_law_414 rfl (by decide) (fun c414 => fin _) (fun c414 => ?_) (hx := ⟨by omega, by omega⟩)
  obtain ⟨ew, ef⟩ := het.2 c414
  refine k_aload_n (q := 418) (i := 3) dL_law_417 rfl rfl rfl ?_
  refine k_iconst (q := 419) dL_law_418 rfl ?_
  refine k_lald (q := 420) (f := f1) dL_law_419 rfl (by decide) e120 (by decide) (by decide) (by decide) ?_
  rw [show (0 : Int).toNat = 0 from rfl, ef]
  refine k_iload (q := 422) dL_law_420 rfl rfl ?_
  have fin2 := fin
  rw [ew] at fin2 ⊢
  have ei := iZ_of (iZ (paA σ (sX xs (i + 1)) (sX xs (i + 2))))
  generalize hv : (iZ (paA σ (sX xs (i + 1)) (sX xs (i + 2)))).toInt = v9 at *
  rw [← ei] at fin2 ⊢
  have hv9 : R32 v9 := hv ▸ R32_of _
  refine k_i2l (q := 423) dL_law_422 rfl hv9 ?_
  refine k_lcmp (q := 424) dL_law_423 rfl ⟨by omega, by omega⟩ ⟨by omega, by omega⟩ ?_
  rw [if_neg (Int.lt_irrefl _), if_pos rfl]
  refine k_if_eq (q := 427) (tgt := 429) dL_law_424 rfl (by decide) (fun c424 => fin2 _) (fun c424 => absurd rfl c424)
