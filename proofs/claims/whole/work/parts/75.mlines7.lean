set_option maxHeartbeats 16000000 in
theorem jl_cake {G : Gx} {σ s : Sg} {δ : Dl} {R0 : Rs} {Pq : Sg → Prop} {w : Int} {t : Tk} {r : List Tk} (K : LnK G σ w R0 Pq) (hF : MFr σ s) (hC : MK s (t :: r)) (hf : s.1 82 26 = 0) (hD : MD0 s δ) (hO : DOk δ) (hB : MDb (s.1 82 19) δ) (hR0 : R0 = lCake δ (t :: r)) : J G 151 mX12_line (pV Pq) s 335 [some (.ref (G.2.2.2 + 82)), some (.int (iZ w)), none, none, none, none] [] := by
  obtain ⟨⟨b1, b2, b3, b4, b5, b6, b7, b8, b9⟩, hb, hbk, hbc, hbb, hbl, hKR⟩ := id hD
  obtain ⟨o0, o1, o2, o3, o4, o5, o6, o7, o8, o9, oc, ob, ok, og, ou, ow, ox, ot, oz, oy⟩ := id hO
  have hR85 : ∀ i, 0 ≤ i → i < δ 23 2 → R32 (s.1 85 (4 + i)) := fun i a b => by rw [(hb i a b).1]; exact (o8 i a (by omega)).2.2.2.2
  have f406 : ∀ (τ : Sg) (e : Int × Int) (p q : Int), 0 ≤ p → p ≤ 3 → 0 ≤ q → q ≤ 3 → R0 = .inl e → FM σ τ e → J G 151 mX12_line (pV Pq) τ 406 [some (.ref (G.2.2.2 + 82)), some (.int (iZ w)), none, none, some (.int (iZ p)), some (.int (iZ q))] [] := by
    intro τ e p q p0 p1 q0 q1 hR hE
    refine e_aload_n (q := 407) (i := 0) dX12_line_406 rfl rfl rfl ?_
    refine e_getR (q := 410) dX12_line_407 rfl fg_X12_25 (by first | assumption | rfl) rfl ?_
    refine e_iconst (q := 411) dX12_line_410 rfl ?_
    refine e_iconst (q := 412) dX12_line_411 rfl ?_
    refine e_iload (q := 414) dX12_line_412 rfl rfl ?_
    refine e_iadd (q := 415) dX12_line_414 rfl ?_
    refine e_imul (q := 416) dX12_line_415 rfl ?_
    refine e_iload (q := 418) dX12_line_416 rfl rfl ?_
    refine e_iadd (q := 419) dX12_line_418 rfl ?_
    refine e_aload_n (q := 420) (i := 0) dX12_line_419 rfl rfl rfl ?_
    refine e_iconst (q := 421) dX12_line_420 rfl ?_
    refine e_bipush (q := 423) dX12_line_421 rfl (by decide) ?_
    refine e_Vip (q := 426) (vs := [_, _]) ok_X12_numeral ml_X12_222 dX12_line_423 rfl ⟨_, _, rfl⟩ (by first | assumption | rfl) rfl rfl (Nat.le_of_ble_eq_true rfl) (by decide) (c_mnum1 hE.rf hE.ne) ?_
    refine e_iast (q := 427) dX12_line_426 rfl (by first | assumption | rfl) ?_ (by omega) (by omega)
    refine e_goto (tgt := 464) dX12_line_427 (by decide) ?_
    exact K _ _ _ _ _ (by rw [hR]; exact Or.inl (hE.si (k := 88) (by decide) (by decide) (by show (16 : Int) ≤ _; omega) _))
  have f398 : ∀ (τ : Sg) (e : Int × Int) (p : Int), 0 ≤ p → p ≤ 3 → R0 = .inl e → FM σ τ e → J G 151 mX12_line (pV Pq) τ 398 [some (.ref (G.2.2.2 + 82)), some (.int (iZ w)), none, none, some (.int (iZ p)), none] [] := by
    intro τ e p p0 p1 hR hE
    refine e_aload_n (q := 399) (i := 0) dX12_line_398 rfl rfl rfl ?_
    refine e_iconst (q := 400) dX12_line_399 rfl ?_
    refine e_iconst (q := 401) dX12_line_400 rfl ?_
    refine e_Vip (q := 404) (vs := [_, _]) ok_X12_numeral ml_X12_222 dX12_line_401 rfl ⟨_, _, rfl⟩ (by first | assumption | rfl) rfl rfl (Nat.le_of_ble_eq_true rfl) (by decide) (c_mnum1 hE.rf hE.ne) ?_
    refine e_istore (q := 406) (L' := [_, _, _, _, _, _]) dX12_line_404 rfl (by decide) rfl rfl ?_
    exact f406 τ e p 0 p0 p1 (by decide) (by decide) hR hE
  refine e_aload_n (q := 336) (i := 0) dX12_line_335 rfl rfl rfl ?_
  refine e_aload_n (q := 337) (i := 0) dX12_line_336 rfl rfl rfl ?_
  refine e_getR (q := 340) dX12_line_337 rfl fg_X12_16 (by first | assumption | rfl) rfl ?_
  refine e_iconst (q := 341) dX12_line_340 rfl ?_
  refine e_aload_n (q := 342) (i := 0) dX12_line_341 rfl rfl rfl ?_
  refine e_iconst (q := 343) dX12_line_342 rfl ?_
  refine e_Vip (q := 346) (vs := [_]) ok_X12_fresher ml_X12_209 dX12_line_343 rfl ⟨_, _, rfl⟩ (by first | assumption | rfl) rfl rfl (Nat.le_of_ble_eq_true rfl) (by decide) (c_X12_fresher (by decide) (by decide)) ?_
  rw [show s.1 84 (7 + 1) = δ 23 2 from b2]
  refine e_Vi (q := 349) (vs := [_, _, _]) ok_X12_toldAhead ml_X12_237 dX12_line_346 rfl ⟨_, _, rfl⟩ (by first | assumption | rfl) rfl rfl (Nat.le_of_ble_eq_true rfl) (by decide) (c_mtold0 (k := 85) (mN := 8) (a := 4) (m := δ 23 2) rfl (by decide) (by decide) (by omega) (by omega) hR85 hC hf) (fun z1 s1 h1 => ?_)
  refine e_istore (q := 351) (L' := [_, _, _, _, _, _]) dX12_line_349 rfl (by decide) rfl rfl ?_
  rw [pTold_cg (g := δ 26) (by omega) (fun i a b => (hb i a b).1)] at h1
  cases hr1 : pTold (δ 26) (δ 23 2) (t :: r) with
  | inl e =>
    rw [hr1] at h1
    have hE := FM.mn hF h1
    have z0 : z1 = 0 := h1.1
    subst z0
    refine e_aload_n (q := 352) (i := 0) dX12_line_351 rfl rfl rfl ?_
    refine e_getI (q := 355) (jz := 26) dX12_line_352 rfl fg_X12_190 rfl (by first | assumption | rfl) rfl ?_
    refine e_if_ne (q := 358) (tgt := 398) dX12_line_355 rfl (by decide) (fun c355 => ?_) (fun c355 => by exfalso; exact hE.ne c355) (hx := hE.rf)
    exact f398 _ e 0 (by decide) (by decide) (by rw [hR0]; unfold lCake; rw [hr1]; rfl) hE
  | inr q1 =>
    obtain ⟨v1, r1⟩ := q1
    have ok1 := pTold_ok o2.1 hr1
    rw [hr1] at h1
    obtain ⟨e1, F1, k1⟩ := h1
    have e1 : z1 = v1 := e1
    have k1 : MK s1 r1 := k1
    subst e1
    obtain ⟨t1, u1, et1⟩ := k1.ne
    subst et1
    have hR1 : R0 = bnd (pNum 0 3 (t1 :: u1)) (fun w r => if δ 33 (4 * z1 + w) ≠ 0 then .inl (3, hpl (t1 :: u1)) else bnd (pNum 1 9 r) (fun v r => .inr (u2 δ 33 (4 * z1 + w) v, r))) := by rw [hR0]; unfold lCake; rw [hr1, bnd_r]
    have p1 : s1.1 82 26 = 0 := by rw [F1.2 26 (by decide)]; exact hf
    have G1 : MFr σ s1 := hF.tr (MFr.fm F1 (by decide))
    obtain ⟨m1, m2, m3, m4⟩ := k1.hd
    have ms := m2.s m3.1 m3.2
    have mk := m2.k m3.1 m3.2
    have mv := m2.2.2.2.2.2.2
    have g398 : (t1.1 = 22 → t1.2.2 < 4 → δ 33 (4 * z1 + t1.2.2) = 0) → J G 151 mX12_line (pV Pq) s1 398 [some (.ref (G.2.2.2 + 82)), some (.int (iZ w)), none, none, some (.int (iZ z1)), none] [] := by
      intro hno
      refine e_aload_n (q := 399) (i := 0) dX12_line_398 rfl rfl rfl ?_
      refine e_iconst (q := 400) dX12_line_399 rfl ?_
      refine e_iconst (q := 401) dX12_line_400 rfl ?_
      refine e_Vi (q := 404) (vs := [_, _]) ok_X12_numeral ml_X12_222 dX12_line_401 rfl ⟨_, _, rfl⟩ (by first | assumption | rfl) rfl rfl (Nat.le_of_ble_eq_true rfl) (by decide) (c_mnum0 (lo := 0) (hi := 3) k1 p1 (by decide) (by decide) (by decide) (by decide)) (fun z2 s2 h2 => ?_)
      refine e_istore (q := 406) (L' := [_, _, _, _, _, _]) dX12_line_404 rfl (by decide) rfl rfl ?_
      cases hr2 : pNum 0 3 (t1 :: u1) with
      | inl e =>
        rw [hr2] at h2
        have hE := FM.mn G1 h2
        have z0 : z2 = 0 := h2.1
        subst z0
        exact f406 _ e z1 0 (by omega) (by omega) (by decide) (by decide) (by rw [hR1, hr2]; rfl) hE
      | inr q2 =>
        obtain ⟨v2, r2⟩ := q2
        have ok2 := pNum_ok hr2
        rw [hr2] at h2
        obtain ⟨e2, F2, k2⟩ := h2
        have e2 : z2 = v2 := e2
        have k2 : MK s2 r2 := k2
        subst e2
        obtain ⟨t2, u2', et2⟩ := k2.ne
        subst et2
        have hc0 : δ 33 (4 * z1 + z2) = 0 := by
          obtain ⟨-, -, tt, et, ht⟩ := ok2
          cases et
          simp only [pNum] at hr2
          by_cases w22 : t1.1 ≠ 22
          · rw [if_pos w22] at hr2; cases hr2
          rw [if_neg w22] at hr2
          by_cases w23 : t1.2.2 < 0 ∨ 3 < t1.2.2
          · rw [if_pos w23] at hr2; cases hr2
          rw [if_neg w23] at hr2
          cases hr2
          exact hno (by omega) (by omega)
        have hR2 : R0 = bnd (pNum 1 9 (t2 :: u2')) (fun v r => .inr (u2 δ 33 (4 * z1 + z2) v, r)) := by rw [hR1, hr2, bnd_r, if_neg (fun q => q hc0)]
        have p2 : s2.1 82 26 = 0 := by rw [F2.2 26 (by decide)]; exact p1
        have G2 : MFr σ s2 := G1.tr (MFr.fm F2 (by decide))
        refine e_aload_n (q := 407) (i := 0) dX12_line_406 rfl rfl rfl ?_
        refine e_getR (q := 410) dX12_line_407 rfl fg_X12_25 (by first | assumption | rfl) rfl ?_
        refine e_iconst (q := 411) dX12_line_410 rfl ?_
        refine e_iconst (q := 412) dX12_line_411 rfl ?_
        refine e_iload (q := 414) dX12_line_412 rfl rfl ?_
        refine e_iadd (q := 415) dX12_line_414 rfl ?_
        refine e_imul (q := 416) dX12_line_415 rfl ?_
        refine e_iload (q := 418) dX12_line_416 rfl rfl ?_
        refine e_iadd (q := 419) dX12_line_418 rfl ?_
        refine e_aload_n (q := 420) (i := 0) dX12_line_419 rfl rfl rfl ?_
        refine e_iconst (q := 421) dX12_line_420 rfl ?_
        refine e_bipush (q := 423) dX12_line_421 rfl (by decide) ?_
        refine e_Vi (q := 426) (vs := [_, _]) ok_X12_numeral ml_X12_222 dX12_line_423 rfl ⟨_, _, rfl⟩ (by first | assumption | rfl) rfl rfl (Nat.le_of_ble_eq_true rfl) (by decide) (c_mnum0 (lo := 1) (hi := 9) k2 p2 (by decide) (by decide) (by decide) (by decide)) (fun z3 s3 h3 => ?_)
        refine e_iast (q := 427) dX12_line_426 rfl (by first | assumption | rfl) ?_ (by omega) (by omega)
        refine e_goto (tgt := 464) dX12_line_427 (by decide) ?_
        refine K _ _ _ _ _ ?_
        rw [hR2]
        cases hr3 : pNum 1 9 (t2 :: u2') with
        | inl e =>
          rw [hr3] at h3
          exact Or.inl ((FM.mn G2 h3).si (k := 88) (by decide) (by decide) (by show (16 : Int) ≤ _; omega) _)
        | inr q3 =>
          obtain ⟨v3, r3⟩ := q3
          rw [hr3] at h3
          obtain ⟨e3, F3, k3⟩ := h3
          have e3 : z3 = v3 := e3
          have k3 : MK s3 r3 := k3
          subst e3
          refine ⟨?_, (G2.tr (MFr.fm F3 (by decide))).si (k := 88) (by decide) (by decide) (by show (16 : Int) ≤ _; omega) _, k3.cg rfl (fun j _ _ => by rw [sI_ne _ (by decide)]), ?_, ?_⟩
          · rw [sI_ne _ (by decide), F3.2 26 (by decide)]; exact p2
          · refine MD_cake hD ?_ ?_ ?_
            · rw [sI_uf, F3.c (a := 88) (by decide), F2.c (a := 88) (by decide), F1.c (a := 88) (by decide), show 4 * (4 + z1) + z2 = 16 + (4 * z1 + z2) by omega]
            · intro c hc
              rw [sI_ne _ (by omega), F3.c (a := c) (by simp only [List.mem_cons, List.not_mem_nil, or_false]; omega), F2.c (a := c) (by simp only [List.mem_cons, List.not_mem_nil, or_false]; omega), F1.c (a := c) (by simp only [List.mem_cons, List.not_mem_nil, or_false]; omega)]
            · intro j hj
              have hj' : j ∉ ([22, 23, 24, 25] : List Int) := by
                simp only [List.mem_cons, List.not_mem_nil, or_false] at hj ⊢
                omega
              rw [sI_ne _ (by decide), F3.2 j hj', F2.2 j hj', F1.2 j hj']
          · rw [sI_ne _ (by decide), F3.2 19 (by decide), F2.2 19 (by decide), F1.2 19 (by decide)]; exact hB.cg rfl rfl rfl
    refine e_aload_n (q := 352) (i := 0) dX12_line_351 rfl rfl rfl ?_
    refine e_getI (q := 355) (jz := 26) dX12_line_352 rfl fg_X12_190 rfl (by first | assumption | rfl) rfl ?_
    rw [p1]
    refine e_if_ne (q := 358) (tgt := 398) dX12_line_355 rfl (by decide) (fun c355 => by exfalso; omega) (fun c355 => ?_)
    refine e_aload_n (q := 359) (i := 0) dX12_line_358 rfl rfl rfl ?_
    refine e_getI (q := 362) (jz := 24) dX12_line_359 rfl fg_X12_155 rfl (by first | assumption | rfl) rfl ?_
    refine e_iconst (q := 363) dX12_line_362 rfl ?_
    refine e_icmp_ne (q := 366) (tgt := 398) dX12_line_363 rfl (by decide) (fun c363 => ?_) (fun c363 => ?_) (hx := ⟨by omega, by omega⟩)
    · exact g398 (fun q _ => absurd (mk.2.2.1.2 q) c363)
    · refine e_aload_n (q := 367) (i := 0) dX12_line_366 rfl rfl rfl ?_
      refine e_getI (q := 370) (jz := 25) dX12_line_367 rfl fg_X12_165 rfl (by first | assumption | rfl) rfl ?_
      refine e_iconst (q := 371) dX12_line_370 rfl ?_
      refine e_icmp_ge (q := 374) (tgt := 398) dX12_line_371 rfl (by decide) (fun c371 => ?_) (fun c371 => ?_) (hx := mv)
      · exact g398 (fun q q4 => by exfalso; have := (m2.2.2.1 q).2.2; omega)
      · have q22 : t1.1 = 22 := mk.2.2.1.1 (by omega)
        have hvv := (m2.2.2.1 q22).2
        have hv : s1.1 82 25 = t1.2.2 := by omega
        have hck : s1.1 88 (4 * (4 + z1) + s1.1 82 25) = δ 33 (4 * z1 + t1.2.2) := by
          rw [F1.c (a := 88) (by decide), hv, ← hbk (4 * z1 + t1.2.2) (by omega) (by omega), show 4 * (4 + z1) + t1.2.2 = 16 + (4 * z1 + t1.2.2) by omega]
        have hk9 := ok (4 * z1 + t1.2.2) (by omega) (by omega)
        have hpn : pNum 0 3 (t1 :: u1) = .inr (t1.2.2, u1) := by
          simp only [pNum]
          rw [if_neg (fun q => q q22), if_neg (by omega)]
        refine e_aload_n (q := 375) (i := 0) dX12_line_374 rfl rfl rfl ?_
        refine e_getR (q := 378) dX12_line_375 rfl fg_X12_25 (by first | assumption | rfl) rfl ?_
        refine e_iconst (q := 379) dX12_line_378 rfl ?_
        refine e_iconst (q := 380) dX12_line_379 rfl ?_
        refine e_iload (q := 382) dX12_line_380 rfl rfl ?_
        refine e_iadd (q := 383) dX12_line_382 rfl ?_
        refine e_imul (q := 384) dX12_line_383 rfl ?_
        refine e_aload_n (q := 385) (i := 0) dX12_line_384 rfl rfl rfl ?_
        refine e_getI (q := 388) (jz := 25) dX12_line_385 rfl fg_X12_165 rfl (by first | assumption | rfl) rfl ?_
        refine e_iadd (q := 389) dX12_line_388 rfl ?_
        refine e_iald (q := 390) dX12_line_389 rfl (by first | assumption | rfl) ?_ (by omega) (by omega)
        rw [hck]
        refine e_if_le (q := 393) (tgt := 398) dX12_line_390 rfl (by decide) (fun c390 => ?_) (fun c390 => ?_) (hx := ⟨by omega, by omega⟩)
        · exact g398 (fun q q4 => by omega)
        · refine e_aload_n (q := 394) (i := 0) dX12_line_393 rfl rfl rfl ?_
          refine e_iconst (q := 395) dX12_line_394 rfl ?_
          refine e_Vv (q := 398) (vs := [_]) ok_X12_wrong ml_X12_199 dX12_line_395 rfl ⟨_, _, rfl⟩ (by first | assumption | rfl) rfl rfl (Nat.le_of_ble_eq_true rfl) (by decide) (c_mwrong0 p1) (fun s95 h95 => ?_)
          subst h95
          exact f398 (wr s1 3) (3, s1.1 82 23) z1 (by omega) (by omega) (by rw [hR1, hpn, bnd_r, if_pos (by omega), m1]; rfl) (FM.wr G1 (by decide))
set_option maxHeartbeats 16000000 in
theorem jl_par {G : Gx} {σ s : Sg} {δ : Dl} {R0 : Rs} {Pq : Sg → Prop} {w : Int} {t : Tk} {r : List Tk} (K : LnK G σ w R0 Pq) (hF : MFr σ s) (hC : MK s (t :: r)) (hf : s.1 82 26 = 0) (hD : MD0 s δ) (hO : DOk δ) (h4 : ¬ 4 ≤ δ 23 2) (hB : MDb (s.1 82 19) δ) (hR0 : R0 = bPar δ (t :: r)) : J G 151 mX12_line (pV Pq) s 167 [some (.ref (G.2.2.2 + 82)), some (.int (iZ w)), none, none, none, none] [] := by
  refine e_aload_n (q := 168) (i := 0) dX12_line_167 rfl rfl rfl ?_
  refine e_Vv (q := 171) (vs := []) ok_X12_parishLine ml_X12_230 dX12_line_168 rfl ⟨_, _, rfl⟩ (by first | assumption | rfl) rfl rfl (Nat.le_of_ble_eq_true rfl) (by decide) (c_X12_parishLine hC hf hD hO h4) (fun s1 h1 => ?_)
  refine e_goto (tgt := 464) dX12_line_171 (by decide) ?_
  exact K _ _ _ _ _ (by rw [hR0]; exact MLR.w hF h1 (fun q hq => by obtain ⟨a1, a2, a3⟩ := bPar_b hq; exact hB.cg a1 a2 a3))
set_option maxHeartbeats 16000000 in
theorem jl_law {G : Gx} {σ s : Sg} {δ : Dl} {R0 : Rs} {Pq : Sg → Prop} {w : Int} {t : Tk} {r : List Tk} (K : LnK G σ w R0 Pq) (hF : MFr σ s) (hC : MK s (t :: r)) (hf : s.1 82 26 = 0) (hD : MD0 s δ) (hO : DOk δ) (hB : MDb (s.1 82 19) δ) (hG : ∀ x ∈ t :: r, tkG x) (hR0 : R0 = lLaw δ (t :: r)) : J G 151 mX12_line (pV Pq) s 460 [some (.ref (G.2.2.2 + 82)), some (.int (iZ w)), none, none, none, none] [] := by
  refine e_aload_n (q := 461) (i := 0) dX12_line_460 rfl rfl rfl ?_
  refine e_Vv (q := 464) (vs := []) ok_X12_lawLine ml_X12_240 dX12_line_461 rfl ⟨_, _, rfl⟩ (by first | assumption | rfl) rfl rfl (Nat.le_of_ble_eq_true rfl) (by decide) (c_X12_lawLine hC hf hD hB hO hG) (fun s1 h1 => ?_)
  exact K _ _ _ _ _ (by rw [hR0]; exact MLW.tr hF h1)
/-- a line with its end -/
noncomputable def lLE (δ : Dl) (ts : List Tk) : Rs := match lLine δ ts with
  | .inl e => .inl e
  | .inr q => lEnds q.1 q.2
def MLT (σ σ' : Sg) (R : Rs) : Prop := match R with
  | .inl e => FM σ σ' e
  | .inr q => σ'.1 82 26 = 0 ∧ MFr σ σ' ∧ MK σ' q.2 ∧ MD σ' q.1
theorem MD_line {σ : Sg} {δ : Dl} (h : MD0 σ δ) (v : Int) : MD0 (sI σ 82 20 v) (u2 δ 23 1 v) := by
  obtain ⟨⟨a1, a2, a3, a4, a5, a6, a7, a8, a9⟩, b, c, d, e, f, g⟩ := h
  unfold MD0 KR mKU mCU
  simp only [sI_ne σ (show (84 : Nat) ≠ 82 by decide), sI_ne σ (show (85 : Nat) ≠ 82 by decide), sI_ne σ (show (86 : Nat) ≠ 82 by decide), sI_ne σ (show (87 : Nat) ≠ 82 by decide), sI_ne σ (show (88 : Nat) ≠ 82 by decide), sI_ne σ (show (89 : Nat) ≠ 82 by decide), sI_ne σ (show (90 : Nat) ≠ 82 by decide), sI_ne σ (show (91 : Nat) ≠ 82 by decide), sI_ne σ (show (92 : Nat) ≠ 82 by decide), sI_ne σ (show (93 : Nat) ≠ 82 by decide), sI_ne σ (show (94 : Nat) ≠ 82 by decide), sI_ne σ (show (95 : Nat) ≠ 82 by decide), sI_ne σ (show (96 : Nat) ≠ 82 by decide), sI_ne σ (show (97 : Nat) ≠ 82 by decide), sI_ne σ (show (98 : Nat) ≠ 82 by decide), sI_ne σ (show (99 : Nat) ≠ 82 by decide), u2_ne δ (show (24 : Nat) ≠ 23 by decide), u2_ne δ (show (25 : Nat) ≠ 23 by decide), u2_ne δ (show (26 : Nat) ≠ 23 by decide), u2_ne δ (show (27 : Nat) ≠ 23 by decide), u2_ne δ (show (28 : Nat) ≠ 23 by decide), u2_ne δ (show (29 : Nat) ≠ 23 by decide), u2_ne δ (show (30 : Nat) ≠ 23 by decide), u2_ne δ (show (31 : Nat) ≠ 23 by decide), u2_ne δ (show (32 : Nat) ≠ 23 by decide), u2_ne δ (show (33 : Nat) ≠ 23 by decide), u2_ne δ (show (34 : Nat) ≠ 23 by decide), u2_ne δ (show (35 : Nat) ≠ 23 by decide), u2_ne δ (show (36 : Nat) ≠ 23 by decide), u2_ne δ (show (37 : Nat) ≠ 23 by decide)]
  exact ⟨⟨a1, a2, a3, a4, a5, a6, rfl, a8, a9⟩, b, c, d, e, f, g⟩

set_option maxHeartbeats 32000000 in
theorem c_X12_line {G : Gx} {σ : Sg} {t : Tk} {r : List Tk} {δ : Dl} (hC : MK σ (t :: r)) (hf : σ.1 82 26 = 0) (hD : MD0 σ δ) (hB : MDb (σ.1 82 19) δ) (hO : DOk δ) (hG : ∀ x ∈ t :: r, tkG x) : Con G 151 mX12_line [.ref (G.2.2.2 + 82)] σ (pV (fun σ' => MLT σ σ' (lLE δ (t :: r)))) := by
  refine e_entry om_X12_line (Nat.le_of_ble_eq_true rfl) (L := [some (.ref (G.2.2.2 + 82)), none, none, none, none, none]) rfl ?_
  obtain ⟨m1, m2, m3, m4⟩ := hC.hd
  have ms := m2.s m3.1 m3.2
  have mk := m2.k m3.1 m3.2
  have hv := m2.2.2.2.2.2.2
  obtain ⟨⟨b1, b2, b3, b4, b5, b6, b7, b8, b9⟩, -⟩ := id hD
  obtain ⟨o0, o1, o2, o3, o4, o5, o6, o7, o8, o9, oc, ob, ok, og, ou, ow, ox, ot, oz, oy⟩ := id hO
  obtain ⟨hT, hB5, hB6, hBk⟩ := id hB
  have hTd : ∀ {n : Nat}, σ.1 82 19 / 2 ^ n ≤ 2147483647 := fun {n} => by
    have := Int.ediv_le_self (b := 2 ^ n) hT.1
    omega
  have flt : ∀ k : Int, 1 ≤ k ∧ k ≤ 4 → lLine δ (t :: r) = .inl (k, t.2.1) → MLT σ (wr σ k) (lLE δ (t :: r)) := by
    intro k hk hl
    have hLE : lLE δ (t :: r) = .inl (k, t.2.1) := by unfold lLE; rw [hl]
    rw [hLE]
    have hE := FM.wr (k := k) (MFr.rf σ) hk
    rw [m1] at hE
    exact hE
  have K : LnK G σ t.1 (lLine δ (t :: r)) (fun σ' => MLT σ σ' (lLE δ (t :: r))) := by
    intro τ y2 y3 y4 y5 hM
    cases hl : lLine δ (t :: r) with
    | inl e =>
      rw [hl] at hM
      have hLE : lLE δ (t :: r) = .inl e := by unfold lLE; rw [hl]
      rw [hLE]
      rcases hM with hE | ⟨q1, q2, t', r', q3, q4, q5⟩
      · refine e_aload_n (q := 465) (i := 0) dX12_line_464 rfl rfl rfl ?_
        refine e_getI (q := 468) (jz := 26) dX12_line_465 rfl fg_X12_190 rfl (by first | assumption | rfl) rfl ?_
        refine e_if_eq (q := 471) (tgt := 472) dX12_line_468 rfl (by decide) (fun c468 => by exfalso; exact hE.ne c468) (fun c468 => ?_) (hx := hE.rf)
        exact r_v dX12_line_471 rfl hE
      · refine e_aload_n (q := 465) (i := 0) dX12_line_464 rfl rfl rfl ?_
        refine e_getI (q := 468) (jz := 26) dX12_line_465 rfl fg_X12_190 rfl (by first | assumption | rfl) rfl ?_
        rw [q1]
        refine e_if_eq (q := 471) (tgt := 472) dX12_line_468 rfl (by decide) (fun c468 => ?_) (fun c468 => by exfalso; omega)
        refine e_aload_n (q := 473) (i := 0) dX12_line_472 rfl rfl rfl ?_
        refine e_bipush (q := 475) dX12_line_473 rfl (by decide) ?_
        refine e_Vip (q := 478) (vs := [_]) ok_X12_isSign ml_X12_243 dX12_line_475 rfl ⟨_, _, rfl⟩ (by first | assumption | rfl) rfl rfl (Nat.le_of_ble_eq_true rfl) (by decide) (c_mSign (k := 23) rfl q3 q1 (by decide) (by decide)) ?_
        rw [if_neg q4]
        refine e_if_ne (q := 481) (tgt := 489) dX12_line_478 rfl (by decide) (fun c478 => by exfalso; omega) (fun c478 => ?_)
        refine e_aload_n (q := 482) (i := 0) dX12_line_481 rfl rfl rfl ?_
        refine e_iconst (q := 483) dX12_line_482 rfl ?_
        refine e_Vv (q := 486) (vs := [_]) ok_X12_wrong ml_X12_199 dX12_line_483 rfl ⟨_, _, rfl⟩ (by first | assumption | rfl) rfl rfl (Nat.le_of_ble_eq_true rfl) (by decide) (c_mwrong0 q1) (fun s83 h83 => ?_)
        subst h83
        refine e_goto (tgt := 493) dX12_line_486 (by decide) ?_
        refine e_aload_n (q := 494) (i := 0) dX12_line_493 rfl rfl rfl ?_
        refine e_dup (q := 495) dX12_line_494 rfl rfl ?_
        refine e_getI (q := 498) (jz := 20) dX12_line_495 rfl fg_X12_213 rfl (by first | assumption | rfl) rfl ?_
        refine e_iconst (q := 499) dX12_line_498 rfl ?_
        refine e_iadd (q := 500) dX12_line_499 rfl ?_
        refine e_putI (q := 503) (jz := 20) dX12_line_500 rfl fp_X12_213 rfl (by first | assumption | rfl) rfl ?_
        exact r_v dX12_line_503 rfl (by have hE := FM.wr (k := 1) q2 (by decide); rw [(MK.hd q3).1] at hE; rw [q5]; exact ⟨hE.1.s82 (by decide) _, (sI_1 _ _ _ _ _ _).trans ((if_neg (by decide)).trans hE.2.1), (sI_1 _ _ _ _ _ _).trans ((if_neg (by decide)).trans hE.2.2.1), hE.2.2.2⟩)
    | inr q =>
      obtain ⟨δ1, ts1⟩ := q
      rw [hl] at hM
      have hLE : lLE δ (t :: r) = lEnds δ1 ts1 := by unfold lLE; rw [hl]
      rw [hLE]
      obtain ⟨q1, q2, q3, q4, q5⟩ := hM
      obtain ⟨t', r', et⟩ := MK.ne q3
      have et : ts1 = t' :: r' := et
      subst et
      have q3 : MK τ (t' :: r') := q3
      have m3 := (MK.hd q3).2.2.1
      by_cases q23 : t'.1 = 23
      · refine e_aload_n (q := 465) (i := 0) dX12_line_464 rfl rfl rfl ?_
        refine e_getI (q := 468) (jz := 26) dX12_line_465 rfl fg_X12_190 rfl (by first | assumption | rfl) rfl ?_
        rw [q1]
        refine e_if_eq (q := 471) (tgt := 472) dX12_line_468 rfl (by decide) (fun c468 => ?_) (fun c468 => by exfalso; omega)
        refine e_aload_n (q := 473) (i := 0) dX12_line_472 rfl rfl rfl ?_
        refine e_bipush (q := 475) dX12_line_473 rfl (by decide) ?_
        refine e_Vip (q := 478) (vs := [_]) ok_X12_isSign ml_X12_243 dX12_line_475 rfl ⟨_, _, rfl⟩ (by first | assumption | rfl) rfl rfl (Nat.le_of_ble_eq_true rfl) (by decide) (c_mSign (k := 23) rfl q3 q1 (by decide) (by decide)) ?_
        rw [if_pos q23]
        refine e_if_ne (q := 481) (tgt := 489) dX12_line_478 rfl (by decide) (fun c478 => ?_) (fun c478 => by exfalso; omega)
        refine e_aload_n (q := 490) (i := 0) dX12_line_489 rfl rfl rfl ?_
        refine e_Vv (q := 493) (vs := []) ok_X12_token ml_X12_196 dX12_line_490 rfl ⟨_, _, rfl⟩ (by first | assumption | rfl) rfl rfl (Nat.le_of_ble_eq_true rfl) (by decide) (c_mtok q3 (by omega)) (fun s90 h90 => ?_)
        refine e_aload_n (q := 494) (i := 0) dX12_line_493 rfl rfl rfl ?_
        refine e_dup (q := 495) dX12_line_494 rfl rfl ?_
        refine e_getI (q := 498) (jz := 20) dX12_line_495 rfl fg_X12_213 rfl (by first | assumption | rfl) rfl ?_
        refine e_iconst (q := 499) dX12_line_498 rfl ?_
        refine e_iadd (q := 500) dX12_line_499 rfl ?_
        refine e_putI (q := 503) (jz := 20) dX12_line_500 rfl fp_X12_213 rfl (by first | assumption | rfl) rfl ?_
        have e20 : s90.1 82 20 = δ1 23 1 := by rw [h90.1.2 20 (by decide)]; exact q4.1.2.2.2.2.2.2.1
        refine r_v dX12_line_503 rfl ?_
        rw [show lEnds δ1 (t' :: r') = .inr (u2 δ1 23 1 (δ1 23 1 + 1), r') from if_neg (fun q => q q23), e20]
        refine ⟨?_, (q2.tr (MFr.fm h90.1 (by decide))).s82 (by decide) _, h90.2.cg rfl (fun j a b => by rw [sI_1, if_neg (fun q => by have := q.2; omega)]), MD_line (q4.fm h90.1 (by decide)) _, ?_⟩
        · rw [sI_1, if_neg (by decide), h90.1.2 26 (by decide)]; exact q1
        · rw [sI_1, if_neg (by decide), h90.1.2 19 (by decide)]; exact q5.cg rfl rfl rfl
      · refine e_aload_n (q := 465) (i := 0) dX12_line_464 rfl rfl rfl ?_
        refine e_getI (q := 468) (jz := 26) dX12_line_465 rfl fg_X12_190 rfl (by first | assumption | rfl) rfl ?_
        rw [q1]
        refine e_if_eq (q := 471) (tgt := 472) dX12_line_468 rfl (by decide) (fun c468 => ?_) (fun c468 => by exfalso; omega)
        refine e_aload_n (q := 473) (i := 0) dX12_line_472 rfl rfl rfl ?_
        refine e_bipush (q := 475) dX12_line_473 rfl (by decide) ?_
        refine e_Vip (q := 478) (vs := [_]) ok_X12_isSign ml_X12_243 dX12_line_475 rfl ⟨_, _, rfl⟩ (by first | assumption | rfl) rfl rfl (Nat.le_of_ble_eq_true rfl) (by decide) (c_mSign (k := 23) rfl q3 q1 (by decide) (by decide)) ?_
        rw [if_neg q23]
        refine e_if_ne (q := 481) (tgt := 489) dX12_line_478 rfl (by decide) (fun c478 => by exfalso; omega) (fun c478 => ?_)
        refine e_aload_n (q := 482) (i := 0) dX12_line_481 rfl rfl rfl ?_
        refine e_iconst (q := 483) dX12_line_482 rfl ?_
        refine e_Vv (q := 486) (vs := [_]) ok_X12_wrong ml_X12_199 dX12_line_483 rfl ⟨_, _, rfl⟩ (by first | assumption | rfl) rfl rfl (Nat.le_of_ble_eq_true rfl) (by decide) (c_mwrong0 q1) (fun s83 h83 => ?_)
        subst h83
        refine e_goto (tgt := 493) dX12_line_486 (by decide) ?_
        refine e_aload_n (q := 494) (i := 0) dX12_line_493 rfl rfl rfl ?_
        refine e_dup (q := 495) dX12_line_494 rfl rfl ?_
        refine e_getI (q := 498) (jz := 20) dX12_line_495 rfl fg_X12_213 rfl (by first | assumption | rfl) rfl ?_
        refine e_iconst (q := 499) dX12_line_498 rfl ?_
        refine e_iadd (q := 500) dX12_line_499 rfl ?_
        refine e_putI (q := 503) (jz := 20) dX12_line_500 rfl fp_X12_213 rfl (by first | assumption | rfl) rfl ?_
        exact r_v dX12_line_503 rfl (by have hE := FM.wr (k := 1) q2 (by decide); rw [(MK.hd q3).1] at hE; rw [show lEnds δ1 (t' :: r') = .inl (1, t'.2.1) from if_pos q23]; exact ⟨hE.1.s82 (by decide) _, (sI_1 _ _ _ _ _ _).trans ((if_neg (by decide)).trans hE.2.1), (sI_1 _ _ _ _ _ _).trans ((if_neg (by decide)).trans hE.2.2.1), hE.2.2.2⟩)
  by_cases qb : 7 < t.1 ∨ (t.1 = 0 ∧ 0 < δ 23 1)
  · have hbad : lLine δ (t :: r) = .inl (1, t.2.1) := by
      simp only [lLine]
      rcases qb with q | q
      · rw [if_neg (by omega), if_neg (by omega), if_neg (by omega), if_neg (by omega), if_neg (by omega), if_neg (by omega), if_neg (by omega), if_neg (by omega)]
      · rw [if_pos q.1]; exact if_pos q.2
    have hw20 := m2.1 m3.1
    refine e_aload_n (q := 1) (i := 0) dX12_line_0 rfl rfl rfl ?_
    refine e_getI (q := 4) (jz := 24) dX12_line_1 rfl fg_X12_155 rfl (by first | assumption | rfl) rfl ?_
    refine e_if_ne (q := 7) (tgt := 30) dX12_line_4 rfl (by decide) (fun c4 => ?_) (fun c4 => ?_) (hx := ⟨by omega, by omega⟩)
    · refine e_aload_n (q := 31) (i := 0) dX12_line_30 rfl rfl rfl ?_
      refine e_iconst (q := 32) dX12_line_31 rfl ?_
      refine e_Vv (q := 35) (vs := [_]) ok_X12_wrong ml_X12_199 dX12_line_32 rfl ⟨_, _, rfl⟩ (by first | assumption | rfl) rfl rfl (Nat.le_of_ble_eq_true rfl) (by decide) (c_mwrong0 hf) (fun s32 h32 => ?_)
      subst h32
      exact r_v dX12_line_35 rfl (flt 1 (by decide) hbad)
    · refine e_aload_n (q := 8) (i := 0) dX12_line_7 rfl rfl rfl ?_
      refine e_getI (q := 11) (jz := 25) dX12_line_8 rfl fg_X12_165 rfl (by first | assumption | rfl) rfl ?_
      refine e_bipush (q := 13) dX12_line_11 rfl (by decide) ?_
      refine e_icmp_gt (q := 16) (tgt := 30) dX12_line_13 rfl (by decide) (fun c13 => ?_) (fun c13 => ?_) (hx := hv)
      · refine e_aload_n (q := 31) (i := 0) dX12_line_30 rfl rfl rfl ?_
        refine e_iconst (q := 32) dX12_line_31 rfl ?_
        refine e_Vv (q := 35) (vs := [_]) ok_X12_wrong ml_X12_199 dX12_line_32 rfl ⟨_, _, rfl⟩ (by first | assumption | rfl) rfl rfl (Nat.le_of_ble_eq_true rfl) (by decide) (c_mwrong0 hf) (fun s32 h32 => ?_)
        subst h32
        exact r_v dX12_line_35 rfl (flt 1 (by decide) hbad)
      · refine e_aload_n (q := 17) (i := 0) dX12_line_16 rfl rfl rfl ?_
        refine e_getI (q := 20) (jz := 25) dX12_line_17 rfl fg_X12_165 rfl (by first | assumption | rfl) rfl ?_
        refine e_if_ne (q := 23) (tgt := 36) dX12_line_20 rfl (by decide) (fun c20 => ?_) (fun c20 => ?_) (hx := hv)
        · exfalso
          have hv1 : σ.1 82 25 = t.1 := (m2.1 m3.1 (mk.1.1 (by omega))).2
          omega
        · refine e_aload_n (q := 24) (i := 0) dX12_line_23 rfl rfl rfl ?_
          refine e_getI (q := 27) (jz := 20) dX12_line_24 rfl fg_X12_213 rfl (by first | assumption | rfl) rfl ?_
          refine e_if_le (q := 30) (tgt := 36) dX12_line_27 rfl (by decide) (fun c27 => ?_) (fun c27 => ?_) (hx := ⟨by omega, by omega⟩)
          · exfalso
            have hv1 : σ.1 82 25 = t.1 := (m2.1 m3.1 (mk.1.1 (by omega))).2
            omega
          · refine e_aload_n (q := 31) (i := 0) dX12_line_30 rfl rfl rfl ?_
            refine e_iconst (q := 32) dX12_line_31 rfl ?_
            refine e_Vv (q := 35) (vs := [_]) ok_X12_wrong ml_X12_199 dX12_line_32 rfl ⟨_, _, rfl⟩ (by first | assumption | rfl) rfl rfl (Nat.le_of_ble_eq_true rfl) (by decide) (c_mwrong0 hf) (fun s32 h32 => ?_)
            subst h32
            exact r_v dX12_line_35 rfl (flt 1 (by decide) hbad)
  have hs0 : σ.1 82 24 = 0 := mk.1.2 (by omega)
  have hv1 : σ.1 82 25 = t.1 := (m2.1 m3.1 (by omega)).2
  by_cases qf : ((t.1 = 1 ∧ 4 ≤ δ 23 2) ∨ (t.1 = 2 ∧ 6 ≤ δ 23 3) ∨ (t.1 = 3 ∧ 12 ≤ δ 23 4))
  · have hful : lLine δ (t :: r) = .inl (2, t.2.1) := by
      simp only [lLine]
      rcases qf with ⟨q, q'⟩ | ⟨q, q'⟩ | ⟨q, q'⟩
      · rw [if_neg (by omega), if_pos q]; exact if_pos q'
      · rw [if_neg (by omega), if_neg (by omega), if_pos q]; exact if_pos q'
      · rw [if_neg (by omega), if_neg (by omega), if_neg (by omega), if_pos q]; exact if_pos q'
    refine e_aload_n (q := 1) (i := 0) dX12_line_0 rfl rfl rfl ?_
    refine e_getI (q := 4) (jz := 24) dX12_line_1 rfl fg_X12_155 rfl (by first | assumption | rfl) rfl ?_
    refine e_if_ne (q := 7) (tgt := 30) dX12_line_4 rfl (by decide) (fun c4 => by exfalso; omega) (fun c4 => ?_) (hx := ⟨by omega, by omega⟩)
    refine e_aload_n (q := 8) (i := 0) dX12_line_7 rfl rfl rfl ?_
    refine e_getI (q := 11) (jz := 25) dX12_line_8 rfl fg_X12_165 rfl (by first | assumption | rfl) rfl ?_
    refine e_bipush (q := 13) dX12_line_11 rfl (by decide) ?_
    rw [hv1]
    refine e_icmp_gt (q := 16) (tgt := 30) dX12_line_13 rfl (by decide) (fun c13 => by exfalso; omega) (fun c13 => ?_)
    refine e_aload_n (q := 17) (i := 0) dX12_line_16 rfl rfl rfl ?_
    refine e_getI (q := 20) (jz := 25) dX12_line_17 rfl fg_X12_165 rfl (by first | assumption | rfl) rfl ?_
    rw [hv1]
    refine e_if_ne (q := 23) (tgt := 36) dX12_line_20 rfl (by decide) (fun c20 => ?_) (fun c20 => ?_)
    · refine e_aload_n (q := 37) (i := 0) dX12_line_36 rfl rfl rfl ?_
      refine e_getI (q := 40) (jz := 25) dX12_line_37 rfl fg_X12_165 rfl (by first | assumption | rfl) rfl ?_
      rw [hv1]
      refine e_istore_n (q := 41) (i := 1) (L' := [_, _, _, _, _, _]) dX12_line_40 rfl rfl (by decide) rfl rfl ?_
      refine e_aload_n (q := 42) (i := 0) dX12_line_41 rfl rfl rfl ?_
      refine e_iload_n (q := 43) (i := 1) dX12_line_42 rfl rfl rfl ?_
      refine e_Vip (q := 46) (vs := [_]) ok_X12_isFull ml_X12_216 dX12_line_43 rfl ⟨_, _, rfl⟩ (by first | assumption | rfl) rfl rfl (Nat.le_of_ble_eq_true rfl) (by decide) (c_X12_isFull (x := t.1) ⟨by omega, by omega⟩ ⟨by omega, by omega⟩ ⟨by omega, by omega⟩ ⟨by omega, by omega⟩) ?_
      rw [if_pos (by omega)]
      refine e_if_eq (q := 49) (tgt := 57) dX12_line_46 rfl (by decide) (fun c46 => by exfalso; omega) (fun c46 => ?_)
      refine e_aload_n (q := 50) (i := 0) dX12_line_49 rfl rfl rfl ?_
      refine e_iconst (q := 51) dX12_line_50 rfl ?_
      refine e_Vv (q := 54) (vs := [_]) ok_X12_wrong ml_X12_199 dX12_line_51 rfl ⟨_, _, rfl⟩ (by first | assumption | rfl) rfl rfl (Nat.le_of_ble_eq_true rfl) (by decide) (c_mwrong0 hf) (fun s51 h51 => ?_)
      subst h51
      refine e_goto (tgt := 85) dX12_line_54 (by decide) ?_
      refine e_aload_n (q := 86) (i := 0) dX12_line_85 rfl rfl rfl ?_
      refine e_getI (q := 89) (jz := 26) dX12_line_86 rfl fg_X12_190 rfl (by first | assumption | rfl) rfl ?_
      rw [show (wr σ 2).1 82 26 = 2 from wr_f]
      refine e_if_eq (q := 92) (tgt := 93) dX12_line_89 rfl (by decide) (fun c89 => by exfalso; omega) (fun c89 => ?_)
      exact r_v dX12_line_92 rfl (flt 2 (by decide) hful)
    · refine e_aload_n (q := 24) (i := 0) dX12_line_23 rfl rfl rfl ?_
      refine e_getI (q := 27) (jz := 20) dX12_line_24 rfl fg_X12_213 rfl (by first | assumption | rfl) rfl ?_
      refine e_if_le (q := 30) (tgt := 36) dX12_line_27 rfl (by decide) (fun c27 => ?_) (fun c27 => by exfalso; omega) (hx := ⟨by omega, by omega⟩)
      refine e_aload_n (q := 37) (i := 0) dX12_line_36 rfl rfl rfl ?_
      refine e_getI (q := 40) (jz := 25) dX12_line_37 rfl fg_X12_165 rfl (by first | assumption | rfl) rfl ?_
      rw [hv1]
      refine e_istore_n (q := 41) (i := 1) (L' := [_, _, _, _, _, _]) dX12_line_40 rfl rfl (by decide) rfl rfl ?_
      refine e_aload_n (q := 42) (i := 0) dX12_line_41 rfl rfl rfl ?_
      refine e_iload_n (q := 43) (i := 1) dX12_line_42 rfl rfl rfl ?_
      refine e_Vip (q := 46) (vs := [_]) ok_X12_isFull ml_X12_216 dX12_line_43 rfl ⟨_, _, rfl⟩ (by first | assumption | rfl) rfl rfl (Nat.le_of_ble_eq_true rfl) (by decide) (c_X12_isFull (x := t.1) ⟨by omega, by omega⟩ ⟨by omega, by omega⟩ ⟨by omega, by omega⟩ ⟨by omega, by omega⟩) ?_
      rw [if_pos (by omega)]
      refine e_if_eq (q := 49) (tgt := 57) dX12_line_46 rfl (by decide) (fun c46 => by exfalso; omega) (fun c46 => ?_)
      refine e_aload_n (q := 50) (i := 0) dX12_line_49 rfl rfl rfl ?_
      refine e_iconst (q := 51) dX12_line_50 rfl ?_
      refine e_Vv (q := 54) (vs := [_]) ok_X12_wrong ml_X12_199 dX12_line_51 rfl ⟨_, _, rfl⟩ (by first | assumption | rfl) rfl rfl (Nat.le_of_ble_eq_true rfl) (by decide) (c_mwrong0 hf) (fun s51 h51 => ?_)
      subst h51
      refine e_goto (tgt := 85) dX12_line_54 (by decide) ?_
      refine e_aload_n (q := 86) (i := 0) dX12_line_85 rfl rfl rfl ?_
      refine e_getI (q := 89) (jz := 26) dX12_line_86 rfl fg_X12_190 rfl (by first | assumption | rfl) rfl ?_
      rw [show (wr σ 2).1 82 26 = 2 from wr_f]
      refine e_if_eq (q := 92) (tgt := 93) dX12_line_89 rfl (by decide) (fun c89 => by exfalso; omega) (fun c89 => ?_)
      exact r_v dX12_line_92 rfl (flt 2 (by decide) hful)
  by_cases qt : ((t.1 = 5 ∧ δ 18 3 ≠ 0) ∨ (t.1 = 6 ∧ δ 18 4 ≠ 0))
  · have htwi : lLine δ (t :: r) = .inl (3, t.2.1) := by
      simp only [lLine]
      rcases qt with ⟨q, q'⟩ | ⟨q, q'⟩
      · rw [if_neg (by omega), if_neg (by omega), if_neg (by omega), if_neg (by omega), if_neg (by omega), if_pos q]; exact if_pos q'
      · rw [if_neg (by omega), if_neg (by omega), if_neg (by omega), if_neg (by omega), if_neg (by omega), if_neg (by omega), if_pos q]; exact if_pos q'
    have hbt : σ.1 82 19 / 2 ^ t.1.toNat % 2 = 1 := by
      rw [bt_iff hT.1]
      rcases qt with ⟨q, q'⟩ | ⟨q, q'⟩
      · rw [q]; exact hB5.2 q'
      · rw [q]; exact hB6.2 q'
    refine e_aload_n (q := 1) (i := 0) dX12_line_0 rfl rfl rfl ?_
    refine e_getI (q := 4) (jz := 24) dX12_line_1 rfl fg_X12_155 rfl (by first | assumption | rfl) rfl ?_
    refine e_if_ne (q := 7) (tgt := 30) dX12_line_4 rfl (by decide) (fun c4 => by exfalso; omega) (fun c4 => ?_) (hx := ⟨by omega, by omega⟩)
    refine e_aload_n (q := 8) (i := 0) dX12_line_7 rfl rfl rfl ?_
    refine e_getI (q := 11) (jz := 25) dX12_line_8 rfl fg_X12_165 rfl (by first | assumption | rfl) rfl ?_
    refine e_bipush (q := 13) dX12_line_11 rfl (by decide) ?_
    rw [hv1]
    refine e_icmp_gt (q := 16) (tgt := 30) dX12_line_13 rfl (by decide) (fun c13 => by exfalso; omega) (fun c13 => ?_)
    refine e_aload_n (q := 17) (i := 0) dX12_line_16 rfl rfl rfl ?_
    refine e_getI (q := 20) (jz := 25) dX12_line_17 rfl fg_X12_165 rfl (by first | assumption | rfl) rfl ?_
    rw [hv1]
    refine e_if_ne (q := 23) (tgt := 36) dX12_line_20 rfl (by decide) (fun c20 => ?_) (fun c20 => ?_)
    · refine e_aload_n (q := 37) (i := 0) dX12_line_36 rfl rfl rfl ?_
      refine e_getI (q := 40) (jz := 25) dX12_line_37 rfl fg_X12_165 rfl (by first | assumption | rfl) rfl ?_
      rw [hv1]
      refine e_istore_n (q := 41) (i := 1) (L' := [_, _, _, _, _, _]) dX12_line_40 rfl rfl (by decide) rfl rfl ?_
      refine e_aload_n (q := 42) (i := 0) dX12_line_41 rfl rfl rfl ?_
      refine e_iload_n (q := 43) (i := 1) dX12_line_42 rfl rfl rfl ?_
      refine e_Vip (q := 46) (vs := [_]) ok_X12_isFull ml_X12_216 dX12_line_43 rfl ⟨_, _, rfl⟩ (by first | assumption | rfl) rfl rfl (Nat.le_of_ble_eq_true rfl) (by decide) (c_X12_isFull (x := t.1) ⟨by omega, by omega⟩ ⟨by omega, by omega⟩ ⟨by omega, by omega⟩ ⟨by omega, by omega⟩) ?_
      rw [if_neg (by omega)]
      refine e_if_eq (q := 49) (tgt := 57) dX12_line_46 rfl (by decide) (fun c46 => ?_) (fun c46 => by exfalso; omega)
      refine e_iload_n (q := 58) (i := 1) dX12_line_57 rfl rfl rfl ?_
      refine e_iconst (q := 59) dX12_line_58 rfl ?_
      refine e_icmp_eq (q := 62) (tgt := 68) dX12_line_59 rfl (by decide) (fun c59 => ?_) (fun c59 => ?_)
      · refine e_aload_n (q := 69) (i := 0) dX12_line_68 rfl rfl rfl ?_
        refine e_getI (q := 72) (jz := 19) dX12_line_69 rfl fg_X12_219 rfl (by first | assumption | rfl) rfl ?_
        refine e_iload_n (q := 73) (i := 1) dX12_line_72 rfl rfl rfl ?_
        refine e_ishr (q := 74) dX12_line_73 rfl (iZ_shrk hT.1 (by omega) (by omega) (by omega)) ?_
        refine e_iconst (q := 75) dX12_line_74 rfl ?_
        refine e_iand (q := 76) dX12_line_75 rfl (iZ_and1 (Int.ediv_nonneg hT.1 (Int.pow_nonneg (by decide))) hTd) ?_
        refine e_iconst (q := 77) dX12_line_76 rfl ?_
        rw [hbt]
        refine e_icmp_ne (q := 80) (tgt := 85) dX12_line_77 rfl (by decide) (fun c77 => by exfalso; omega) (fun c77 => ?_)
        refine e_aload_n (q := 81) (i := 0) dX12_line_80 rfl rfl rfl ?_
        refine e_iconst (q := 82) dX12_line_81 rfl ?_
        refine e_Vv (q := 85) (vs := [_]) ok_X12_wrong ml_X12_199 dX12_line_82 rfl ⟨_, _, rfl⟩ (by first | assumption | rfl) rfl rfl (Nat.le_of_ble_eq_true rfl) (by decide) (c_mwrong0 hf) (fun s82 h82 => ?_)
        subst h82
        refine e_aload_n (q := 86) (i := 0) dX12_line_85 rfl rfl rfl ?_
        refine e_getI (q := 89) (jz := 26) dX12_line_86 rfl fg_X12_190 rfl (by first | assumption | rfl) rfl ?_
        rw [show (wr σ 3).1 82 26 = 3 from wr_f]
        refine e_if_eq (q := 92) (tgt := 93) dX12_line_89 rfl (by decide) (fun c89 => by exfalso; omega) (fun c89 => ?_)
        exact r_v dX12_line_92 rfl (flt 3 (by decide) htwi)
      · refine e_iload_n (q := 63) (i := 1) dX12_line_62 rfl rfl rfl ?_
        refine e_bipush (q := 65) dX12_line_63 rfl (by decide) ?_
        refine e_icmp_ne (q := 68) (tgt := 85) dX12_line_65 rfl (by decide) (fun c65 => by exfalso; omega) (fun c65 => ?_)
        refine e_aload_n (q := 69) (i := 0) dX12_line_68 rfl rfl rfl ?_
        refine e_getI (q := 72) (jz := 19) dX12_line_69 rfl fg_X12_219 rfl (by first | assumption | rfl) rfl ?_
        refine e_iload_n (q := 73) (i := 1) dX12_line_72 rfl rfl rfl ?_
        refine e_ishr (q := 74) dX12_line_73 rfl (iZ_shrk hT.1 (by omega) (by omega) (by omega)) ?_
        refine e_iconst (q := 75) dX12_line_74 rfl ?_
        refine e_iand (q := 76) dX12_line_75 rfl (iZ_and1 (Int.ediv_nonneg hT.1 (Int.pow_nonneg (by decide))) hTd) ?_
        refine e_iconst (q := 77) dX12_line_76 rfl ?_
        rw [hbt]
        refine e_icmp_ne (q := 80) (tgt := 85) dX12_line_77 rfl (by decide) (fun c77 => by exfalso; omega) (fun c77 => ?_)
        refine e_aload_n (q := 81) (i := 0) dX12_line_80 rfl rfl rfl ?_
        refine e_iconst (q := 82) dX12_line_81 rfl ?_
        refine e_Vv (q := 85) (vs := [_]) ok_X12_wrong ml_X12_199 dX12_line_82 rfl ⟨_, _, rfl⟩ (by first | assumption | rfl) rfl rfl (Nat.le_of_ble_eq_true rfl) (by decide) (c_mwrong0 hf) (fun s82 h82 => ?_)
        subst h82
        refine e_aload_n (q := 86) (i := 0) dX12_line_85 rfl rfl rfl ?_
        refine e_getI (q := 89) (jz := 26) dX12_line_86 rfl fg_X12_190 rfl (by first | assumption | rfl) rfl ?_
        rw [show (wr σ 3).1 82 26 = 3 from wr_f]
        refine e_if_eq (q := 92) (tgt := 93) dX12_line_89 rfl (by decide) (fun c89 => by exfalso; omega) (fun c89 => ?_)
        exact r_v dX12_line_92 rfl (flt 3 (by decide) htwi)
    · refine e_aload_n (q := 24) (i := 0) dX12_line_23 rfl rfl rfl ?_
      refine e_getI (q := 27) (jz := 20) dX12_line_24 rfl fg_X12_213 rfl (by first | assumption | rfl) rfl ?_
      refine e_if_le (q := 30) (tgt := 36) dX12_line_27 rfl (by decide) (fun c27 => ?_) (fun c27 => by exfalso; omega) (hx := ⟨by omega, by omega⟩)
      refine e_aload_n (q := 37) (i := 0) dX12_line_36 rfl rfl rfl ?_
      refine e_getI (q := 40) (jz := 25) dX12_line_37 rfl fg_X12_165 rfl (by first | assumption | rfl) rfl ?_
      rw [hv1]
      refine e_istore_n (q := 41) (i := 1) (L' := [_, _, _, _, _, _]) dX12_line_40 rfl rfl (by decide) rfl rfl ?_
      refine e_aload_n (q := 42) (i := 0) dX12_line_41 rfl rfl rfl ?_
      refine e_iload_n (q := 43) (i := 1) dX12_line_42 rfl rfl rfl ?_
      refine e_Vip (q := 46) (vs := [_]) ok_X12_isFull ml_X12_216 dX12_line_43 rfl ⟨_, _, rfl⟩ (by first | assumption | rfl) rfl rfl (Nat.le_of_ble_eq_true rfl) (by decide) (c_X12_isFull (x := t.1) ⟨by omega, by omega⟩ ⟨by omega, by omega⟩ ⟨by omega, by omega⟩ ⟨by omega, by omega⟩) ?_
      rw [if_neg (by omega)]
      refine e_if_eq (q := 49) (tgt := 57) dX12_line_46 rfl (by decide) (fun c46 => ?_) (fun c46 => by exfalso; omega)
      refine e_iload_n (q := 58) (i := 1) dX12_line_57 rfl rfl rfl ?_
      refine e_iconst (q := 59) dX12_line_58 rfl ?_
      refine e_icmp_eq (q := 62) (tgt := 68) dX12_line_59 rfl (by decide) (fun c59 => ?_) (fun c59 => ?_)
      · refine e_aload_n (q := 69) (i := 0) dX12_line_68 rfl rfl rfl ?_
        refine e_getI (q := 72) (jz := 19) dX12_line_69 rfl fg_X12_219 rfl (by first | assumption | rfl) rfl ?_
        refine e_iload_n (q := 73) (i := 1) dX12_line_72 rfl rfl rfl ?_
        refine e_ishr (q := 74) dX12_line_73 rfl (iZ_shrk hT.1 (by omega) (by omega) (by omega)) ?_
        refine e_iconst (q := 75) dX12_line_74 rfl ?_
        refine e_iand (q := 76) dX12_line_75 rfl (iZ_and1 (Int.ediv_nonneg hT.1 (Int.pow_nonneg (by decide))) hTd) ?_
        refine e_iconst (q := 77) dX12_line_76 rfl ?_
        rw [hbt]
        refine e_icmp_ne (q := 80) (tgt := 85) dX12_line_77 rfl (by decide) (fun c77 => by exfalso; omega) (fun c77 => ?_)
        refine e_aload_n (q := 81) (i := 0) dX12_line_80 rfl rfl rfl ?_
        refine e_iconst (q := 82) dX12_line_81 rfl ?_
        refine e_Vv (q := 85) (vs := [_]) ok_X12_wrong ml_X12_199 dX12_line_82 rfl ⟨_, _, rfl⟩ (by first | assumption | rfl) rfl rfl (Nat.le_of_ble_eq_true rfl) (by decide) (c_mwrong0 hf) (fun s82 h82 => ?_)
        subst h82
        refine e_aload_n (q := 86) (i := 0) dX12_line_85 rfl rfl rfl ?_
        refine e_getI (q := 89) (jz := 26) dX12_line_86 rfl fg_X12_190 rfl (by first | assumption | rfl) rfl ?_
        rw [show (wr σ 3).1 82 26 = 3 from wr_f]
        refine e_if_eq (q := 92) (tgt := 93) dX12_line_89 rfl (by decide) (fun c89 => by exfalso; omega) (fun c89 => ?_)
        exact r_v dX12_line_92 rfl (flt 3 (by decide) htwi)
      · refine e_iload_n (q := 63) (i := 1) dX12_line_62 rfl rfl rfl ?_
        refine e_bipush (q := 65) dX12_line_63 rfl (by decide) ?_
        refine e_icmp_ne (q := 68) (tgt := 85) dX12_line_65 rfl (by decide) (fun c65 => by exfalso; omega) (fun c65 => ?_)
        refine e_aload_n (q := 69) (i := 0) dX12_line_68 rfl rfl rfl ?_
        refine e_getI (q := 72) (jz := 19) dX12_line_69 rfl fg_X12_219 rfl (by first | assumption | rfl) rfl ?_
        refine e_iload_n (q := 73) (i := 1) dX12_line_72 rfl rfl rfl ?_
        refine e_ishr (q := 74) dX12_line_73 rfl (iZ_shrk hT.1 (by omega) (by omega) (by omega)) ?_
        refine e_iconst (q := 75) dX12_line_74 rfl ?_
        refine e_iand (q := 76) dX12_line_75 rfl (iZ_and1 (Int.ediv_nonneg hT.1 (Int.pow_nonneg (by decide))) hTd) ?_
        refine e_iconst (q := 77) dX12_line_76 rfl ?_
        rw [hbt]
        refine e_icmp_ne (q := 80) (tgt := 85) dX12_line_77 rfl (by decide) (fun c77 => by exfalso; omega) (fun c77 => ?_)
        refine e_aload_n (q := 81) (i := 0) dX12_line_80 rfl rfl rfl ?_
        refine e_iconst (q := 82) dX12_line_81 rfl ?_
        refine e_Vv (q := 85) (vs := [_]) ok_X12_wrong ml_X12_199 dX12_line_82 rfl ⟨_, _, rfl⟩ (by first | assumption | rfl) rfl rfl (Nat.le_of_ble_eq_true rfl) (by decide) (c_mwrong0 hf) (fun s82 h82 => ?_)
        subst h82
        refine e_aload_n (q := 86) (i := 0) dX12_line_85 rfl rfl rfl ?_
        refine e_getI (q := 89) (jz := 26) dX12_line_86 rfl fg_X12_190 rfl (by first | assumption | rfl) rfl ?_
        rw [show (wr σ 3).1 82 26 = 3 from wr_f]
        refine e_if_eq (q := 92) (tgt := 93) dX12_line_89 rfl (by decide) (fun c89 => by exfalso; omega) (fun c89 => ?_)
        exact r_v dX12_line_92 rfl (flt 3 (by decide) htwi)
  have hbt : (t.1 = 5 ∨ t.1 = 6) → σ.1 82 19 / 2 ^ t.1.toNat % 2 = 1 → False := by
    intro q56 q
    rw [bt_iff hT.1] at q
    rcases q56 with q5 | q5
    · rw [q5] at q; exact qt (Or.inl ⟨q5, hB5.1 q⟩)
    · rw [q5] at q; exact qt (Or.inr ⟨q5, hB6.1 q⟩)
  have go : ∀ s2 : Sg, Fm [] [22, 23, 24, 25] (sI σ 82 19 (stB (σ.1 82 19) t.1.toNat)) s2 → MK s2 r → J G 151 mX12_line (pV (fun σ' => MLT σ σ' (lLE δ (t :: r)))) s2 109 [some (.ref (G.2.2.2 + 82)), some (.int (iZ t.1)), none, none, none, none] [] := by
    intro s2 F2 k2
    obtain ⟨t2, r2, et2⟩ := k2.ne
    subst et2
    have hF2 : MFr σ s2 := ((MFr.rf σ).s82 (by decide) _).tr (MFr.fm F2 (by decide))
    have f2 : s2.1 82 26 = 0 := by rw [F2.2 26 (by decide)]; exact hf
    have d2 : MD0 s2 δ := (MD0.cg hD (fun c a b => by rw [sI_ne _ (by omega)]) (fun j hj => by
      rw [sI_1, if_neg (fun q => by
        have := q.2
        simp only [List.mem_cons, List.not_mem_nil, or_false] at hj
        omega)])).fm F2 (by decide)
    have e19 : s2.1 82 19 = stB (σ.1 82 19) t.1.toNat := by rw [F2.2 19 (by decide), sI_1, if_pos ⟨rfl, rfl⟩]
    have hB2 : t.1 ≠ 5 → t.1 ≠ 6 → MDb (s2.1 82 19) δ := fun q5 q6 => by rw [e19]; exact hB.st (by omega) (by omega) (by omega)
    refine e_iload_n (q := 110) (i := 1) dX12_line_109 rfl rfl rfl ?_
    by_cases k110_0 : t.1 = 0
    · refine e_tabIn (tgt := 152) dX12_line_110 (by first | assumption | exact ⟨by omega, by omega⟩) (by omega) (by omega) (by rw [k110_0]; rfl) (by decide) ?_
      have kq : t.1 = 0 := k110_0
      exact jl_land K hF2 k2 f2 d2 hO (fun v => (hB2 (by omega) (by omega)).cg rfl rfl rfl) (by simp only [lLine]; rw [if_pos kq]; exact if_neg (by omega))
    by_cases k110_1 : t.1 = 1
    · refine e_tabIn (tgt := 167) dX12_line_110 (by first | assumption | exact ⟨by omega, by omega⟩) (by omega) (by omega) (by rw [k110_1]; rfl) (by decide) ?_
      have kq : t.1 = 1 := k110_1
      exact jl_par K hF2 k2 f2 d2 hO (by omega) (hB2 (by omega) (by omega)) (by simp only [lLine]; rw [if_neg (by omega), if_pos kq]; exact if_neg (by omega))
    by_cases k110_2 : t.1 = 2
    · refine e_tabIn (tgt := 174) dX12_line_110 (by first | assumption | exact ⟨by omega, by omega⟩) (by omega) (by omega) (by rw [k110_2]; rfl) (by decide) ?_
      have kq : t.1 = 2 := k110_2
      exact jl_child K hF2 k2 f2 d2 hO (by omega) (hB2 (by omega) (by omega)) (by simp only [lLine]; rw [if_neg (by omega), if_neg (by omega), if_pos kq]; exact if_neg (by omega))
    by_cases k110_3 : t.1 = 3
    · refine e_tabIn (tgt := 245) dX12_line_110 (by first | assumption | exact ⟨by omega, by omega⟩) (by omega) (by omega) (by rw [k110_3]; rfl) (by decide) ?_
      have kq : t.1 = 3 := k110_3
      exact jl_beat K hF2 k2 f2 d2 hO (by omega) (hB2 (by omega) (by omega)) (by simp only [lLine]; rw [if_neg (by omega), if_neg (by omega), if_neg (by omega), if_pos kq]; exact if_neg (by omega))
    by_cases k110_4 : t.1 = 4
    · refine e_tabIn (tgt := 335) dX12_line_110 (by first | assumption | exact ⟨by omega, by omega⟩) (by omega) (by omega) (by rw [k110_4]; rfl) (by decide) ?_
      have kq : t.1 = 4 := k110_4
      exact jl_cake K hF2 k2 f2 d2 hO (hB2 (by omega) (by omega)) (by simp only [lLine]; rw [if_neg (by omega), if_neg (by omega), if_neg (by omega), if_neg (by omega), if_pos kq])
    by_cases k110_5 : t.1 = 5
    · refine e_tabIn (tgt := 430) dX12_line_110 (by first | assumption | exact ⟨by omega, by omega⟩) (by omega) (by omega) (by rw [k110_5]; rfl) (by decide) ?_
      have kq : t.1 = 5 := k110_5
      exact jl_rain K hF2 k2 f2 d2 hO (fun v => by rw [e19, kq]; exact hB.rain) (by simp only [lLine]; rw [if_neg (by omega), if_neg (by omega), if_neg (by omega), if_neg (by omega), if_neg (by omega), if_pos kq]; exact if_neg (by omega))
    by_cases k110_6 : t.1 = 6
    · refine e_tabIn (tgt := 445) dX12_line_110 (by first | assumption | exact ⟨by omega, by omega⟩) (by omega) (by omega) (by rw [k110_6]; rfl) (by decide) ?_
      have kq : t.1 = 6 := k110_6
      exact jl_seed K hF2 k2 f2 d2 hO (fun v => by rw [e19, kq]; exact hB.seed) (by simp only [lLine]; rw [if_neg (by omega), if_neg (by omega), if_neg (by omega), if_neg (by omega), if_neg (by omega), if_neg (by omega), if_pos kq]; exact if_neg (by omega))
    refine e_tabOut (tgt := 460) dX12_line_110 (by first | assumption | exact ⟨by omega, by omega⟩) (by omega) (by decide) ?_
    have kq : t.1 = 7 := by omega
    exact jl_law K hF2 k2 f2 d2 hO (hB2 (by omega) (by omega)) (fun x hx => hG x (List.mem_cons_of_mem _ hx)) (by simp only [lLine]; rw [if_neg (by omega), if_neg (by omega), if_neg (by omega), if_neg (by omega), if_neg (by omega), if_neg (by omega), if_neg (by omega), if_pos kq])
  refine e_aload_n (q := 1) (i := 0) dX12_line_0 rfl rfl rfl ?_
  refine e_getI (q := 4) (jz := 24) dX12_line_1 rfl fg_X12_155 rfl (by first | assumption | rfl) rfl ?_
  refine e_if_ne (q := 7) (tgt := 30) dX12_line_4 rfl (by decide) (fun c4 => by exfalso; omega) (fun c4 => ?_) (hx := ⟨by omega, by omega⟩)
  refine e_aload_n (q := 8) (i := 0) dX12_line_7 rfl rfl rfl ?_
  refine e_getI (q := 11) (jz := 25) dX12_line_8 rfl fg_X12_165 rfl (by first | assumption | rfl) rfl ?_
  refine e_bipush (q := 13) dX12_line_11 rfl (by decide) ?_
  rw [hv1]
  refine e_icmp_gt (q := 16) (tgt := 30) dX12_line_13 rfl (by decide) (fun c13 => by exfalso; omega) (fun c13 => ?_)
  refine e_aload_n (q := 17) (i := 0) dX12_line_16 rfl rfl rfl ?_
  refine e_getI (q := 20) (jz := 25) dX12_line_17 rfl fg_X12_165 rfl (by first | assumption | rfl) rfl ?_
  rw [hv1]
  refine e_if_ne (q := 23) (tgt := 36) dX12_line_20 rfl (by decide) (fun c20 => ?_) (fun c20 => ?_)
  · refine e_aload_n (q := 37) (i := 0) dX12_line_36 rfl rfl rfl ?_
    refine e_getI (q := 40) (jz := 25) dX12_line_37 rfl fg_X12_165 rfl (by first | assumption | rfl) rfl ?_
    rw [hv1]
    refine e_istore_n (q := 41) (i := 1) (L' := [_, _, _, _, _, _]) dX12_line_40 rfl rfl (by decide) rfl rfl ?_
    refine e_aload_n (q := 42) (i := 0) dX12_line_41 rfl rfl rfl ?_
    refine e_iload_n (q := 43) (i := 1) dX12_line_42 rfl rfl rfl ?_
    refine e_Vip (q := 46) (vs := [_]) ok_X12_isFull ml_X12_216 dX12_line_43 rfl ⟨_, _, rfl⟩ (by first | assumption | rfl) rfl rfl (Nat.le_of_ble_eq_true rfl) (by decide) (c_X12_isFull (x := t.1) ⟨by omega, by omega⟩ ⟨by omega, by omega⟩ ⟨by omega, by omega⟩ ⟨by omega, by omega⟩) ?_
    rw [if_neg (by omega)]
    refine e_if_eq (q := 49) (tgt := 57) dX12_line_46 rfl (by decide) (fun c46 => ?_) (fun c46 => by exfalso; omega)
    refine e_iload_n (q := 58) (i := 1) dX12_line_57 rfl rfl rfl ?_
    refine e_iconst (q := 59) dX12_line_58 rfl ?_
    refine e_icmp_eq (q := 62) (tgt := 68) dX12_line_59 rfl (by decide) (fun c59 => ?_) (fun c59 => ?_)
    · refine e_aload_n (q := 69) (i := 0) dX12_line_68 rfl rfl rfl ?_
      refine e_getI (q := 72) (jz := 19) dX12_line_69 rfl fg_X12_219 rfl (by first | assumption | rfl) rfl ?_
      refine e_iload_n (q := 73) (i := 1) dX12_line_72 rfl rfl rfl ?_
      refine e_ishr (q := 74) dX12_line_73 rfl (iZ_shrk hT.1 (by omega) (by omega) (by omega)) ?_
      refine e_iconst (q := 75) dX12_line_74 rfl ?_
      refine e_iand (q := 76) dX12_line_75 rfl (iZ_and1 (Int.ediv_nonneg hT.1 (Int.pow_nonneg (by decide))) hTd) ?_
      refine e_iconst (q := 77) dX12_line_76 rfl ?_
      refine e_icmp_ne (q := 80) (tgt := 85) dX12_line_77 rfl (by decide) (fun c77 => ?_) (fun c77 => by exfalso; exact hbt (by omega) c77) (hx := ⟨by omega, by omega⟩)
      refine e_aload_n (q := 86) (i := 0) dX12_line_85 rfl rfl rfl ?_
      refine e_getI (q := 89) (jz := 26) dX12_line_86 rfl fg_X12_190 rfl (by first | assumption | rfl) rfl ?_
      rw [hf]
      refine e_if_eq (q := 92) (tgt := 93) dX12_line_89 rfl (by decide) (fun c89 => ?_) (fun c89 => by exfalso; omega)
      refine e_aload_n (q := 94) (i := 0) dX12_line_93 rfl rfl rfl ?_
      refine e_dup (q := 95) dX12_line_94 rfl rfl ?_
      refine e_getI (q := 98) (jz := 19) dX12_line_95 rfl fg_X12_219 rfl (by first | assumption | rfl) rfl ?_
      refine e_iconst (q := 99) dX12_line_98 rfl ?_
      refine e_iload_n (q := 100) (i := 1) dX12_line_99 rfl rfl rfl ?_
      refine e_ishl (q := 101) dX12_line_100 rfl (iZ_shl1 (by omega) (by omega)) ?_
      refine e_ior (q := 102) dX12_line_101 rfl (iZ_orB hT.1 hT.2 (by omega)) ?_
      refine e_putI (q := 105) (jz := 19) dX12_line_102 rfl fp_X12_219 rfl (by first | assumption | rfl) rfl ?_
      refine e_aload_n (q := 106) (i := 0) dX12_line_105 rfl rfl rfl ?_
      refine e_Vv (q := 109) (vs := []) ok_X12_token ml_X12_196 dX12_line_106 rfl ⟨_, _, rfl⟩ (by first | assumption | rfl) rfl rfl (Nat.le_of_ble_eq_true rfl) (by decide) (c_mtok (σ := (sI σ 82 19 (stB (σ.1 82 19) t.1.toNat))) (hC.cg rfl (fun j a b => by rw [sI_1, if_neg (fun q => by have := q.2; omega)])) (by omega)) (fun s2 h2 => ?_)
      exact go s2 h2.1 h2.2
    · refine e_iload_n (q := 63) (i := 1) dX12_line_62 rfl rfl rfl ?_
      refine e_bipush (q := 65) dX12_line_63 rfl (by decide) ?_
      refine e_icmp_ne (q := 68) (tgt := 85) dX12_line_65 rfl (by decide) (fun c65 => ?_) (fun c65 => ?_)
      · refine e_aload_n (q := 86) (i := 0) dX12_line_85 rfl rfl rfl ?_
        refine e_getI (q := 89) (jz := 26) dX12_line_86 rfl fg_X12_190 rfl (by first | assumption | rfl) rfl ?_
        rw [hf]
        refine e_if_eq (q := 92) (tgt := 93) dX12_line_89 rfl (by decide) (fun c89 => ?_) (fun c89 => by exfalso; omega)
        refine e_aload_n (q := 94) (i := 0) dX12_line_93 rfl rfl rfl ?_
        refine e_dup (q := 95) dX12_line_94 rfl rfl ?_
        refine e_getI (q := 98) (jz := 19) dX12_line_95 rfl fg_X12_219 rfl (by first | assumption | rfl) rfl ?_
        refine e_iconst (q := 99) dX12_line_98 rfl ?_
        refine e_iload_n (q := 100) (i := 1) dX12_line_99 rfl rfl rfl ?_
        refine e_ishl (q := 101) dX12_line_100 rfl (iZ_shl1 (by omega) (by omega)) ?_
        refine e_ior (q := 102) dX12_line_101 rfl (iZ_orB hT.1 hT.2 (by omega)) ?_
        refine e_putI (q := 105) (jz := 19) dX12_line_102 rfl fp_X12_219 rfl (by first | assumption | rfl) rfl ?_
        refine e_aload_n (q := 106) (i := 0) dX12_line_105 rfl rfl rfl ?_
        refine e_Vv (q := 109) (vs := []) ok_X12_token ml_X12_196 dX12_line_106 rfl ⟨_, _, rfl⟩ (by first | assumption | rfl) rfl rfl (Nat.le_of_ble_eq_true rfl) (by decide) (c_mtok (σ := (sI σ 82 19 (stB (σ.1 82 19) t.1.toNat))) (hC.cg rfl (fun j a b => by rw [sI_1, if_neg (fun q => by have := q.2; omega)])) (by omega)) (fun s2 h2 => ?_)
        exact go s2 h2.1 h2.2
      · refine e_aload_n (q := 69) (i := 0) dX12_line_68 rfl rfl rfl ?_
        refine e_getI (q := 72) (jz := 19) dX12_line_69 rfl fg_X12_219 rfl (by first | assumption | rfl) rfl ?_
        refine e_iload_n (q := 73) (i := 1) dX12_line_72 rfl rfl rfl ?_
        refine e_ishr (q := 74) dX12_line_73 rfl (iZ_shrk hT.1 (by omega) (by omega) (by omega)) ?_
        refine e_iconst (q := 75) dX12_line_74 rfl ?_
        refine e_iand (q := 76) dX12_line_75 rfl (iZ_and1 (Int.ediv_nonneg hT.1 (Int.pow_nonneg (by decide))) hTd) ?_
        refine e_iconst (q := 77) dX12_line_76 rfl ?_
        refine e_icmp_ne (q := 80) (tgt := 85) dX12_line_77 rfl (by decide) (fun c77 => ?_) (fun c77 => by exfalso; exact hbt (by omega) c77) (hx := ⟨by omega, by omega⟩)
        refine e_aload_n (q := 86) (i := 0) dX12_line_85 rfl rfl rfl ?_
        refine e_getI (q := 89) (jz := 26) dX12_line_86 rfl fg_X12_190 rfl (by first | assumption | rfl) rfl ?_
        rw [hf]
        refine e_if_eq (q := 92) (tgt := 93) dX12_line_89 rfl (by decide) (fun c89 => ?_) (fun c89 => by exfalso; omega)
        refine e_aload_n (q := 94) (i := 0) dX12_line_93 rfl rfl rfl ?_
        refine e_dup (q := 95) dX12_line_94 rfl rfl ?_
        refine e_getI (q := 98) (jz := 19) dX12_line_95 rfl fg_X12_219 rfl (by first | assumption | rfl) rfl ?_
        refine e_iconst (q := 99) dX12_line_98 rfl ?_
        refine e_iload_n (q := 100) (i := 1) dX12_line_99 rfl rfl rfl ?_
        refine e_ishl (q := 101) dX12_line_100 rfl (iZ_shl1 (by omega) (by omega)) ?_
        refine e_ior (q := 102) dX12_line_101 rfl (iZ_orB hT.1 hT.2 (by omega)) ?_
        refine e_putI (q := 105) (jz := 19) dX12_line_102 rfl fp_X12_219 rfl (by first | assumption | rfl) rfl ?_
        refine e_aload_n (q := 106) (i := 0) dX12_line_105 rfl rfl rfl ?_
        refine e_Vv (q := 109) (vs := []) ok_X12_token ml_X12_196 dX12_line_106 rfl ⟨_, _, rfl⟩ (by first | assumption | rfl) rfl rfl (Nat.le_of_ble_eq_true rfl) (by decide) (c_mtok (σ := (sI σ 82 19 (stB (σ.1 82 19) t.1.toNat))) (hC.cg rfl (fun j a b => by rw [sI_1, if_neg (fun q => by have := q.2; omega)])) (by omega)) (fun s2 h2 => ?_)
        exact go s2 h2.1 h2.2
  · refine e_aload_n (q := 24) (i := 0) dX12_line_23 rfl rfl rfl ?_
    refine e_getI (q := 27) (jz := 20) dX12_line_24 rfl fg_X12_213 rfl (by first | assumption | rfl) rfl ?_
    refine e_if_le (q := 30) (tgt := 36) dX12_line_27 rfl (by decide) (fun c27 => ?_) (fun c27 => by exfalso; omega) (hx := ⟨by omega, by omega⟩)
    refine e_aload_n (q := 37) (i := 0) dX12_line_36 rfl rfl rfl ?_
    refine e_getI (q := 40) (jz := 25) dX12_line_37 rfl fg_X12_165 rfl (by first | assumption | rfl) rfl ?_
    rw [hv1]
    refine e_istore_n (q := 41) (i := 1) (L' := [_, _, _, _, _, _]) dX12_line_40 rfl rfl (by decide) rfl rfl ?_
    refine e_aload_n (q := 42) (i := 0) dX12_line_41 rfl rfl rfl ?_
    refine e_iload_n (q := 43) (i := 1) dX12_line_42 rfl rfl rfl ?_
    refine e_Vip (q := 46) (vs := [_]) ok_X12_isFull ml_X12_216 dX12_line_43 rfl ⟨_, _, rfl⟩ (by first | assumption | rfl) rfl rfl (Nat.le_of_ble_eq_true rfl) (by decide) (c_X12_isFull (x := t.1) ⟨by omega, by omega⟩ ⟨by omega, by omega⟩ ⟨by omega, by omega⟩ ⟨by omega, by omega⟩) ?_
    rw [if_neg (by omega)]
    refine e_if_eq (q := 49) (tgt := 57) dX12_line_46 rfl (by decide) (fun c46 => ?_) (fun c46 => by exfalso; omega)
    refine e_iload_n (q := 58) (i := 1) dX12_line_57 rfl rfl rfl ?_
    refine e_iconst (q := 59) dX12_line_58 rfl ?_
    refine e_icmp_eq (q := 62) (tgt := 68) dX12_line_59 rfl (by decide) (fun c59 => ?_) (fun c59 => ?_)
    · refine e_aload_n (q := 69) (i := 0) dX12_line_68 rfl rfl rfl ?_
      refine e_getI (q := 72) (jz := 19) dX12_line_69 rfl fg_X12_219 rfl (by first | assumption | rfl) rfl ?_
      refine e_iload_n (q := 73) (i := 1) dX12_line_72 rfl rfl rfl ?_
      refine e_ishr (q := 74) dX12_line_73 rfl (iZ_shrk hT.1 (by omega) (by omega) (by omega)) ?_
      refine e_iconst (q := 75) dX12_line_74 rfl ?_
      refine e_iand (q := 76) dX12_line_75 rfl (iZ_and1 (Int.ediv_nonneg hT.1 (Int.pow_nonneg (by decide))) hTd) ?_
      refine e_iconst (q := 77) dX12_line_76 rfl ?_
      refine e_icmp_ne (q := 80) (tgt := 85) dX12_line_77 rfl (by decide) (fun c77 => ?_) (fun c77 => by exfalso; exact hbt (by omega) c77) (hx := ⟨by omega, by omega⟩)
      refine e_aload_n (q := 86) (i := 0) dX12_line_85 rfl rfl rfl ?_
      refine e_getI (q := 89) (jz := 26) dX12_line_86 rfl fg_X12_190 rfl (by first | assumption | rfl) rfl ?_
      rw [hf]
      refine e_if_eq (q := 92) (tgt := 93) dX12_line_89 rfl (by decide) (fun c89 => ?_) (fun c89 => by exfalso; omega)
      refine e_aload_n (q := 94) (i := 0) dX12_line_93 rfl rfl rfl ?_
      refine e_dup (q := 95) dX12_line_94 rfl rfl ?_
      refine e_getI (q := 98) (jz := 19) dX12_line_95 rfl fg_X12_219 rfl (by first | assumption | rfl) rfl ?_
      refine e_iconst (q := 99) dX12_line_98 rfl ?_
      refine e_iload_n (q := 100) (i := 1) dX12_line_99 rfl rfl rfl ?_
      refine e_ishl (q := 101) dX12_line_100 rfl (iZ_shl1 (by omega) (by omega)) ?_
      refine e_ior (q := 102) dX12_line_101 rfl (iZ_orB hT.1 hT.2 (by omega)) ?_
      refine e_putI (q := 105) (jz := 19) dX12_line_102 rfl fp_X12_219 rfl (by first | assumption | rfl) rfl ?_
      refine e_aload_n (q := 106) (i := 0) dX12_line_105 rfl rfl rfl ?_
      refine e_Vv (q := 109) (vs := []) ok_X12_token ml_X12_196 dX12_line_106 rfl ⟨_, _, rfl⟩ (by first | assumption | rfl) rfl rfl (Nat.le_of_ble_eq_true rfl) (by decide) (c_mtok (σ := (sI σ 82 19 (stB (σ.1 82 19) t.1.toNat))) (hC.cg rfl (fun j a b => by rw [sI_1, if_neg (fun q => by have := q.2; omega)])) (by omega)) (fun s2 h2 => ?_)
      exact go s2 h2.1 h2.2
    · refine e_iload_n (q := 63) (i := 1) dX12_line_62 rfl rfl rfl ?_
      refine e_bipush (q := 65) dX12_line_63 rfl (by decide) ?_
      refine e_icmp_ne (q := 68) (tgt := 85) dX12_line_65 rfl (by decide) (fun c65 => ?_) (fun c65 => ?_)
      · refine e_aload_n (q := 86) (i := 0) dX12_line_85 rfl rfl rfl ?_
        refine e_getI (q := 89) (jz := 26) dX12_line_86 rfl fg_X12_190 rfl (by first | assumption | rfl) rfl ?_
        rw [hf]
        refine e_if_eq (q := 92) (tgt := 93) dX12_line_89 rfl (by decide) (fun c89 => ?_) (fun c89 => by exfalso; omega)
        refine e_aload_n (q := 94) (i := 0) dX12_line_93 rfl rfl rfl ?_
        refine e_dup (q := 95) dX12_line_94 rfl rfl ?_
        refine e_getI (q := 98) (jz := 19) dX12_line_95 rfl fg_X12_219 rfl (by first | assumption | rfl) rfl ?_
        refine e_iconst (q := 99) dX12_line_98 rfl ?_
        refine e_iload_n (q := 100) (i := 1) dX12_line_99 rfl rfl rfl ?_
        refine e_ishl (q := 101) dX12_line_100 rfl (iZ_shl1 (by omega) (by omega)) ?_
        refine e_ior (q := 102) dX12_line_101 rfl (iZ_orB hT.1 hT.2 (by omega)) ?_
        refine e_putI (q := 105) (jz := 19) dX12_line_102 rfl fp_X12_219 rfl (by first | assumption | rfl) rfl ?_
        refine e_aload_n (q := 106) (i := 0) dX12_line_105 rfl rfl rfl ?_
        refine e_Vv (q := 109) (vs := []) ok_X12_token ml_X12_196 dX12_line_106 rfl ⟨_, _, rfl⟩ (by first | assumption | rfl) rfl rfl (Nat.le_of_ble_eq_true rfl) (by decide) (c_mtok (σ := (sI σ 82 19 (stB (σ.1 82 19) t.1.toNat))) (hC.cg rfl (fun j a b => by rw [sI_1, if_neg (fun q => by have := q.2; omega)])) (by omega)) (fun s2 h2 => ?_)
        exact go s2 h2.1 h2.2
      · refine e_aload_n (q := 69) (i := 0) dX12_line_68 rfl rfl rfl ?_
        refine e_getI (q := 72) (jz := 19) dX12_line_69 rfl fg_X12_219 rfl (by first | assumption | rfl) rfl ?_
        refine e_iload_n (q := 73) (i := 1) dX12_line_72 rfl rfl rfl ?_
        refine e_ishr (q := 74) dX12_line_73 rfl (iZ_shrk hT.1 (by omega) (by omega) (by omega)) ?_
        refine e_iconst (q := 75) dX12_line_74 rfl ?_
        refine e_iand (q := 76) dX12_line_75 rfl (iZ_and1 (Int.ediv_nonneg hT.1 (Int.pow_nonneg (by decide))) hTd) ?_
        refine e_iconst (q := 77) dX12_line_76 rfl ?_
        refine e_icmp_ne (q := 80) (tgt := 85) dX12_line_77 rfl (by decide) (fun c77 => ?_) (fun c77 => by exfalso; exact hbt (by omega) c77) (hx := ⟨by omega, by omega⟩)
        refine e_aload_n (q := 86) (i := 0) dX12_line_85 rfl rfl rfl ?_
        refine e_getI (q := 89) (jz := 26) dX12_line_86 rfl fg_X12_190 rfl (by first | assumption | rfl) rfl ?_
        rw [hf]
        refine e_if_eq (q := 92) (tgt := 93) dX12_line_89 rfl (by decide) (fun c89 => ?_) (fun c89 => by exfalso; omega)
        refine e_aload_n (q := 94) (i := 0) dX12_line_93 rfl rfl rfl ?_
        refine e_dup (q := 95) dX12_line_94 rfl rfl ?_
        refine e_getI (q := 98) (jz := 19) dX12_line_95 rfl fg_X12_219 rfl (by first | assumption | rfl) rfl ?_
        refine e_iconst (q := 99) dX12_line_98 rfl ?_
        refine e_iload_n (q := 100) (i := 1) dX12_line_99 rfl rfl rfl ?_
        refine e_ishl (q := 101) dX12_line_100 rfl (iZ_shl1 (by omega) (by omega)) ?_
        refine e_ior (q := 102) dX12_line_101 rfl (iZ_orB hT.1 hT.2 (by omega)) ?_
        refine e_putI (q := 105) (jz := 19) dX12_line_102 rfl fp_X12_219 rfl (by first | assumption | rfl) rfl ?_
        refine e_aload_n (q := 106) (i := 0) dX12_line_105 rfl rfl rfl ?_
        refine e_Vv (q := 109) (vs := []) ok_X12_token ml_X12_196 dX12_line_106 rfl ⟨_, _, rfl⟩ (by first | assumption | rfl) rfl rfl (Nat.le_of_ble_eq_true rfl) (by decide) (c_mtok (σ := (sI σ 82 19 (stB (σ.1 82 19) t.1.toNat))) (hC.cg rfl (fun j a b => by rw [sI_1, if_neg (fun q => by have := q.2; omega)])) (by omega)) (fun s2 h2 => ?_)
        exact go s2 h2.1 h2.2

