/-! ===== the reference's frames and laws ===== -/
/-- nothing has changed but these cells, and of the reference itself these fields -/
def Fm (C : List Nat) (F : List Int) (σ σ' : Sg) : Prop := Fr (82 :: C) σ σ' ∧ ∀ j, j ∉ F → σ'.1 82 j = σ.1 82 j
theorem Fm.rf (C : List Nat) (F : List Int) (σ : Sg) : Fm C F σ σ := ⟨Fr.rf _ _, fun _ _ => rfl⟩
theorem Fm.tr {C : List Nat} {F : List Int} {σ τ σ' : Sg} (h : Fm C F σ τ) (h' : Fm C F τ σ') : Fm C F σ σ' := ⟨h.1.tr h'.1, fun j q => (h'.2 j q).trans (h.2 j q)⟩
theorem Fm.mono {C C' : List Nat} {F F' : List Int} {σ σ' : Sg} (h : Fm C F σ σ') (hC : ∀ a, a ∈ C → a ∈ C') (hF : ∀ j, j ∈ F → j ∈ F') : Fm C' F' σ σ' := ⟨h.1.mono (fun a q => by rcases List.mem_cons.mp q with rfl | q; exact List.mem_cons_self; exact List.mem_cons_of_mem _ (hC a q)), fun j q => h.2 j (fun w => q (hF j w))⟩
theorem Fm.si {C : List Nat} {F : List Int} {σ τ : Sg} (h : Fm C F σ τ) {k : Nat} (hk : k ∈ C) (h82 : k ≠ 82) (j v : Int) : Fm C F σ (sI τ k j v) := ⟨h.1.sI (List.mem_cons_of_mem _ hk) j v, fun i q => by rw [sI_1, if_neg (fun w => h82 w.1.symm)]; exact h.2 i q⟩
theorem Fm.sj {C : List Nat} {F : List Int} {σ τ : Sg} (h : Fm C F σ τ) {k : Nat} (hk : k ∈ C) (j v : Int) : Fm C F σ (sJ τ k j v) := ⟨h.1.sJ (List.mem_cons_of_mem _ hk) j v, fun i q => by rw [sJ_1]; exact h.2 i q⟩
theorem Fm.s82 {C : List Nat} {F : List Int} {σ τ : Sg} (h : Fm C F σ τ) {j : Int} (hj : j ∈ F) (v : Int) : Fm C F σ (sI τ 82 j v) := ⟨h.1.sI List.mem_cons_self j v, fun i q => by rw [sI_1, if_neg (fun w => q (by rw [w.2]; exact hj))]; exact h.2 i q⟩
theorem Fm.e1 {C : List Nat} {F : List Int} {σ τ : Sg} (h : Fm C F σ τ) {a : Nat} (ha : a ∉ 82 :: C) (i : Int) : τ.1 a i = σ.1 a i := h.1.e1 ha i
theorem Fm.e2 {C : List Nat} {F : List Int} {σ τ : Sg} (h : Fm C F σ τ) {a : Nat} (ha : a ∉ 82 :: C) (i : Int) : τ.2 a i = σ.2 a i := h.1.e2 ha i
theorem Fm.c {C : List Nat} {F : List Int} {σ τ : Sg} (h : Fm C F σ τ) {a : Nat} (ha : a ∉ 82 :: C) : τ.1 a = σ.1 a := (h.1 a ha).1
/-- a sign as the class's token -/
def sgT (s : Int) : Int := if s = 43 then 26 else if s = 45 then 27 else if s = 42 then 28 else if s = 47 then 29 else if s = 60 then 30 else if s = 256 then 31 else if s = 61 then 32 else if s = 257 then 33 else if s = 258 then 34 else if s = 62 then 35 else if s = 260 then 13 else if s = 261 then 12 else 11
def isBin (s : Int) : Prop := s = 43 ∨ s = 45 ∨ s = 42 ∨ s = 47 ∨ s = 60 ∨ s = 256 ∨ s = 61 ∨ s = 257 ∨ s = 258 ∨ s = 62 ∨ s = 261 ∨ s = 262
def mCode (σ : Sg) : Int → Int := fun k => if σ.1 98 k = 0 then σ.1 99 k else if σ.1 98 k = 1 then -(σ.1 99 k + 14) else -(sgT (σ.1 99 k))
def mKn (σ : Sg) (k : Int) : Prop := (σ.1 98 k = 0 ∧ 0 ≤ σ.1 99 k ∧ σ.1 99 k ≤ 9999) ∨ (σ.1 98 k = 1 ∧ 0 ≤ σ.1 99 k ∧ σ.1 99 k ≤ 6) ∨ (σ.1 98 k = 2 ∧ (σ.1 99 k = 260 ∨ isBin (σ.1 99 k)))
/-- how many values lie on the stack -/
def dpStep (d : Nat) (kn : Int) : Option Nat := if 0 ≤ kn ∨ (14 ≤ -kn ∧ -kn ≤ 20) then some (d + 1) else if -kn = 13 then (if 1 ≤ d then some d else none) else if 2 ≤ d then some (d - 1) else none
def dpRun (code : Int → Int) : Nat → Int → Nat → Option Nat
  | 0, _, d => some d
  | n + 1, k, d => match dpStep d (code k) with
    | none => none
    | some d' => dpRun code n (k + 1) d'
theorem dpRun_add (code : Int → Int) : ∀ (a b : Nat) (k : Int) (d : Nat), dpRun code (a + b) k d = (dpRun code a k d).bind (fun d' => dpRun code b (k + a) d')
  | 0, b, k, d => by
    rw [Nat.zero_add]
    show dpRun code b k d = dpRun code b (k + (0 : Nat)) d
    rw [show k + ((0 : Nat) : Int) = k by omega]
  | a + 1, b, k, d => by
    rw [show a + 1 + b = (a + b) + 1 by omega]
    simp only [dpRun]
    cases dpStep d (code k) with
    | none => rfl
    | some d' =>
      show dpRun code (a + b) (k + 1) d' = _
      rw [dpRun_add code a b (k + 1) d', show k + 1 + (a : Int) = k + ((a + 1 : Nat) : Int) by omega]
def MW (σ : Sg) : Prop := ∀ r, 0 ≤ r → r < 3 → 0 ≤ σ.1 96 r ∧ σ.1 96 r ≤ σ.1 97 r ∧ σ.1 97 r ≤ 64 ∧ (∀ k, σ.1 96 r ≤ k → k < σ.1 97 r → mKn σ k) ∧ (σ.1 96 r < σ.1 97 r → dpRun (mCode σ) (σ.1 97 r - σ.1 96 r).toNat (σ.1 96 r) 0 = some 1)
def mLaw (σ : Sg) (r : Int) (nm : Int → Int) : Int := evLaw nm (mCode σ) (σ.1 96 r) (σ.1 97 r)
theorem sg_bin {s : Int} (h : isBin s) : isOp (sgT s) ∧ sgT s ≠ 13 := by
  unfold isBin at h
  rcases h with rfl | rfl | rfl | rfl | rfl | rfl | rfl | rfl | rfl | rfl | rfl | rfl <;> (unfold isOp; decide)

theorem c_X12_is {G : Gx} {σ : Sg} {b : Int} (hb : b = 0 ∨ b = 1) : Con G 1 mX12_is [.int (iZ b)] σ (pL (pE σ b)) := by
  refine e_entry om_X12_is (Nat.le_of_ble_eq_true rfl) (L := [some (.int (iZ b))]) rfl ?_
  refine e_iload_n (q := 1) (i := 0) dX12_is_0 rfl rfl rfl ?_
  refine e_if_eq (q := 4) (tgt := 8) dX12_is_1 rfl (by decide) (fun c1 => ?_) (fun c1 => ?_)
  · refine e_lconst (q := 9) (z := 0) dX12_is_8 rfl (by decide) ?_
    exact r_l dX12_is_9 rfl ⟨by omega, rfl⟩
  · refine e_lconst (q := 5) (z := 1) dX12_is_4 rfl (by decide) ?_
    refine e_goto (tgt := 9) dX12_is_5 (by decide) ?_
    exact r_l dX12_is_9 rfl ⟨by omega, rfl⟩

theorem c_X12_worksN {G : Gx} {σ : Sg} {y : Int} {r : List Int} (hw : σ.1 82 34 = r.length + 1) (h64 : r.length + 1 ≤ 64) (hS : StkIs (σ.2 101) (y :: r)) (hy : -1000000000000 ≤ y ∧ y ≤ 1000000000000) : Con G 2 mX12_works [.ref (G.2.2.2 + 82), .int (iZ 260)] σ (pI (fun z σ' => z = 1 ∧ σ' = sJ σ 101 (σ.1 82 34 - 1) (if y = 0 then 1 else 0))) := by
  have ey : σ.2 101 (σ.1 82 34 - 1) = y := by rw [show σ.1 82 34 - 1 = (r.length : Int) by omega]; exact hS.1
  refine e_entry om_X12_works (Nat.le_of_ble_eq_true rfl) (L := [some (.ref (G.2.2.2 + 82)), some (.int (iZ 260)), none, none, none, none, none, none]) rfl ?_
  refine e_aload_n (q := 1) (i := 0) dX12_works_0 rfl rfl rfl ?_
  refine e_getR (q := 4) dX12_works_1 rfl fg_X12_69 (by first | assumption | rfl) rfl ?_
  refine e_aload_n (q := 5) (i := 0) dX12_works_4 rfl rfl rfl ?_
  refine e_getI (q := 8) (jz := 34) dX12_works_5 rfl fg_X12_299 rfl (by first | assumption | rfl) rfl ?_
  refine e_iconst (q := 9) dX12_works_8 rfl ?_
  refine e_isub (q := 10) dX12_works_9 rfl ?_
  refine e_lald (q := 11) dX12_works_10 rfl (by first | assumption | rfl) ?_
  rw [ey]
  refine e_lstore_n (q := 12) (i := 2) (L' := [_, _, _, _, _, _, _, _]) dX12_works_11 rfl rfl (by decide) rfl rfl ?_
  refine e_iload_n (q := 13) (i := 1) dX12_works_12 rfl rfl rfl ?_
  refine e_sipush (q := 16) dX12_works_13 rfl (by decide) ?_
  refine e_icmp_ne (q := 19) (tgt := 46) dX12_works_16 rfl (by decide) (fun c16 => absurd c16 (by decide)) (fun c16 => ?_)
  refine e_aload_n (q := 20) (i := 0) dX12_works_19 rfl rfl rfl ?_
  refine e_getR (q := 23) dX12_works_20 rfl fg_X12_69 (by first | assumption | rfl) rfl ?_
  refine e_aload_n (q := 24) (i := 0) dX12_works_23 rfl rfl rfl ?_
  refine e_getI (q := 27) (jz := 34) dX12_works_24 rfl fg_X12_299 rfl (by first | assumption | rfl) rfl ?_
  refine e_iconst (q := 28) dX12_works_27 rfl ?_
  refine e_isub (q := 29) dX12_works_28 rfl ?_
  refine e_lload_n (q := 30) (i := 2) dX12_works_29 rfl rfl rfl ?_
  refine e_lconst (q := 31) (z := 0) dX12_works_30 rfl (by decide) ?_
  refine e_lcmp (q := 32) dX12_works_31 rfl (by first | assumption | exact ⟨by omega, by omega⟩) (by first | assumption | exact ⟨by omega, by omega⟩) ?_
  refine e_if_ne (q := 35) (tgt := 39) dX12_works_32 rfl (by decide) (fun c32 => ?_) (fun c32 => ?_)
  · refine e_iconst (q := 40) dX12_works_39 rfl ?_
    refine e_Slp (q := 43) (vs := [_]) ok_X12_is ml_X12_302 dX12_works_40 rfl rfl rfl (Nat.le_of_ble_eq_true rfl) (by decide) (c_X12_is (by first | exact Or.inl rfl | exact Or.inr rfl)) ?_
    refine e_last (q := 44) dX12_works_43 rfl (by first | assumption | rfl) ?_
    refine e_iconst (q := 45) dX12_works_44 rfl ?_
    exact r_z dX12_works_45 rfl (by first | exact Or.inl rfl | exact Or.inr rfl | omega) ⟨rfl, by rw [show (if y = 0 then (1 : Int) else 0) = _ from by first | exact if_pos (by omega) | exact if_neg (by omega)]⟩
  · refine e_iconst (q := 36) dX12_works_35 rfl ?_
    refine e_goto (tgt := 40) dX12_works_36 (by decide) ?_
    refine e_Slp (q := 43) (vs := [_]) ok_X12_is ml_X12_302 dX12_works_40 rfl rfl rfl (Nat.le_of_ble_eq_true rfl) (by decide) (c_X12_is (by first | exact Or.inl rfl | exact Or.inr rfl)) ?_
    refine e_last (q := 44) dX12_works_43 rfl (by first | assumption | rfl) ?_
    refine e_iconst (q := 45) dX12_works_44 rfl ?_
    exact r_z dX12_works_45 rfl (by first | exact Or.inl rfl | exact Or.inr rfl | omega) ⟨rfl, by rw [show (if y = 0 then (1 : Int) else 0) = _ from by first | exact if_pos (by omega) | exact if_neg (by omega)]⟩

set_option maxHeartbeats 4000000 in
theorem c_X12_worksB {G : Gx} {σ : Sg} {s x y : Int} {r : List Int} (hsg : isBin s) (hw : σ.1 82 34 = r.length + 2) (h64 : r.length + 2 ≤ 64) (hS : StkIs (σ.2 101) (y :: x :: r)) (hx : -1000000000000 ≤ x ∧ x ≤ 1000000000000) (hy : -1000000000000 ≤ y ∧ y ≤ 1000000000000)  : Con G 2 mX12_works [.ref (G.2.2.2 + 82), .int (iZ s)] σ (pI (fun z σ' => (z = 1 ∧ (¬ (1000000000000 < jn (sgT s) x y ∨ jn (sgT s) x y < -1000000000000)) ∧ σ' = sJ (sI σ 82 34 (σ.1 82 34 - 1)) 101 (σ.1 82 34 - 2) (jn (sgT s) x y)) ∨ (z = 0 ∧ ¬ (¬ (1000000000000 < jn (sgT s) x y ∨ jn (sgT s) x y < -1000000000000)) ∧ Fm [101] [34] σ σ'))) := by
  have ey : σ.2 101 (σ.1 82 34 - 1) = y := by rw [show σ.1 82 34 - 1 = ((x :: r).length : Int) by simp only [List.length_cons]; omega]; exact hS.1
  have ex : σ.2 101 (σ.1 82 34 - 2) = x := by rw [show σ.1 82 34 - 2 = (r.length : Int) by omega]; exact hS.2.1
  have e34 : (sI σ 82 34 (σ.1 82 34 - 1)).1 82 34 = σ.1 82 34 - 1 := by rw [sI_1, if_pos ⟨rfl, rfl⟩]
  unfold isBin at hsg
  have fin : ∀ v : Int, R64 v → v = jn (sgT s) x y → J G 2 mX12_works (pI (fun z σ' => (z = 1 ∧ (¬ (1000000000000 < jn (sgT s) x y ∨ jn (sgT s) x y < -1000000000000)) ∧ σ' = sJ (sI σ 82 34 (σ.1 82 34 - 1)) 101 (σ.1 82 34 - 2) (jn (sgT s) x y)) ∨ (z = 0 ∧ ¬ (¬ (1000000000000 < jn (sgT s) x y ∨ jn (sgT s) x y < -1000000000000)) ∧ Fm [101] [34] σ σ'))) (sI σ 82 34 (σ.1 82 34 - 1)) 407 [some (.ref (G.2.2.2 + 82)), some (.int (iZ s)), some (.long (lZ y)), none, some (.long (lZ x)), none, some (.long (lZ v)), none] [] := by
    intro v hvr hv
    refine e_aload_n (q := 408) (i := 0) dX12_works_407 rfl rfl rfl ?_
    refine e_getR (q := 411) dX12_works_408 rfl fg_X12_69 (by first | assumption | rfl) rfl ?_
    refine e_aload_n (q := 412) (i := 0) dX12_works_411 rfl rfl rfl ?_
    refine e_getI (q := 415) (jz := 34) dX12_works_412 rfl fg_X12_299 rfl (by first | assumption | rfl) rfl ?_
    refine e_iconst (q := 416) dX12_works_415 rfl ?_
    refine e_isub (q := 417) dX12_works_416 rfl ?_
    refine e_lload (q := 419) dX12_works_417 rfl rfl ?_
    refine e_last (q := 420) dX12_works_419 rfl (by first | assumption | rfl) ?_
    refine e_lload (q := 422) dX12_works_420 rfl rfl ?_
    refine e_ldc2 (q := 425) (z := 1000000000000) dX12_works_422 rfl kw_X12_312 (by decide) ?_
    refine e_lcmp (q := 426) dX12_works_425 rfl (by first | assumption | exact ⟨by omega, by omega⟩) (by first | assumption | exact ⟨by omega, by omega⟩) ?_
    refine e_if_gt (q := 429) (tgt := 442) dX12_works_426 rfl (by decide) (fun c426 => ?_) (fun c426 => ?_) (hx := ⟨by omega, by omega⟩)
    · refine e_iconst (q := 443) dX12_works_442 rfl ?_
      exact r_z dX12_works_443 rfl (by first | exact Or.inl rfl | exact Or.inr rfl | omega) (Or.inr ⟨rfl, by rw [← hv]; omega, ((Fm.rf _ _ σ).s82 (by decide) _).sj (by decide) _ _⟩)
    · refine e_lload (q := 431) dX12_works_429 rfl rfl ?_
      refine e_ldc2 (q := 434) (z := -1000000000000) dX12_works_431 rfl kw_X12_314 (by decide) ?_
      refine e_lcmp (q := 435) dX12_works_434 rfl (by first | assumption | exact ⟨by omega, by omega⟩) (by first | assumption | exact ⟨by omega, by omega⟩) ?_
      refine e_if_lt (q := 438) (tgt := 442) dX12_works_435 rfl (by decide) (fun c435 => ?_) (fun c435 => ?_) (hx := ⟨by omega, by omega⟩)
      · refine e_iconst (q := 443) dX12_works_442 rfl ?_
        exact r_z dX12_works_443 rfl (by first | exact Or.inl rfl | exact Or.inr rfl | omega) (Or.inr ⟨rfl, by rw [← hv]; omega, ((Fm.rf _ _ σ).s82 (by decide) _).sj (by decide) _ _⟩)
      · refine e_iconst (q := 439) dX12_works_438 rfl ?_
        refine e_goto (tgt := 443) dX12_works_439 (by decide) ?_
        exact r_z dX12_works_443 rfl (by first | exact Or.inl rfl | exact Or.inr rfl | omega) (Or.inl ⟨rfl, by rw [← hv]; omega, by rw [← hv, e34, show σ.1 82 34 - 1 - 1 = σ.1 82 34 - 2 by omega]⟩)
  refine e_entry om_X12_works (Nat.le_of_ble_eq_true rfl) (L := [some (.ref (G.2.2.2 + 82)), some (.int (iZ s)), none, none, none, none, none, none]) rfl ?_
  refine e_aload_n (q := 1) (i := 0) dX12_works_0 rfl rfl rfl ?_
  refine e_getR (q := 4) dX12_works_1 rfl fg_X12_69 (by first | assumption | rfl) rfl ?_
  refine e_aload_n (q := 5) (i := 0) dX12_works_4 rfl rfl rfl ?_
  refine e_getI (q := 8) (jz := 34) dX12_works_5 rfl fg_X12_299 rfl (by first | assumption | rfl) rfl ?_
  refine e_iconst (q := 9) dX12_works_8 rfl ?_
  refine e_isub (q := 10) dX12_works_9 rfl ?_
  refine e_lald (q := 11) dX12_works_10 rfl (by first | assumption | rfl) ?_
  rw [ey]
  refine e_lstore_n (q := 12) (i := 2) (L' := [_, _, _, _, _, _, _, _]) dX12_works_11 rfl rfl (by decide) rfl rfl ?_
  refine e_iload_n (q := 13) (i := 1) dX12_works_12 rfl rfl rfl ?_
  refine e_sipush (q := 16) dX12_works_13 rfl (by decide) ?_
  refine e_icmp_ne (q := 19) (tgt := 46) dX12_works_16 rfl (by decide) (fun c16 => ?_) (fun c16 => by exfalso; omega) (hx := ⟨by omega, by omega⟩)
  refine e_aload_n (q := 47) (i := 0) dX12_works_46 rfl rfl rfl ?_
  refine e_getR (q := 50) dX12_works_47 rfl fg_X12_69 (by first | assumption | rfl) rfl ?_
  refine e_aload_n (q := 51) (i := 0) dX12_works_50 rfl rfl rfl ?_
  refine e_getI (q := 54) (jz := 34) dX12_works_51 rfl fg_X12_299 rfl (by first | assumption | rfl) rfl ?_
  refine e_iconst (q := 55) dX12_works_54 rfl ?_
  refine e_isub (q := 56) dX12_works_55 rfl ?_
  refine e_lald (q := 57) dX12_works_56 rfl (by first | assumption | rfl) ?_
  rw [ex]
  refine e_lstore (q := 59) (L' := [_, _, _, _, _, _, _, _]) dX12_works_57 rfl (by decide) rfl rfl ?_
  refine e_aload_n (q := 60) (i := 0) dX12_works_59 rfl rfl rfl ?_
  refine e_dup (q := 61) dX12_works_60 rfl rfl ?_
  refine e_getI (q := 64) (jz := 34) dX12_works_61 rfl fg_X12_299 rfl (by first | assumption | rfl) rfl ?_
  refine e_iconst (q := 65) dX12_works_64 rfl ?_
  refine e_isub (q := 66) dX12_works_65 rfl ?_
  refine e_putI (q := 69) (jz := 34) dX12_works_66 rfl fp_X12_299 rfl (by first | assumption | rfl) rfl ?_
  refine e_iload_n (q := 70) (i := 1) dX12_works_69 rfl rfl rfl ?_
  by_cases k70_42 : s = 42
  · refine e_look (tgt := 186) dX12_works_70 (by decide) ⟨by omega, by omega⟩ (by rw [k70_42]; try rfl) (by decide) ?_
    refine e_lload (q := 188) dX12_works_186 rfl rfl ?_
    refine e_lconst (q := 189) (z := 0) dX12_works_188 rfl (by decide) ?_
    refine e_lcmp (q := 190) dX12_works_189 rfl (by first | assumption | exact ⟨by omega, by omega⟩) (by first | assumption | exact ⟨by omega, by omega⟩) ?_
    refine e_if_eq (q := 193) (tgt := 212) dX12_works_190 rfl (by decide) (fun c190 => ?_) (fun c190 => ?_)
    · refine e_lload (q := 214) dX12_works_212 rfl rfl ?_
      refine e_lload_n (q := 215) (i := 2) dX12_works_214 rfl rfl rfl ?_
      refine e_lmul (q := 216) dX12_works_215 rfl ?_
      refine e_lstore (q := 218) (L' := [_, _, _, _, _, _, _, _]) dX12_works_216 rfl (by decide) rfl rfl ?_
      refine e_goto (tgt := 407) dX12_works_218 (by decide) ?_
      have hneg : ¬ (x ≠ 0 ∧ 1000000000000 / max x (-x) < max y (-y)) := by first | (intro q; exact absurd q.1 (by omega)) | (intro q; have := q.2; omega)
      have hml := mul_abs hneg
      exact fin _ ⟨by omega, by omega⟩ (by rw [k70_42]; show _ = (if x ≠ 0 ∧ 1000000000000 / max x (-x) < max y (-y) then (-9223372036854775808) else x * y); rw [if_neg hneg])
    · refine e_lload_n (q := 194) (i := 2) dX12_works_193 rfl rfl rfl ?_
      refine e_mabsL (q := 197) dX12_works_194 rfl ml_X12_306 mw_absL_s mw_absL_c mw_init (Nat.le_of_ble_eq_true rfl) (by decide) ?_
      refine e_ldc2 (q := 200) (z := 1000000000000) dX12_works_197 rfl kw_X12_312 (by decide) ?_
      refine e_lload (q := 202) dX12_works_200 rfl rfl ?_
      refine e_mabsL (q := 205) dX12_works_202 rfl ml_X12_306 mw_absL_s mw_absL_c mw_init (Nat.le_of_ble_eq_true rfl) (by decide) ?_
      have hm0 := Int.ediv_nonneg (show (0 : Int) ≤ 1000000000000 by decide) (show 0 ≤ max x (-x) by omega)
      have hm1 := Int.ediv_le_self (max x (-x)) (show (0 : Int) ≤ 1000000000000 by decide)
      refine e_ldiv (q := 206) dX12_works_205 rfl (lZ_ne0 ⟨by omega, by omega⟩ (by omega)) (lZ_div (by omega) (by omega) (by omega) (by omega)) ?_
      refine e_lcmp (q := 207) dX12_works_206 rfl (by first | assumption | exact ⟨by omega, by omega⟩) (by first | assumption | exact ⟨by omega, by omega⟩) ?_
      refine e_if_le (q := 210) (tgt := 212) dX12_works_207 rfl (by decide) (fun c207 => ?_) (fun c207 => ?_)
      · refine e_lload (q := 214) dX12_works_212 rfl rfl ?_
        refine e_lload_n (q := 215) (i := 2) dX12_works_214 rfl rfl rfl ?_
        refine e_lmul (q := 216) dX12_works_215 rfl ?_
        refine e_lstore (q := 218) (L' := [_, _, _, _, _, _, _, _]) dX12_works_216 rfl (by decide) rfl rfl ?_
        refine e_goto (tgt := 407) dX12_works_218 (by decide) ?_
        have hneg : ¬ (x ≠ 0 ∧ 1000000000000 / max x (-x) < max y (-y)) := by first | (intro q; exact absurd q.1 (by omega)) | (intro q; have := q.2; omega)
        have hml := mul_abs hneg
        exact fin _ ⟨by omega, by omega⟩ (by rw [k70_42]; show _ = (if x ≠ 0 ∧ 1000000000000 / max x (-x) < max y (-y) then (-9223372036854775808) else x * y); rw [if_neg hneg])
      · refine e_iconst (q := 211) dX12_works_210 rfl ?_
        exact r_z dX12_works_211 rfl (by first | exact Or.inl rfl | exact Or.inr rfl | omega) (Or.inr ⟨rfl, by rw [k70_42]; show ¬ (¬ (1000000000000 < (if x ≠ 0 ∧ 1000000000000 / max x (-x) < max y (-y) then (-9223372036854775808) else x * y) ∨ (if x ≠ 0 ∧ 1000000000000 / max x (-x) < max y (-y) then (-9223372036854775808) else x * y) < -1000000000000)); rw [if_pos ⟨by omega, by omega⟩]; decide, (Fm.rf _ _ σ).s82 (by decide) _⟩)
  by_cases k70_43 : s = 43
  · refine e_look (tgt := 168) dX12_works_70 (by decide) ⟨by omega, by omega⟩ (by rw [k70_43]; try rfl) (by decide) ?_
    refine e_lload (q := 170) dX12_works_168 rfl rfl ?_
    refine e_lload_n (q := 171) (i := 2) dX12_works_170 rfl rfl rfl ?_
    refine e_ladd (q := 172) dX12_works_171 rfl ?_
    refine e_lstore (q := 174) (L' := [_, _, _, _, _, _, _, _]) dX12_works_172 rfl (by decide) rfl rfl ?_
    refine e_goto (tgt := 407) dX12_works_174 (by decide) ?_
    exact fin _ ⟨by omega, by omega⟩ (by rw [k70_43]; rfl)
  by_cases k70_45 : s = 45
  · refine e_look (tgt := 177) dX12_works_70 (by decide) ⟨by omega, by omega⟩ (by rw [k70_45]; try rfl) (by decide) ?_
    refine e_lload (q := 179) dX12_works_177 rfl rfl ?_
    refine e_lload_n (q := 180) (i := 2) dX12_works_179 rfl rfl rfl ?_
    refine e_lsub (q := 181) dX12_works_180 rfl ?_
    refine e_lstore (q := 183) (L' := [_, _, _, _, _, _, _, _]) dX12_works_181 rfl (by decide) rfl rfl ?_
    refine e_goto (tgt := 407) dX12_works_183 (by decide) ?_
    exact fin _ ⟨by omega, by omega⟩ (by rw [k70_45]; rfl)
  by_cases k70_47 : s = 47
  · refine e_look (tgt := 221) dX12_works_70 (by decide) ⟨by omega, by omega⟩ (by rw [k70_47]; try rfl) (by decide) ?_
    refine e_lload_n (q := 222) (i := 2) dX12_works_221 rfl rfl rfl ?_
    refine e_lconst (q := 223) (z := 0) dX12_works_222 rfl (by decide) ?_
    refine e_lcmp (q := 224) dX12_works_223 rfl (by first | assumption | exact ⟨by omega, by omega⟩) (by first | assumption | exact ⟨by omega, by omega⟩) ?_
    refine e_if_ne (q := 227) (tgt := 229) dX12_works_224 rfl (by decide) (fun c224 => ?_) (fun c224 => ?_)
    · refine e_lload (q := 231) dX12_works_229 rfl rfl ?_
      refine e_lload_n (q := 232) (i := 2) dX12_works_231 rfl rfl rfl ?_
      refine e_ldiv (q := 233) dX12_works_232 rfl (lZ_ne0 ⟨by omega, by omega⟩ (by omega)) (lZ_tdiv ⟨by omega, by omega⟩ ⟨by omega, by omega⟩ (by omega)) ?_
      refine e_lstore (q := 235) (L' := [_, _, _, _, _, _, _, _]) dX12_works_233 rfl (by decide) rfl rfl ?_
      refine e_goto (tgt := 407) dX12_works_235 (by decide) ?_
      have htd := tdiv_lim (b := y) hx.1 hx.2
      exact fin _ ⟨by omega, by omega⟩ (by rw [k70_47]; show _ = (if y = 0 then (-9223372036854775808) else x.tdiv y); rw [if_neg (by omega)])
    · refine e_iconst (q := 228) dX12_works_227 rfl ?_
      exact r_z dX12_works_228 rfl (by first | exact Or.inl rfl | exact Or.inr rfl | omega) (Or.inr ⟨rfl, by rw [k70_47]; show ¬ (¬ (1000000000000 < (if y = 0 then (-9223372036854775808) else x.tdiv y) ∨ (if y = 0 then (-9223372036854775808) else x.tdiv y) < -1000000000000)); rw [if_pos (by omega)]; decide, (Fm.rf _ _ σ).s82 (by decide) _⟩)
  by_cases k70_60 : s = 60
  · refine e_look (tgt := 238) dX12_works_70 (by decide) ⟨by omega, by omega⟩ (by rw [k70_60]; try rfl) (by decide) ?_
    refine e_lload (q := 240) dX12_works_238 rfl rfl ?_
    refine e_lload_n (q := 241) (i := 2) dX12_works_240 rfl rfl rfl ?_
    refine e_lcmp (q := 242) dX12_works_241 rfl (by first | assumption | exact ⟨by omega, by omega⟩) (by first | assumption | exact ⟨by omega, by omega⟩) ?_
    refine e_if_ge (q := 245) (tgt := 249) dX12_works_242 rfl (by decide) (fun c242 => ?_) (fun c242 => ?_)
    · refine e_iconst (q := 250) dX12_works_249 rfl ?_
      refine e_Slp (q := 253) (vs := [_]) ok_X12_is ml_X12_302 dX12_works_250 rfl rfl rfl (Nat.le_of_ble_eq_true rfl) (by decide) (c_X12_is (by first | exact Or.inl rfl | exact Or.inr rfl)) ?_
      refine e_lstore (q := 255) (L' := [_, _, _, _, _, _, _, _]) dX12_works_253 rfl (by decide) rfl rfl ?_
      refine e_goto (tgt := 407) dX12_works_255 (by decide) ?_
      exact fin _ ⟨by decide, by decide⟩ (by rw [k70_60]; show _ = (if x < y then 1 else 0); first | (rw [if_pos (by omega)]; done) | (rw [if_neg (by omega)]; done))
    · refine e_iconst (q := 246) dX12_works_245 rfl ?_
      refine e_goto (tgt := 250) dX12_works_246 (by decide) ?_
      refine e_Slp (q := 253) (vs := [_]) ok_X12_is ml_X12_302 dX12_works_250 rfl rfl rfl (Nat.le_of_ble_eq_true rfl) (by decide) (c_X12_is (by first | exact Or.inl rfl | exact Or.inr rfl)) ?_
      refine e_lstore (q := 255) (L' := [_, _, _, _, _, _, _, _]) dX12_works_253 rfl (by decide) rfl rfl ?_
      refine e_goto (tgt := 407) dX12_works_255 (by decide) ?_
      exact fin _ ⟨by decide, by decide⟩ (by rw [k70_60]; show _ = (if x < y then 1 else 0); first | (rw [if_pos (by omega)]; done) | (rw [if_neg (by omega)]; done))
  by_cases k70_61 : s = 61
  · refine e_look (tgt := 278) dX12_works_70 (by decide) ⟨by omega, by omega⟩ (by rw [k70_61]; try rfl) (by decide) ?_
    refine e_lload (q := 280) dX12_works_278 rfl rfl ?_
    refine e_lload_n (q := 281) (i := 2) dX12_works_280 rfl rfl rfl ?_
    refine e_lcmp (q := 282) dX12_works_281 rfl (by first | assumption | exact ⟨by omega, by omega⟩) (by first | assumption | exact ⟨by omega, by omega⟩) ?_
    refine e_if_ne (q := 285) (tgt := 289) dX12_works_282 rfl (by decide) (fun c282 => ?_) (fun c282 => ?_)
    · refine e_iconst (q := 290) dX12_works_289 rfl ?_
      refine e_Slp (q := 293) (vs := [_]) ok_X12_is ml_X12_302 dX12_works_290 rfl rfl rfl (Nat.le_of_ble_eq_true rfl) (by decide) (c_X12_is (by first | exact Or.inl rfl | exact Or.inr rfl)) ?_
      refine e_lstore (q := 295) (L' := [_, _, _, _, _, _, _, _]) dX12_works_293 rfl (by decide) rfl rfl ?_
      refine e_goto (tgt := 407) dX12_works_295 (by decide) ?_
      exact fin _ ⟨by decide, by decide⟩ (by rw [k70_61]; show _ = (if x = y then 1 else 0); first | (rw [if_pos (by omega)]; done) | (rw [if_neg (by omega)]; done))
    · refine e_iconst (q := 286) dX12_works_285 rfl ?_
      refine e_goto (tgt := 290) dX12_works_286 (by decide) ?_
      refine e_Slp (q := 293) (vs := [_]) ok_X12_is ml_X12_302 dX12_works_290 rfl rfl rfl (Nat.le_of_ble_eq_true rfl) (by decide) (c_X12_is (by first | exact Or.inl rfl | exact Or.inr rfl)) ?_
      refine e_lstore (q := 295) (L' := [_, _, _, _, _, _, _, _]) dX12_works_293 rfl (by decide) rfl rfl ?_
      refine e_goto (tgt := 407) dX12_works_295 (by decide) ?_
      exact fin _ ⟨by decide, by decide⟩ (by rw [k70_61]; show _ = (if x = y then 1 else 0); first | (rw [if_pos (by omega)]; done) | (rw [if_neg (by omega)]; done))
  by_cases k70_62 : s = 62
  · refine e_look (tgt := 258) dX12_works_70 (by decide) ⟨by omega, by omega⟩ (by rw [k70_62]; try rfl) (by decide) ?_
    refine e_lload (q := 260) dX12_works_258 rfl rfl ?_
    refine e_lload_n (q := 261) (i := 2) dX12_works_260 rfl rfl rfl ?_
    refine e_lcmp (q := 262) dX12_works_261 rfl (by first | assumption | exact ⟨by omega, by omega⟩) (by first | assumption | exact ⟨by omega, by omega⟩) ?_
    refine e_if_le (q := 265) (tgt := 269) dX12_works_262 rfl (by decide) (fun c262 => ?_) (fun c262 => ?_)
    · refine e_iconst (q := 270) dX12_works_269 rfl ?_
      refine e_Slp (q := 273) (vs := [_]) ok_X12_is ml_X12_302 dX12_works_270 rfl rfl rfl (Nat.le_of_ble_eq_true rfl) (by decide) (c_X12_is (by first | exact Or.inl rfl | exact Or.inr rfl)) ?_
      refine e_lstore (q := 275) (L' := [_, _, _, _, _, _, _, _]) dX12_works_273 rfl (by decide) rfl rfl ?_
      refine e_goto (tgt := 407) dX12_works_275 (by decide) ?_
      exact fin _ ⟨by decide, by decide⟩ (by rw [k70_62]; show _ = (if y < x then 1 else 0); first | (rw [if_pos (by omega)]; done) | (rw [if_neg (by omega)]; done))
    · refine e_iconst (q := 266) dX12_works_265 rfl ?_
      refine e_goto (tgt := 270) dX12_works_266 (by decide) ?_
      refine e_Slp (q := 273) (vs := [_]) ok_X12_is ml_X12_302 dX12_works_270 rfl rfl rfl (Nat.le_of_ble_eq_true rfl) (by decide) (c_X12_is (by first | exact Or.inl rfl | exact Or.inr rfl)) ?_
      refine e_lstore (q := 275) (L' := [_, _, _, _, _, _, _, _]) dX12_works_273 rfl (by decide) rfl rfl ?_
      refine e_goto (tgt := 407) dX12_works_275 (by decide) ?_
      exact fin _ ⟨by decide, by decide⟩ (by rw [k70_62]; show _ = (if y < x then 1 else 0); first | (rw [if_pos (by omega)]; done) | (rw [if_neg (by omega)]; done))
  by_cases k70_256 : s = 256
  · refine e_look (tgt := 298) dX12_works_70 (by decide) ⟨by omega, by omega⟩ (by rw [k70_256]; try rfl) (by decide) ?_
    refine e_lload (q := 300) dX12_works_298 rfl rfl ?_
    refine e_lload_n (q := 301) (i := 2) dX12_works_300 rfl rfl rfl ?_
    refine e_lcmp (q := 302) dX12_works_301 rfl (by first | assumption | exact ⟨by omega, by omega⟩) (by first | assumption | exact ⟨by omega, by omega⟩) ?_
    refine e_if_gt (q := 305) (tgt := 309) dX12_works_302 rfl (by decide) (fun c302 => ?_) (fun c302 => ?_)
    · refine e_iconst (q := 310) dX12_works_309 rfl ?_
      refine e_Slp (q := 313) (vs := [_]) ok_X12_is ml_X12_302 dX12_works_310 rfl rfl rfl (Nat.le_of_ble_eq_true rfl) (by decide) (c_X12_is (by first | exact Or.inl rfl | exact Or.inr rfl)) ?_
      refine e_lstore (q := 315) (L' := [_, _, _, _, _, _, _, _]) dX12_works_313 rfl (by decide) rfl rfl ?_
      refine e_goto (tgt := 407) dX12_works_315 (by decide) ?_
      exact fin _ ⟨by decide, by decide⟩ (by rw [k70_256]; show _ = (if x ≤ y then 1 else 0); first | (rw [if_pos (by omega)]; done) | (rw [if_neg (by omega)]; done))
    · refine e_iconst (q := 306) dX12_works_305 rfl ?_
      refine e_goto (tgt := 310) dX12_works_306 (by decide) ?_
      refine e_Slp (q := 313) (vs := [_]) ok_X12_is ml_X12_302 dX12_works_310 rfl rfl rfl (Nat.le_of_ble_eq_true rfl) (by decide) (c_X12_is (by first | exact Or.inl rfl | exact Or.inr rfl)) ?_
      refine e_lstore (q := 315) (L' := [_, _, _, _, _, _, _, _]) dX12_works_313 rfl (by decide) rfl rfl ?_
      refine e_goto (tgt := 407) dX12_works_315 (by decide) ?_
      exact fin _ ⟨by decide, by decide⟩ (by rw [k70_256]; show _ = (if x ≤ y then 1 else 0); first | (rw [if_pos (by omega)]; done) | (rw [if_neg (by omega)]; done))
  by_cases k70_257 : s = 257
  · refine e_look (tgt := 338) dX12_works_70 (by decide) ⟨by omega, by omega⟩ (by rw [k70_257]; try rfl) (by decide) ?_
    refine e_lload (q := 340) dX12_works_338 rfl rfl ?_
    refine e_lload_n (q := 341) (i := 2) dX12_works_340 rfl rfl rfl ?_
    refine e_lcmp (q := 342) dX12_works_341 rfl (by first | assumption | exact ⟨by omega, by omega⟩) (by first | assumption | exact ⟨by omega, by omega⟩) ?_
    refine e_if_eq (q := 345) (tgt := 349) dX12_works_342 rfl (by decide) (fun c342 => ?_) (fun c342 => ?_)
    · refine e_iconst (q := 350) dX12_works_349 rfl ?_
      refine e_Slp (q := 353) (vs := [_]) ok_X12_is ml_X12_302 dX12_works_350 rfl rfl rfl (Nat.le_of_ble_eq_true rfl) (by decide) (c_X12_is (by first | exact Or.inl rfl | exact Or.inr rfl)) ?_
      refine e_lstore (q := 355) (L' := [_, _, _, _, _, _, _, _]) dX12_works_353 rfl (by decide) rfl rfl ?_
      refine e_goto (tgt := 407) dX12_works_355 (by decide) ?_
      exact fin _ ⟨by decide, by decide⟩ (by rw [k70_257]; show _ = (if x ≠ y then 1 else 0); first | (rw [if_pos (by omega)]; done) | (rw [if_neg (by omega)]; done))
    · refine e_iconst (q := 346) dX12_works_345 rfl ?_
      refine e_goto (tgt := 350) dX12_works_346 (by decide) ?_
      refine e_Slp (q := 353) (vs := [_]) ok_X12_is ml_X12_302 dX12_works_350 rfl rfl rfl (Nat.le_of_ble_eq_true rfl) (by decide) (c_X12_is (by first | exact Or.inl rfl | exact Or.inr rfl)) ?_
      refine e_lstore (q := 355) (L' := [_, _, _, _, _, _, _, _]) dX12_works_353 rfl (by decide) rfl rfl ?_
      refine e_goto (tgt := 407) dX12_works_355 (by decide) ?_
      exact fin _ ⟨by decide, by decide⟩ (by rw [k70_257]; show _ = (if x ≠ y then 1 else 0); first | (rw [if_pos (by omega)]; done) | (rw [if_neg (by omega)]; done))
  by_cases k70_258 : s = 258
  · refine e_look (tgt := 318) dX12_works_70 (by decide) ⟨by omega, by omega⟩ (by rw [k70_258]; try rfl) (by decide) ?_
    refine e_lload (q := 320) dX12_works_318 rfl rfl ?_
    refine e_lload_n (q := 321) (i := 2) dX12_works_320 rfl rfl rfl ?_
    refine e_lcmp (q := 322) dX12_works_321 rfl (by first | assumption | exact ⟨by omega, by omega⟩) (by first | assumption | exact ⟨by omega, by omega⟩) ?_
    refine e_if_lt (q := 325) (tgt := 329) dX12_works_322 rfl (by decide) (fun c322 => ?_) (fun c322 => ?_)
    · refine e_iconst (q := 330) dX12_works_329 rfl ?_
      refine e_Slp (q := 333) (vs := [_]) ok_X12_is ml_X12_302 dX12_works_330 rfl rfl rfl (Nat.le_of_ble_eq_true rfl) (by decide) (c_X12_is (by first | exact Or.inl rfl | exact Or.inr rfl)) ?_
      refine e_lstore (q := 335) (L' := [_, _, _, _, _, _, _, _]) dX12_works_333 rfl (by decide) rfl rfl ?_
      refine e_goto (tgt := 407) dX12_works_335 (by decide) ?_
      exact fin _ ⟨by decide, by decide⟩ (by rw [k70_258]; show _ = (if y ≤ x then 1 else 0); first | (rw [if_pos (by omega)]; done) | (rw [if_neg (by omega)]; done))
    · refine e_iconst (q := 326) dX12_works_325 rfl ?_
      refine e_goto (tgt := 330) dX12_works_326 (by decide) ?_
      refine e_Slp (q := 333) (vs := [_]) ok_X12_is ml_X12_302 dX12_works_330 rfl rfl rfl (Nat.le_of_ble_eq_true rfl) (by decide) (c_X12_is (by first | exact Or.inl rfl | exact Or.inr rfl)) ?_
      refine e_lstore (q := 335) (L' := [_, _, _, _, _, _, _, _]) dX12_works_333 rfl (by decide) rfl rfl ?_
      refine e_goto (tgt := 407) dX12_works_335 (by decide) ?_
      exact fin _ ⟨by decide, by decide⟩ (by rw [k70_258]; show _ = (if y ≤ x then 1 else 0); first | (rw [if_pos (by omega)]; done) | (rw [if_neg (by omega)]; done))
  by_cases k70_261 : s = 261
  · refine e_look (tgt := 358) dX12_works_70 (by decide) ⟨by omega, by omega⟩ (by rw [k70_261]; try rfl) (by decide) ?_
    refine e_lload (q := 360) dX12_works_358 rfl rfl ?_
    refine e_lconst (q := 361) (z := 0) dX12_works_360 rfl (by decide) ?_
    refine e_lcmp (q := 362) dX12_works_361 rfl (by first | assumption | exact ⟨by omega, by omega⟩) (by first | assumption | exact ⟨by omega, by omega⟩) ?_
    refine e_if_eq (q := 365) (tgt := 375) dX12_works_362 rfl (by decide) (fun c362 => ?_) (fun c362 => ?_)
    · refine e_iconst (q := 376) dX12_works_375 rfl ?_
      refine e_Slp (q := 379) (vs := [_]) ok_X12_is ml_X12_302 dX12_works_376 rfl rfl rfl (Nat.le_of_ble_eq_true rfl) (by decide) (c_X12_is (by first | exact Or.inl rfl | exact Or.inr rfl)) ?_
      refine e_lstore (q := 381) (L' := [_, _, _, _, _, _, _, _]) dX12_works_379 rfl (by decide) rfl rfl ?_
      refine e_goto (tgt := 407) dX12_works_381 (by decide) ?_
      exact fin _ ⟨by decide, by decide⟩ (by rw [k70_261]; show _ = (if x ≠ 0 ∧ y ≠ 0 then 1 else 0); first | (rw [if_pos (by omega)]; done) | (rw [if_neg (by omega)]; done))
    · refine e_lload_n (q := 366) (i := 2) dX12_works_365 rfl rfl rfl ?_
      refine e_lconst (q := 367) (z := 0) dX12_works_366 rfl (by decide) ?_
      refine e_lcmp (q := 368) dX12_works_367 rfl (by first | assumption | exact ⟨by omega, by omega⟩) (by first | assumption | exact ⟨by omega, by omega⟩) ?_
      refine e_if_eq (q := 371) (tgt := 375) dX12_works_368 rfl (by decide) (fun c368 => ?_) (fun c368 => ?_)
      · refine e_iconst (q := 376) dX12_works_375 rfl ?_
        refine e_Slp (q := 379) (vs := [_]) ok_X12_is ml_X12_302 dX12_works_376 rfl rfl rfl (Nat.le_of_ble_eq_true rfl) (by decide) (c_X12_is (by first | exact Or.inl rfl | exact Or.inr rfl)) ?_
        refine e_lstore (q := 381) (L' := [_, _, _, _, _, _, _, _]) dX12_works_379 rfl (by decide) rfl rfl ?_
        refine e_goto (tgt := 407) dX12_works_381 (by decide) ?_
        exact fin _ ⟨by decide, by decide⟩ (by rw [k70_261]; show _ = (if x ≠ 0 ∧ y ≠ 0 then 1 else 0); first | (rw [if_pos (by omega)]; done) | (rw [if_neg (by omega)]; done))
      · refine e_iconst (q := 372) dX12_works_371 rfl ?_
        refine e_goto (tgt := 376) dX12_works_372 (by decide) ?_
        refine e_Slp (q := 379) (vs := [_]) ok_X12_is ml_X12_302 dX12_works_376 rfl rfl rfl (Nat.le_of_ble_eq_true rfl) (by decide) (c_X12_is (by first | exact Or.inl rfl | exact Or.inr rfl)) ?_
        refine e_lstore (q := 381) (L' := [_, _, _, _, _, _, _, _]) dX12_works_379 rfl (by decide) rfl rfl ?_
        refine e_goto (tgt := 407) dX12_works_381 (by decide) ?_
        exact fin _ ⟨by decide, by decide⟩ (by rw [k70_261]; show _ = (if x ≠ 0 ∧ y ≠ 0 then 1 else 0); first | (rw [if_pos (by omega)]; done) | (rw [if_neg (by omega)]; done))
  refine e_look (off := 314) (tgt := 384) dX12_works_70 (by decide) ⟨by omega, by omega⟩ (by show Op.lookupswitch.offset [(42, 116), (43, 98), (45, 107), (47, 151), (60, 168), (61, 208), (62, 188), (256, 228), (257, 268), (258, 248), (261, 288)] (314) (s) = 314; rw [Op.lookupswitch.offset_cons, if_neg (by omega), Op.lookupswitch.offset_cons, if_neg (by omega), Op.lookupswitch.offset_cons, if_neg (by omega), Op.lookupswitch.offset_cons, if_neg (by omega), Op.lookupswitch.offset_cons, if_neg (by omega), Op.lookupswitch.offset_cons, if_neg (by omega), Op.lookupswitch.offset_cons, if_neg (by omega), Op.lookupswitch.offset_cons, if_neg (by omega), Op.lookupswitch.offset_cons, if_neg (by omega), Op.lookupswitch.offset_cons, if_neg (by omega), Op.lookupswitch.offset_cons, if_neg (by omega)]; rfl) (by decide) ?_
  refine e_lload (q := 386) dX12_works_384 rfl rfl ?_
  refine e_lconst (q := 387) (z := 0) dX12_works_386 rfl (by decide) ?_
  refine e_lcmp (q := 388) dX12_works_387 rfl (by first | assumption | exact ⟨by omega, by omega⟩) (by first | assumption | exact ⟨by omega, by omega⟩) ?_
  refine e_if_ne (q := 391) (tgt := 397) dX12_works_388 rfl (by decide) (fun c388 => ?_) (fun c388 => ?_)
  · refine e_iconst (q := 398) dX12_works_397 rfl ?_
    refine e_goto (tgt := 402) dX12_works_398 (by decide) ?_
    refine e_Slp (q := 405) (vs := [_]) ok_X12_is ml_X12_302 dX12_works_402 rfl rfl rfl (Nat.le_of_ble_eq_true rfl) (by decide) (c_X12_is (by first | exact Or.inl rfl | exact Or.inr rfl)) ?_
    refine e_lstore (q := 407) (L' := [_, _, _, _, _, _, _, _]) dX12_works_405 rfl (by decide) rfl rfl ?_
    exact fin _ ⟨by decide, by decide⟩ (by rw [show s = 262 by omega]; show _ = (if x ≠ 0 ∨ y ≠ 0 then 1 else 0); first | (rw [if_pos (by omega)]; done) | (rw [if_neg (by omega)]; done))
  · refine e_lload_n (q := 392) (i := 2) dX12_works_391 rfl rfl rfl ?_
    refine e_lconst (q := 393) (z := 0) dX12_works_392 rfl (by decide) ?_
    refine e_lcmp (q := 394) dX12_works_393 rfl (by first | assumption | exact ⟨by omega, by omega⟩) (by first | assumption | exact ⟨by omega, by omega⟩) ?_
    refine e_if_eq (q := 397) (tgt := 401) dX12_works_394 rfl (by decide) (fun c394 => ?_) (fun c394 => ?_)
    · refine e_iconst (q := 402) dX12_works_401 rfl ?_
      refine e_Slp (q := 405) (vs := [_]) ok_X12_is ml_X12_302 dX12_works_402 rfl rfl rfl (Nat.le_of_ble_eq_true rfl) (by decide) (c_X12_is (by first | exact Or.inl rfl | exact Or.inr rfl)) ?_
      refine e_lstore (q := 407) (L' := [_, _, _, _, _, _, _, _]) dX12_works_405 rfl (by decide) rfl rfl ?_
      exact fin _ ⟨by decide, by decide⟩ (by rw [show s = 262 by omega]; show _ = (if x ≠ 0 ∨ y ≠ 0 then 1 else 0); first | (rw [if_pos (by omega)]; done) | (rw [if_neg (by omega)]; done))
    · refine e_iconst (q := 398) dX12_works_397 rfl ?_
      refine e_goto (tgt := 402) dX12_works_398 (by decide) ?_
      refine e_Slp (q := 405) (vs := [_]) ok_X12_is ml_X12_302 dX12_works_402 rfl rfl rfl (Nat.le_of_ble_eq_true rfl) (by decide) (c_X12_is (by first | exact Or.inl rfl | exact Or.inr rfl)) ?_
      refine e_lstore (q := 407) (L' := [_, _, _, _, _, _, _, _]) dX12_works_405 rfl (by decide) rfl rfl ?_
      exact fin _ ⟨by decide, by decide⟩ (by rw [show s = 262 by omega]; show _ = (if x ≠ 0 ∨ y ≠ 0 then 1 else 0); first | (rw [if_pos (by omega)]; done) | (rw [if_neg (by omega)]; done))

theorem c_X12_hasLaw {G : Gx} {σ : Sg} {r : Int} (hW : MW σ) (hr0 : 0 ≤ r) (hr3 : r < 3) : Con G 1 mX12_hasLaw [.ref (G.2.2.2 + 82), .int (iZ r)] σ (pI (pE σ (if σ.1 96 r < σ.1 97 r then 1 else 0))) := by
  have hw := hW r hr0 hr3
  refine e_entry om_X12_hasLaw (Nat.le_of_ble_eq_true rfl) (L := [some (.ref (G.2.2.2 + 82)), some (.int (iZ r))]) rfl ?_
  refine e_aload_n (q := 1) (i := 0) dX12_hasLaw_0 rfl rfl rfl ?_
  refine e_getR (q := 4) dX12_hasLaw_1 rfl fg_X12_52 (by first | assumption | rfl) rfl ?_
  refine e_iload_n (q := 5) (i := 1) dX12_hasLaw_4 rfl rfl rfl ?_
  refine e_iald (q := 6) dX12_hasLaw_5 rfl (by first | assumption | rfl) ?_
  refine e_aload_n (q := 7) (i := 0) dX12_hasLaw_6 rfl rfl rfl ?_
  refine e_getR (q := 10) dX12_hasLaw_7 rfl fg_X12_49 (by first | assumption | rfl) rfl ?_
  refine e_iload_n (q := 11) (i := 1) dX12_hasLaw_10 rfl rfl rfl ?_
  refine e_iald (q := 12) dX12_hasLaw_11 rfl (by first | assumption | rfl) ?_
  refine e_icmp_le (q := 15) (tgt := 19) dX12_hasLaw_12 rfl (by decide) (fun c12 => ?_) (fun c12 => ?_)
  · refine e_iconst (q := 20) dX12_hasLaw_19 rfl ?_
    exact r_z dX12_hasLaw_20 rfl (by first | exact Or.inl rfl | exact Or.inr rfl | omega) ⟨by split <;> omega, rfl⟩
  · refine e_iconst (q := 16) dX12_hasLaw_15 rfl ?_
    refine e_goto (tgt := 20) dX12_hasLaw_16 (by decide) ?_
    exact r_z dX12_hasLaw_20 rfl (by first | exact Or.inl rfl | exact Or.inr rfl | omega) ⟨by split <;> omega, rfl⟩

set_option maxHeartbeats 4000000 in
theorem c_X12_goes {G : Gx} {σ : Sg} {r : Int} (hW : MW σ) (hr0 : 0 ≤ r) (hr3 : r < 3) (hlt : (σ.1 96 r) < (σ.1 97 r)) (hn : ∀ i, 0 ≤ i → i < 7 → -1000000000000 ≤ σ.2 100 i ∧ σ.2 100 i ≤ 1000000000000) : Con G 3 mX12_goes [.ref (G.2.2.2 + 82), .int (iZ r)] σ (pI (fun z σ' => ((z = 1 ∧ σ'.2 101 0 = mLaw σ r (σ.2 100) ∧ -1000000000000 ≤ mLaw σ r (σ.2 100) ∧ mLaw σ r (σ.2 100) ≤ 1000000000000) ∨ (z = 0 ∧ mLaw σ r (σ.2 100) = -9223372036854775808)) ∧ Fm [101] [34] σ σ')) := by
  obtain ⟨hs0, hse, he, hK, hD⟩ := hW r hr0 hr3
  have hD := hD hlt
  have lp : ∀ (n : Nat) (τ : Sg) (k : Int) (l : List Int), (σ.1 96 r) ≤ k → k + n = (σ.1 97 r) → τ.1 82 34 = l.length → (l.length : Int) ≤ k - (σ.1 96 r) → Fm [101] [34] σ τ → StkIs (τ.2 101) l → allLim l → evEnd (evRun (σ.2 100) (mCode σ) n k l) = mLaw σ r (σ.2 100) → dpRun (mCode σ) n k l.length = some 1 → J G 3 mX12_goes (pI (fun z σ' => ((z = 1 ∧ σ'.2 101 0 = mLaw σ r (σ.2 100) ∧ -1000000000000 ≤ mLaw σ r (σ.2 100) ∧ mLaw σ r (σ.2 100) ≤ 1000000000000) ∨ (z = 0 ∧ mLaw σ r (σ.2 100) = -9223372036854775808)) ∧ Fm [101] [34] σ σ')) τ 12 [some (.ref (G.2.2.2 + 82)), some (.int (iZ r)), some (.int (iZ k))] [] := by
    intro n
    induction n with
    | zero =>
      intro τ k l hk0 hkn0 hl hlk hF hS hA hR hd
      have e97 : τ.1 97 r = (σ.1 97 r) := hF.e1 (by decide) r
      have e98 : τ.1 98 k = σ.1 98 k := hF.e1 (by decide) k
      have e99 : τ.1 99 k = σ.1 99 k := hF.e1 (by decide) k
      refine e_iload_n (q := 13) (i := 2) dX12_goes_12 rfl rfl rfl ?_
      refine e_aload_n (q := 14) (i := 0) dX12_goes_13 rfl rfl rfl ?_
      refine e_getR (q := 17) dX12_goes_14 rfl fg_X12_52 (by first | assumption | rfl) rfl ?_
      refine e_iload_n (q := 18) (i := 1) dX12_goes_17 rfl rfl rfl ?_
      refine e_iald (q := 19) dX12_goes_18 rfl (by first | assumption | rfl) ?_
      refine e_icmp_ge (q := 22) (tgt := 102) dX12_goes_19 rfl (by decide) (fun c19 => ?_) (fun c19 => absurd (by omega) c19)
      have fz : τ.2 101 0 = mLaw σ r (σ.2 100) ∧ -1000000000000 ≤ mLaw σ r (σ.2 100) ∧ mLaw σ r (σ.2 100) ≤ 1000000000000 := by
        obtain ⟨v, rfl⟩ : ∃ v, l = [v] := by
          have hd1 : some l.length = some 1 := hd
          have hd2 : l.length = 1 := Option.some.inj hd1
          match l, hd2 with
          | [v], _ => exact ⟨v, rfl⟩
        have hR1 : v = mLaw σ r (σ.2 100) := hR
        have hv := hA v List.mem_cons_self
        rw [← hR1]
        exact ⟨hS.1, hv.1, hv.2⟩
      refine e_iconst (q := 103) dX12_goes_102 rfl ?_
      exact r_z dX12_goes_103 rfl (by first | exact Or.inl rfl | exact Or.inr rfl | omega) ⟨Or.inl ⟨rfl, fz⟩, hF⟩
    | succ n ih =>
      intro τ k l hk0 hkn0 hl hlk hF hS hA hR hd
      have e97 : τ.1 97 r = (σ.1 97 r) := hF.e1 (by decide) r
      have e98 : τ.1 98 k = σ.1 98 k := hF.e1 (by decide) k
      have e99 : τ.1 99 k = σ.1 99 k := hF.e1 (by decide) k
      refine e_iload_n (q := 13) (i := 2) dX12_goes_12 rfl rfl rfl ?_
      refine e_aload_n (q := 14) (i := 0) dX12_goes_13 rfl rfl rfl ?_
      refine e_getR (q := 17) dX12_goes_14 rfl fg_X12_52 (by first | assumption | rfl) rfl ?_
      refine e_iload_n (q := 18) (i := 1) dX12_goes_17 rfl rfl rfl ?_
      refine e_iald (q := 19) dX12_goes_18 rfl (by first | assumption | rfl) ?_
      refine e_icmp_ge (q := 22) (tgt := 102) dX12_goes_19 rfl (by decide) (fun c19 => absurd c19 (by omega)) (fun c19 => ?_) (hx := ⟨by omega, by omega⟩) (hy := ⟨by omega, by omega⟩)
      have hkn := hK k hk0 (by omega)
      unfold mKn at hkn
      have hdp : (match dpStep l.length (mCode σ k) with | none => none | some d => dpRun (mCode σ) n (k + 1) d) = some 1 := hd
      have hev : evEnd (match evStep (σ.2 100) l (mCode σ k) with | none => none | some l2 => evRun (σ.2 100) (mCode σ) n (k + 1) l2) = mLaw σ r (σ.2 100) := hR
      refine e_aload_n (q := 23) (i := 0) dX12_goes_22 rfl rfl rfl ?_
      refine e_getR (q := 26) dX12_goes_23 rfl fg_X12_55 (by first | assumption | rfl) rfl ?_
      refine e_iload_n (q := 27) (i := 2) dX12_goes_26 rfl rfl rfl ?_
      refine e_iald (q := 28) dX12_goes_27 rfl (by first | assumption | rfl) ?_
      refine e_iconst (q := 29) dX12_goes_28 rfl ?_
      refine e_icmp_ne (q := 32) (tgt := 47) dX12_goes_29 rfl (by decide) (fun c29 => ?_) (fun c29 => ?_) (hx := ⟨by omega, by omega⟩)
      · refine e_aload_n (q := 48) (i := 0) dX12_goes_47 rfl rfl rfl ?_
        refine e_getR (q := 51) dX12_goes_48 rfl fg_X12_69 (by first | assumption | rfl) rfl ?_
        refine e_aload_n (q := 52) (i := 0) dX12_goes_51 rfl rfl rfl ?_
        refine e_getI (q := 55) (jz := 34) dX12_goes_52 rfl fg_X12_299 rfl (by first | assumption | rfl) rfl ?_
        refine e_aload_n (q := 56) (i := 0) dX12_goes_55 rfl rfl rfl ?_
        refine e_getR (q := 59) dX12_goes_56 rfl fg_X12_55 (by first | assumption | rfl) rfl ?_
        refine e_iload_n (q := 60) (i := 2) dX12_goes_59 rfl rfl rfl ?_
        refine e_iald (q := 61) dX12_goes_60 rfl (by first | assumption | rfl) ?_
        refine e_if_ne (q := 64) (tgt := 74) dX12_goes_61 rfl (by decide) (fun c61 => ?_) (fun c61 => ?_) (hx := ⟨by omega, by omega⟩)
        · refine e_aload_n (q := 75) (i := 0) dX12_goes_74 rfl rfl rfl ?_
          refine e_getR (q := 78) dX12_goes_75 rfl fg_X12_65 (by first | assumption | rfl) rfl ?_
          refine e_aload_n (q := 79) (i := 0) dX12_goes_78 rfl rfl rfl ?_
          refine e_getR (q := 82) dX12_goes_79 rfl fg_X12_58 (by first | assumption | rfl) rfl ?_
          refine e_iload_n (q := 83) (i := 2) dX12_goes_82 rfl rfl rfl ?_
          refine e_iald (q := 84) dX12_goes_83 rfl (by first | assumption | rfl) ?_
          refine e_lald (q := 85) dX12_goes_84 rfl (by first | assumption | rfl) ?_
          refine e_last (q := 86) dX12_goes_85 rfl (by first | assumption | rfl) ?_ (h0 := by omega) (hi := by omega)
          refine e_aload_n (q := 87) (i := 0) dX12_goes_86 rfl rfl rfl ?_
          refine e_dup (q := 88) dX12_goes_87 rfl rfl ?_
          refine e_getI (q := 91) (jz := 34) dX12_goes_88 rfl fg_X12_299 rfl (by first | assumption | rfl) rfl ?_
          refine e_iconst (q := 92) dX12_goes_91 rfl ?_
          refine e_iadd (q := 93) dX12_goes_92 rfl ?_
          refine e_putI (q := 96) (jz := 34) dX12_goes_93 rfl fp_X12_299 rfl (by first | assumption | rfl) rfl ?_
          refine e_iinc (q := 99) (L' := [_, _, _]) dX12_goes_96 rfl rfl (by decide) rfl rfl ?_
          refine e_goto (tgt := 12) dX12_goes_99 (by decide) ?_
          have hc : mCode σ k = -(σ.1 99 k + 14) := by unfold mCode; rw [if_neg (by omega), if_pos (by omega)]
          have hst : evStep (σ.2 100) l (mCode σ k) = some (σ.2 100 (σ.1 99 k) :: l) := by rw [hc]; unfold evStep; rw [if_neg (by omega), if_pos ⟨by omega, by omega⟩, show - -(σ.1 99 k + 14) - 14 = σ.1 99 k by omega]
          have hds : dpStep l.length (mCode σ k) = some (l.length + 1) := by rw [hc]; unfold dpStep; rw [if_pos (by omega)]
          rw [hst] at hev
          rw [hds] at hdp
          refine ih _ _ (σ.2 100 (σ.1 99 k) :: l) (by omega) (by omega) ?_ (by simp only [List.length_cons]; omega) ((hF.sj (by decide) _ _).s82 (by decide) _) ?_ ?_ hev hdp
          · rw [sI_1, if_pos ⟨rfl, rfl⟩, sJ_1, hl]; simp only [List.length_cons]; omega
          · rw [sI_2]
            refine ⟨?_, hS.upd (fun i i0 i1 => ?_)⟩
            · rw [sJ_2, if_pos ⟨rfl, by omega⟩, e99, hF.e2 (by decide)]
            · rw [sJ_2, if_neg (by omega)]
          · intro v hv
            rcases List.mem_cons.mp hv with rfl | hv
            · exact hn _ (by omega) (by omega)
            · exact hA v hv
        · refine e_aload_n (q := 65) (i := 0) dX12_goes_64 rfl rfl rfl ?_
          refine e_getR (q := 68) dX12_goes_65 rfl fg_X12_58 (by first | assumption | rfl) rfl ?_
          refine e_iload_n (q := 69) (i := 2) dX12_goes_68 rfl rfl rfl ?_
          refine e_iald (q := 70) dX12_goes_69 rfl (by first | assumption | rfl) ?_
          refine e_i2l (q := 71) dX12_goes_70 rfl ⟨by omega, by omega⟩ ?_
          refine e_goto (tgt := 85) dX12_goes_71 (by decide) ?_
          refine e_last (q := 86) dX12_goes_85 rfl (by first | assumption | rfl) ?_ (h0 := by omega) (hi := by omega)
          refine e_aload_n (q := 87) (i := 0) dX12_goes_86 rfl rfl rfl ?_
          refine e_dup (q := 88) dX12_goes_87 rfl rfl ?_
          refine e_getI (q := 91) (jz := 34) dX12_goes_88 rfl fg_X12_299 rfl (by first | assumption | rfl) rfl ?_
          refine e_iconst (q := 92) dX12_goes_91 rfl ?_
          refine e_iadd (q := 93) dX12_goes_92 rfl ?_
          refine e_putI (q := 96) (jz := 34) dX12_goes_93 rfl fp_X12_299 rfl (by first | assumption | rfl) rfl ?_
          refine e_iinc (q := 99) (L' := [_, _, _]) dX12_goes_96 rfl rfl (by decide) rfl rfl ?_
          refine e_goto (tgt := 12) dX12_goes_99 (by decide) ?_
          have hc : mCode σ k = σ.1 99 k := by unfold mCode; rw [if_pos (by omega)]
          have hst : evStep (σ.2 100) l (mCode σ k) = some (σ.1 99 k :: l) := by rw [hc]; unfold evStep; rw [if_pos (by omega)]
          have hds : dpStep l.length (mCode σ k) = some (l.length + 1) := by rw [hc]; unfold dpStep; rw [if_pos (by omega)]
          rw [hst] at hev
          rw [hds] at hdp
          refine ih _ _ (σ.1 99 k :: l) (by omega) (by omega) ?_ (by simp only [List.length_cons]; omega) ((hF.sj (by decide) _ _).s82 (by decide) _) ?_ ?_ hev hdp
          · rw [sI_1, if_pos ⟨rfl, rfl⟩, sJ_1, hl]; simp only [List.length_cons]; omega
          · rw [sI_2]
            refine ⟨?_, hS.upd (fun i i0 i1 => ?_)⟩
            · rw [sJ_2, if_pos ⟨rfl, by omega⟩, e99]
            · rw [sJ_2, if_neg (by omega)]
          · intro v hv
            rcases List.mem_cons.mp hv with rfl | hv
            · omega
            · exact hA v hv
      · refine e_aload_n (q := 33) (i := 0) dX12_goes_32 rfl rfl rfl ?_
        refine e_aload_n (q := 34) (i := 0) dX12_goes_33 rfl rfl rfl ?_
        refine e_getR (q := 37) dX12_goes_34 rfl fg_X12_58 (by first | assumption | rfl) rfl ?_
        refine e_iload_n (q := 38) (i := 2) dX12_goes_37 rfl rfl rfl ?_
        refine e_iald (q := 39) dX12_goes_38 rfl (by first | assumption | rfl) ?_
        by_cases h260 : σ.1 99 k = 260
        · have hc : mCode σ k = -13 := by unfold mCode; rw [if_neg (by omega), if_neg (by omega), h260]; rfl
          obtain ⟨y, l2, rfl⟩ : ∃ y l2, l = y :: l2 := by
            match l, hdp with
            | [], hdp => rw [hc] at hdp; exact absurd hdp (by simp [dpStep])
            | y :: l2, _ => exact ⟨y, l2, rfl⟩
          have hy := hA y List.mem_cons_self
          have hst : evStep (σ.2 100) (y :: l2) (mCode σ k) = some ((if y = 0 then 1 else 0) :: l2) := by rw [hc]; rfl
          have hds : dpStep (y :: l2).length (mCode σ k) = some (y :: l2).length := by rw [hc]; unfold dpStep; rw [if_neg (by omega), if_pos (by decide), if_pos (by simp only [List.length_cons]; omega)]
          rw [hst] at hev
          rw [hds] at hdp
          have hl' : τ.1 82 34 = l2.length + 1 := by rw [hl]; simp only [List.length_cons]; omega
          rw [e99, h260]
          refine e_Vi (q := 42) (vs := [_]) ok_X12_works ml_X12_316 dX12_goes_39 rfl ⟨_, _, rfl⟩ (by first | assumption | rfl) rfl rfl (Nat.le_of_ble_eq_true rfl) (by decide) (c_X12_worksN hl' (by simp only [List.length_cons] at hlk; omega) hS hy) (fun z39 s39 h39 => ?_)
          obtain ⟨ez, es⟩ := h39
          subst ez
          subst es
          refine e_if_ne (q := 45) (tgt := 96) dX12_goes_42 rfl (by decide) (fun c42 => ?_) (fun c42 => by exfalso; omega)
          refine e_iinc (q := 99) (L' := [_, _, _]) dX12_goes_96 rfl rfl (by decide) rfl rfl ?_
          refine e_goto (tgt := 12) dX12_goes_99 (by decide) ?_
          refine ih _ _ ((if y = 0 then 1 else 0) :: l2) (by omega) (by omega) hl (by simp only [List.length_cons] at *; omega) (hF.sj (by decide) _ _) ?_ ?_ hev hdp
          · refine ⟨?_, hS.2.upd (fun i i0 i1 => ?_)⟩
            · rw [sJ_2, if_pos ⟨rfl, by omega⟩]
            · rw [sJ_2, if_neg (by omega)]
          · intro v hv
            rcases List.mem_cons.mp hv with rfl | hv
            · split <;> omega
            · exact hA v (List.mem_cons_of_mem _ hv)
        · have hb : isBin (σ.1 99 k) := by
            rcases hkn with q | q | q
            · omega
            · omega
            · exact q.2.resolve_left h260
          have hsg := sg_bin hb
          have hc : mCode σ k = -(sgT (σ.1 99 k)) := by unfold mCode; rw [if_neg (by omega), if_neg (by omega)]
          have hop := hsg.1
          unfold isOp at hop
          have hds0 : dpStep l.length (mCode σ k) = if 2 ≤ l.length then some (l.length - 1) else none := by rw [hc]; unfold dpStep; rw [if_neg (by omega), if_neg (by omega)]
          obtain ⟨y, x, l2, rfl⟩ : ∃ y x l2, l = y :: x :: l2 := by
            rw [hds0] at hdp
            match l, hdp with
            | [], hdp => exact absurd hdp (by simp)
            | [_], hdp => exact absurd hdp (by simp)
            | y :: x :: l2, _ => exact ⟨y, x, l2, rfl⟩
          have hy := hA y List.mem_cons_self
          have hx := hA x (List.mem_cons_of_mem _ List.mem_cons_self)
          have hst : evStep (σ.2 100) (y :: x :: l2) (mCode σ k) = if 1000000000000 < jn (sgT (σ.1 99 k)) x y ∨ jn (sgT (σ.1 99 k)) x y < -1000000000000 then none else some (jn (sgT (σ.1 99 k)) x y :: l2) := by
            rw [hc]
            unfold evStep
            rw [if_neg (by omega), if_neg (by omega), if_neg (by omega)]
            show (if 1000000000000 < jn (- -sgT (σ.1 99 k)) x y ∨ jn (- -sgT (σ.1 99 k)) x y < -1000000000000 then none else some (jn (- -sgT (σ.1 99 k)) x y :: l2)) = _
            rw [Int.neg_neg]
          have hds : dpStep (y :: x :: l2).length (mCode σ k) = some (x :: l2).length := by rw [hds0, if_pos (by simp only [List.length_cons]; omega)]; simp only [List.length_cons]; rfl
          rw [hst] at hev
          rw [hds] at hdp
          have hl' : τ.1 82 34 = l2.length + 2 := by rw [hl]; simp only [List.length_cons]; omega
          simp only [List.length_cons] at hlk
          rw [e99]
          refine e_Vi (q := 42) (vs := [_]) ok_X12_works ml_X12_316 dX12_goes_39 rfl ⟨_, _, rfl⟩ (by first | assumption | rfl) rfl rfl (Nat.le_of_ble_eq_true rfl) (by decide) (c_X12_worksB hb hl' (by omega) hS hx hy) (fun z39 s39 h39 => ?_)
          refine e_if_ne (q := 45) (tgt := 96) dX12_goes_42 rfl (by decide) (fun c42 => ?_) (fun c42 => ?_) (hx := ⟨by omega, by omega⟩)
          · obtain ⟨-, hok, es⟩ := h39.resolve_right (fun q => by omega)
            subst es
            rw [if_neg hok] at hev
            refine e_iinc (q := 99) (L' := [_, _, _]) dX12_goes_96 rfl rfl (by decide) rfl rfl ?_
            refine e_goto (tgt := 12) dX12_goes_99 (by decide) ?_
            refine ih _ _ (jn (sgT (σ.1 99 k)) x y :: l2) (by omega) (by omega) ?_ (by simp only [List.length_cons]; omega) ((hF.s82 (by decide) _).sj (by decide) _ _) ?_ ?_ hev hdp
            · rw [sJ_1, sI_1, if_pos ⟨rfl, rfl⟩, hl]; simp only [List.length_cons]; omega
            · refine ⟨?_, hS.2.2.upd (fun i i0 i1 => ?_)⟩
              · rw [sJ_2, if_pos ⟨rfl, by omega⟩]
              · rw [sJ_2, if_neg (by omega), sI_2]
            · intro v hv
              rcases List.mem_cons.mp hv with rfl | hv
              · omega
              · exact hA v (List.mem_cons_of_mem _ (List.mem_cons_of_mem _ hv))
          · obtain ⟨-, hbad, hFm⟩ := h39.resolve_left (fun q => by omega)
            refine e_iconst (q := 46) dX12_goes_45 rfl ?_
            exact r_z dX12_goes_46 rfl (by first | exact Or.inl rfl | exact Or.inr rfl | omega) ⟨Or.inr ⟨rfl, by rw [← hev, if_pos (Decidable.not_not.mp hbad)]; rfl⟩, hF.tr hFm⟩
  refine e_entry om_X12_goes (Nat.le_of_ble_eq_true rfl) (L := [some (.ref (G.2.2.2 + 82)), some (.int (iZ r)), none]) rfl ?_
  refine e_aload_n (q := 1) (i := 0) dX12_goes_0 rfl rfl rfl ?_
  refine e_iconst (q := 2) dX12_goes_1 rfl ?_
  refine e_putI (q := 5) (jz := 34) dX12_goes_2 rfl fp_X12_299 rfl (by first | assumption | rfl) rfl ?_
  refine e_aload_n (q := 6) (i := 0) dX12_goes_5 rfl rfl rfl ?_
  refine e_getR (q := 9) dX12_goes_6 rfl fg_X12_49 (by first | assumption | rfl) rfl ?_
  refine e_iload_n (q := 10) (i := 1) dX12_goes_9 rfl rfl rfl ?_
  refine e_iald (q := 11) dX12_goes_10 rfl (by first | assumption | rfl) ?_
  rw [show (sI σ 82 34 0).1 96 r = σ.1 96 r from by rw [sI_1, if_neg (by omega)]]
  refine e_istore_n (q := 12) (i := 2) (L' := [_, _, _]) dX12_goes_11 rfl rfl (by decide) rfl rfl ?_
  exact lp ((σ.1 97 r) - (σ.1 96 r)).toNat _ _ [] (by omega) (by omega) (by rw [sI_1, if_pos ⟨rfl, rfl⟩]; rfl) (by simp only [List.length_nil]; omega) ((Fm.rf _ _ σ).s82 (by decide) _) trivial (fun v hv => by cases hv) rfl hD

