theorem MLW.tr {σ s τ : Sg} {R : Rs} (h : MFr σ s) (h2 : MLW s τ R) : MLW σ τ R := by
  match R, h2 with
  | .inl e, h2 =>
    rcases h2 with h2 | h2
    · exact Or.inl ⟨h.tr h2.1, h2.2⟩
    · exact Or.inr ⟨h2.1, h.tr h2.2.1, h2.2.2⟩
  | .inr q, h2 => exact ⟨h2.1, h.tr h2.2.1, h2.2.2⟩
theorem MLR.w {σ s τ : Sg} {R : Rs} (h : MFr σ s) (h2 : MLR s τ R) (hb : ∀ q, R = .inr q → MDb (s.1 82 19) q.1) : MLW σ τ R := by
  match R, h2, hb with
  | .inl e, h2, _ => exact Or.inl ⟨h.tr h2.1, h2.2⟩
  | .inr q, h2, hb => exact ⟨h2.1, h.tr h2.2.1, h2.2.2.1, h2.2.2.2.1, by rw [h2.2.2.2.2]; exact hb q rfl⟩
theorem MDb.cg {T : Int} {δ δ' : Dl} (h : MDb T δ) (h18 : δ' 18 = δ 18) (h36 : δ' 36 = δ 36) (h37 : δ' 37 = δ 37) : MDb T δ' := by
  unfold MDb
  rw [h18, h36, h37]
  exact h
theorem MDb.st {T : Int} {δ : Dl} {n : Nat} (h : MDb T δ) (hn : n < 16) (h5 : n ≠ 5) (h6 : n ≠ 6) : MDb (stB T n) δ := by
  obtain ⟨h1, h2, h3, h4⟩ := h
  refine ⟨stB_in h1.1 h1.2 (by omega), ?_, ?_, fun j hj => ?_⟩
  · rw [stB_bt, show decide (n = 5) = false from decide_eq_false (by omega), Bool.or_false]; exact h2
  · rw [stB_bt, show decide (n = 6) = false from decide_eq_false (by omega), Bool.or_false]; exact h3
  · rw [stB_bt, show decide (n = 16 + j) = false from decide_eq_false (by omega), Bool.or_false]; exact h4 j hj
theorem MDb.rain {T v : Int} {δ : Dl} (h : MDb T δ) : MDb (stB T 5) (u2 (u2 δ 23 6 v) 18 3 1) := by
  obtain ⟨h1, h2, h3, h4⟩ := h
  refine ⟨stB_in h1.1 h1.2 (by omega), ?_, ?_, fun j hj => ?_⟩
  · rw [stB_bt, show decide (5 = 5) = true from rfl, Bool.or_true]
    exact ⟨fun _ => by show (1 : Int) ≠ 0; decide, fun _ => rfl⟩
  · rw [stB_bt, show decide (5 = 6) = false from rfl, Bool.or_false]; exact h3
  · rw [stB_bt, show decide (5 = 16 + j) = false from decide_eq_false (by omega), Bool.or_false]; exact h4 j hj
theorem MDb.seed {T v : Int} {δ : Dl} (h : MDb T δ) : MDb (stB T 6) (u2 (u2 δ 23 7 v) 18 4 1) := by
  obtain ⟨h1, h2, h3, h4⟩ := h
  refine ⟨stB_in h1.1 h1.2 (by omega), ?_, ?_, fun j hj => ?_⟩
  · rw [stB_bt, show decide (6 = 5) = false from rfl, Bool.or_false]; exact h2
  · rw [stB_bt, show decide (6 = 6) = true from rfl, Bool.or_true]
    exact ⟨fun _ => by show (1 : Int) ≠ 0; decide, fun _ => rfl⟩
  · rw [stB_bt, show decide (6 = 16 + j) = false from decide_eq_false (by omega), Bool.or_false]; exact h4 j hj
theorem bPar_b {δ : Dl} {ts : List Tk} {q : Dl × List Tk} (h : bPar δ ts = .inr q) : q.1 18 = δ 18 ∧ q.1 36 = δ 36 ∧ q.1 37 = δ 37 := by
  unfold bPar at h
  obtain ⟨v1, t1, -, h⟩ := bnd_ok h
  obtain ⟨v2, t2, -, h⟩ := bnd_ok h
  obtain ⟨v3, t3, -, h⟩ := bnd_ok h
  by_cases hc : hasCh δ v2 v3
  · rw [@if_pos _ (Classical.propDecidable _) hc] at h; cases h
  · rw [@if_neg _ (Classical.propDecidable _) hc] at h
    cases h
    exact ⟨rfl, rfl, rfl⟩
def bChi (δ : Dl) (r : List Tk) : Rs := bnd (pNew (δ 29) (δ 23 3) r) (fun l r => bnd (pNum 1 30 r) (fun g r => bnd (pNum 0 9 r) (fun m r => .inr (u2 (u2 (u2 (u2 δ 29 (δ 23 3) l) 27 (δ 23 3) g) 28 (δ 23 3) m) 23 3 (δ 23 3 + 1), r))))
def bBeat (δ : Dl) (r : List Tk) : Rs := bnd (pTold (δ 26) (δ 23 2) r) (fun p r => bnd (pTold (δ 29) (δ 23 3) r) (fun c r => bnd (pNum 0 3 r) (fun w r => bnd (pNum 0 99 r) (fun y r => .inr (u2 (u2 (u2 (u2 (u2 δ 30 (δ 23 4) (4 * p + w)) 31 (δ 23 4) c) 32 (δ 23 4) y) 23 5 (max (δ 23 5) y)) 23 4 (δ 23 4 + 1), r)))))
abbrev LnK (G : Gx) (σ : Sg) (w : Int) (R : Rs) (Pq : Sg → Prop) : Prop := ∀ (τ : Sg) (y2 y3 y4 y5 : Option Value), MLW σ τ R → J G 151 mX12_line (pV Pq) τ 464 [some (.ref (G.2.2.2 + 82)), some (.int (iZ w)), y2, y3, y4, y5] []

set_option maxHeartbeats 16000000 in
theorem jl_child {G : Gx} {σ s : Sg} {δ : Dl} {R0 : Rs} {Pq : Sg → Prop} {w : Int} {t : Tk} {r : List Tk} (K : LnK G σ w R0 Pq) (hF : MFr σ s) (hC : MK s (t :: r)) (hf : s.1 82 26 = 0) (hD : MD0 s δ) (hO : DOk δ) (h6 : ¬ 6 ≤ δ 23 3) (hB : MDb (s.1 82 19) δ) (hR0 : R0 = bChi δ (t :: r)) : J G 151 mX12_line (pV Pq) s 174 [some (.ref (G.2.2.2 + 82)), some (.int (iZ w)), none, none, none, none] [] := by
  obtain ⟨⟨b1, b2, b3, b4, b5, b6, b7, b8, b9⟩, hb, hbk, hbc, hbb, hbl, hKR⟩ := id hD
  obtain ⟨o0, o1, o2, o3, o4, o5, o6, o7, o8, o9, oc, ob, ok, og, ou, ow, ox, ot, oz, oy⟩ := id hO
  obtain ⟨m, hm⟩ : ∃ m, δ 23 3 = m := ⟨_, rfl⟩
  rw [hm] at b3 hbc h6 o3
  have hR89 : ∀ i, 0 ≤ i → i < m → R32 (s.1 89 (6 + i)) := fun i a b => by rw [(hbc i a b).1]; exact (oc i a (by omega)).2.2.2.2
  have f230 : ∀ (τ : Sg) (e : Int × Int), R0 = .inl e → FM σ τ e → J G 151 mX12_line (pV Pq) τ 230 [some (.ref (G.2.2.2 + 82)), some (.int (iZ w)), some (.int (iZ (6 + m))), none, none, none] [] := by
    intro τ e hR hE
    refine e_aload_n (q := 231) (i := 0) dX12_line_230 rfl rfl rfl ?_
    refine e_iconst (q := 232) dX12_line_231 rfl ?_
    refine e_aload_n (q := 233) (i := 0) dX12_line_232 rfl rfl rfl ?_
    refine e_iconst (q := 234) dX12_line_233 rfl ?_
    refine e_Vip (q := 237) (vs := [_]) ok_X12_fresher ml_X12_209 dX12_line_234 rfl ⟨_, _, rfl⟩ (by first | assumption | rfl) rfl rfl (Nat.le_of_ble_eq_true rfl) (by decide) (c_X12_fresher (by decide) (by decide)) ?_
    refine e_iconst (q := 238) dX12_line_237 rfl ?_
    refine e_iadd (q := 239) dX12_line_238 rfl ?_
    refine e_Vv (q := 242) (vs := [_, _]) ok_X12_reads ml_X12_226 dX12_line_239 rfl ⟨_, _, rfl⟩ (by first | assumption | rfl) rfl rfl (Nat.le_of_ble_eq_true rfl) (by decide) (c_X12_reads (by decide) (by decide)) (fun s9 h9 => ?_)
    refine e_goto (tgt := 464) dX12_line_242 (by decide) ?_
    subst h9
    exact K _ _ _ _ _ (by rw [hR]; exact Or.inl (hE.si (k := 84) (by decide) (by decide) (by unfold hf2; rw [if_pos rfl]; decide) _))
  have f217 : ∀ (τ : Sg) (e : Int × Int), R0 = .inl e → FM σ τ e → J G 151 mX12_line (pV Pq) τ 217 [some (.ref (G.2.2.2 + 82)), some (.int (iZ w)), some (.int (iZ (6 + m))), none, none, none] [] := by
    intro τ e hR hE
    refine e_aload_n (q := 218) (i := 0) dX12_line_217 rfl rfl rfl ?_
    refine e_getR (q := 221) dX12_line_218 rfl fg_X12_34 (by first | assumption | rfl) rfl ?_
    refine e_iload_n (q := 222) (i := 2) dX12_line_221 rfl rfl rfl ?_
    refine e_aload_n (q := 223) (i := 0) dX12_line_222 rfl rfl rfl ?_
    refine e_iconst (q := 224) dX12_line_223 rfl ?_
    refine e_bipush (q := 226) dX12_line_224 rfl (by decide) ?_
    refine e_Vip (q := 229) (vs := [_, _]) ok_X12_numeral ml_X12_222 dX12_line_226 rfl ⟨_, _, rfl⟩ (by first | assumption | rfl) rfl rfl (Nat.le_of_ble_eq_true rfl) (by decide) (c_mnum1 hE.rf hE.ne) ?_
    refine e_iast (q := 230) dX12_line_229 rfl (by first | assumption | rfl) ?_ (by omega) (by omega)
    exact f230 _ e hR (hE.si (k := 91) (by decide) (by decide) (by unfold hf2; simp only [Nat.reduceEqDiff, Nat.reduceLeDiff, reduceIte, if_false, if_true]; omega) _)
  have f204 : ∀ (τ : Sg) (e : Int × Int), R0 = .inl e → FM σ τ e → J G 151 mX12_line (pV Pq) τ 204 [some (.ref (G.2.2.2 + 82)), some (.int (iZ w)), some (.int (iZ (6 + m))), none, none, none] [] := by
    intro τ e hR hE
    refine e_aload_n (q := 205) (i := 0) dX12_line_204 rfl rfl rfl ?_
    refine e_getR (q := 208) dX12_line_205 rfl fg_X12_31 (by first | assumption | rfl) rfl ?_
    refine e_iload_n (q := 209) (i := 2) dX12_line_208 rfl rfl rfl ?_
    refine e_aload_n (q := 210) (i := 0) dX12_line_209 rfl rfl rfl ?_
    refine e_iconst (q := 211) dX12_line_210 rfl ?_
    refine e_bipush (q := 213) dX12_line_211 rfl (by decide) ?_
    refine e_Vip (q := 216) (vs := [_, _]) ok_X12_numeral ml_X12_222 dX12_line_213 rfl ⟨_, _, rfl⟩ (by first | assumption | rfl) rfl rfl (Nat.le_of_ble_eq_true rfl) (by decide) (c_mnum1 hE.rf hE.ne) ?_
    refine e_iast (q := 217) dX12_line_216 rfl (by first | assumption | rfl) ?_ (by omega) (by omega)
    exact f217 _ e hR (hE.si (k := 90) (by decide) (by decide) (by unfold hf2; simp only [Nat.reduceEqDiff, Nat.reduceLeDiff, reduceIte, if_false, if_true]; omega) _)
  refine e_bipush (q := 176) dX12_line_174 rfl (by decide) ?_
  refine e_aload_n (q := 177) (i := 0) dX12_line_176 rfl rfl rfl ?_
  refine e_iconst (q := 178) dX12_line_177 rfl ?_
  refine e_Vip (q := 181) (vs := [_]) ok_X12_fresher ml_X12_209 dX12_line_178 rfl ⟨_, _, rfl⟩ (by first | assumption | rfl) rfl rfl (Nat.le_of_ble_eq_true rfl) (by decide) (c_X12_fresher (by decide) (by decide)) ?_
  rw [show s.1 84 (7 + 2) = m from b3]
  refine e_iadd (q := 182) dX12_line_181 rfl ?_
  refine e_istore_n (q := 183) (i := 2) (L' := [_, _, _, _, _, _]) dX12_line_182 rfl rfl (by decide) rfl rfl ?_
  refine e_aload_n (q := 184) (i := 0) dX12_line_183 rfl rfl rfl ?_
  refine e_getR (q := 187) dX12_line_184 rfl fg_X12_28 (by first | assumption | rfl) rfl ?_
  refine e_iload_n (q := 188) (i := 2) dX12_line_187 rfl rfl rfl ?_
  refine e_aload_n (q := 189) (i := 0) dX12_line_188 rfl rfl rfl ?_
  refine e_aload_n (q := 190) (i := 0) dX12_line_189 rfl rfl rfl ?_
  refine e_getR (q := 193) dX12_line_190 rfl fg_X12_28 (by first | assumption | rfl) rfl ?_
  refine e_bipush (q := 195) dX12_line_193 rfl (by decide) ?_
  refine e_aload_n (q := 196) (i := 0) dX12_line_195 rfl rfl rfl ?_
  refine e_iconst (q := 197) dX12_line_196 rfl ?_
  refine e_Vip (q := 200) (vs := [_]) ok_X12_fresher ml_X12_209 dX12_line_197 rfl ⟨_, _, rfl⟩ (by first | assumption | rfl) rfl rfl (Nat.le_of_ble_eq_true rfl) (by decide) (c_X12_fresher (by decide) (by decide)) ?_
  rw [show s.1 84 (7 + 2) = m from b3]
  refine e_Vi (q := 203) (vs := [_, _, _]) ok_X12_fresh ml_X12_233 dX12_line_200 rfl ⟨_, _, rfl⟩ (by first | assumption | rfl) rfl rfl (Nat.le_of_ble_eq_true rfl) (by decide) (c_mfresh0 (k := 89) (mN := 12) (a := 6) (m := m) rfl (by decide) (by decide) (by omega) (by omega) hR89 hC hf) (fun z1 s1 h1 => ?_)
  rw [pNew_cg (g := δ 29) (by omega) (fun i a b => (hbc i a b).1)] at h1
  cases hr1 : pNew (δ 29) m (t :: r) with
  | inl e =>
    rw [hr1] at h1
    have hE := FM.mn hF h1
    have z0 : z1 = _ := h1.1
    refine e_iast (q := 204) dX12_line_203 rfl (by first | assumption | rfl) ?_ (by omega) (by omega)
    exact f204 _ e (by rw [hR0]; unfold bChi; rw [hm, hr1]; rfl) (hE.si (k := 89) (by decide) (by decide) (by unfold hf2; simp only [Nat.reduceEqDiff, Nat.reduceLeDiff, reduceIte, if_false, if_true]; omega) _)
  | inr q1 =>
    obtain ⟨v1, r1⟩ := q1
    rw [hr1] at h1
    obtain ⟨e1, F1, k1⟩ := h1
    have e1 : z1 = v1 := e1
    have k1 : MK s1 r1 := k1
    subst e1
    refine e_iast (q := 204) dX12_line_203 rfl (by first | assumption | rfl) ?_ (by omega) (by omega)
    have g1 : MK (sI s1 89 (6 + m) z1) r1 := k1.cg rfl (fun j _ _ => by rw [sI_ne _ (by decide)])
    have p1 : (sI s1 89 (6 + m) z1).1 82 26 = 0 := by rw [sI_ne _ (by decide), F1.2 26 (by decide)]; exact hf
    have M1 : MFr σ (sI s1 89 (6 + m) z1) := (hF.tr (MFr.fm F1 (by decide))).si (by decide) (by decide) (by unfold hf2; simp only [Nat.reduceEqDiff, Nat.reduceLeDiff, reduceIte, if_false, if_true]; omega) _
    obtain ⟨t1, u1, et1⟩ := g1.ne
    subst et1
    refine e_aload_n (q := 205) (i := 0) dX12_line_204 rfl rfl rfl ?_
    refine e_getR (q := 208) dX12_line_205 rfl fg_X12_31 (by first | assumption | rfl) rfl ?_
    refine e_iload_n (q := 209) (i := 2) dX12_line_208 rfl rfl rfl ?_
    refine e_aload_n (q := 210) (i := 0) dX12_line_209 rfl rfl rfl ?_
    refine e_iconst (q := 211) dX12_line_210 rfl ?_
    refine e_bipush (q := 213) dX12_line_211 rfl (by decide) ?_
    refine e_Vi (q := 216) (vs := [_, _]) ok_X12_numeral ml_X12_222 dX12_line_213 rfl ⟨_, _, rfl⟩ (by first | assumption | rfl) rfl rfl (Nat.le_of_ble_eq_true rfl) (by decide) (c_mnum0 (lo := 1) (hi := 30) g1 p1 (by decide) (by decide) (by decide) (by decide)) (fun z2 s2 h2 => ?_)
    cases hr2 : pNum 1 30 (t1 :: u1) with
    | inl e =>
      rw [hr2] at h2
      have hE := FM.mn M1 h2
      have z0 : z2 = _ := h2.1
      refine e_iast (q := 217) dX12_line_216 rfl (by first | assumption | rfl) ?_ (by omega) (by omega)
      exact f217 _ e (by rw [hR0]; unfold bChi; rw [hm, hr1, bnd_r, hr2]; rfl) (hE.si (k := 90) (by decide) (by decide) (by unfold hf2; simp only [Nat.reduceEqDiff, Nat.reduceLeDiff, reduceIte, if_false, if_true]; omega) _)
    | inr q2 =>
      obtain ⟨v2, r2⟩ := q2
      have ok2 := pNum_ok hr2
      rw [hr2] at h2
      obtain ⟨e2, F2, k2⟩ := h2
      have e2 : z2 = v2 := e2
      have k2 : MK s2 r2 := k2
      subst e2
      refine e_iast (q := 217) dX12_line_216 rfl (by first | assumption | rfl) ?_ (by omega) (by omega)
      have g2 : MK (sI s2 90 (6 + m) z2) r2 := k2.cg rfl (fun j _ _ => by rw [sI_ne _ (by decide)])
      have p2 : (sI s2 90 (6 + m) z2).1 82 26 = 0 := by rw [sI_ne _ (by decide), F2.2 26 (by decide), sI_ne _ (by decide), F1.2 26 (by decide)]; exact hf
      have M2 : MFr σ (sI s2 90 (6 + m) z2) := (M1.tr (MFr.fm F2 (by decide))).si (by decide) (by decide) (by unfold hf2; simp only [Nat.reduceEqDiff, Nat.reduceLeDiff, reduceIte, if_false, if_true]; omega) _
      obtain ⟨t2, u2, et2⟩ := g2.ne
      subst et2
      refine e_aload_n (q := 218) (i := 0) dX12_line_217 rfl rfl rfl ?_
      refine e_getR (q := 221) dX12_line_218 rfl fg_X12_34 (by first | assumption | rfl) rfl ?_
      refine e_iload_n (q := 222) (i := 2) dX12_line_221 rfl rfl rfl ?_
      refine e_aload_n (q := 223) (i := 0) dX12_line_222 rfl rfl rfl ?_
      refine e_iconst (q := 224) dX12_line_223 rfl ?_
      refine e_bipush (q := 226) dX12_line_224 rfl (by decide) ?_
      refine e_Vi (q := 229) (vs := [_, _]) ok_X12_numeral ml_X12_222 dX12_line_226 rfl ⟨_, _, rfl⟩ (by first | assumption | rfl) rfl rfl (Nat.le_of_ble_eq_true rfl) (by decide) (c_mnum0 (lo := 0) (hi := 9) g2 p2 (by decide) (by decide) (by decide) (by decide)) (fun z3 s3 h3 => ?_)
      cases hr3 : pNum 0 9 (t2 :: u2) with
      | inl e =>
        rw [hr3] at h3
        have hE := FM.mn M2 h3
        have z0 : z3 = _ := h3.1
        refine e_iast (q := 230) dX12_line_229 rfl (by first | assumption | rfl) ?_ (by omega) (by omega)
        exact f230 _ e (by rw [hR0]; unfold bChi; rw [hm, hr1, bnd_r, hr2, bnd_r, hr3]; rfl) (hE.si (k := 91) (by decide) (by decide) (by unfold hf2; simp only [Nat.reduceEqDiff, Nat.reduceLeDiff, reduceIte, if_false, if_true]; omega) _)
      | inr q3 =>
        obtain ⟨v3, r3⟩ := q3
        have ok3 := pNum_ok hr3
        rw [hr3] at h3
        obtain ⟨e3, F3, k3⟩ := h3
        have e3 : z3 = v3 := e3
        have k3 : MK s3 r3 := k3
        subst e3
        refine e_iast (q := 230) dX12_line_229 rfl (by first | assumption | rfl) ?_ (by omega) (by omega)
        have g3 : MK (sI s3 91 (6 + m) z3) r3 := k3.cg rfl (fun j _ _ => by rw [sI_ne _ (by decide)])
        have p3 : (sI s3 91 (6 + m) z3).1 82 26 = 0 := by rw [sI_ne _ (by decide), F3.2 26 (by decide), sI_ne _ (by decide), F2.2 26 (by decide), sI_ne _ (by decide), F1.2 26 (by decide)]; exact hf
        have M3 : MFr σ (sI s3 91 (6 + m) z3) := (M2.tr (MFr.fm F3 (by decide))).si (by decide) (by decide) (by unfold hf2; simp only [Nat.reduceEqDiff, Nat.reduceLeDiff, reduceIte, if_false, if_true]; omega) _
        refine e_aload_n (q := 231) (i := 0) dX12_line_230 rfl rfl rfl ?_
        refine e_iconst (q := 232) dX12_line_231 rfl ?_
        refine e_aload_n (q := 233) (i := 0) dX12_line_232 rfl rfl rfl ?_
        refine e_iconst (q := 234) dX12_line_233 rfl ?_
        refine e_Vip (q := 237) (vs := [_]) ok_X12_fresher ml_X12_209 dX12_line_234 rfl ⟨_, _, rfl⟩ (by first | assumption | rfl) rfl rfl (Nat.le_of_ble_eq_true rfl) (by decide) (c_X12_fresher (by decide) (by decide)) ?_
        rw [show (sI s3 91 (6 + m) z3).1 84 (7 + 2) = m from by rw [sI_ne _ (by decide), F3.c (a := 84) (by decide), sI_ne _ (by decide), F2.c (a := 84) (by decide), sI_ne _ (by decide), F1.c (a := 84) (by decide)]; exact b3]
        refine e_iconst (q := 238) dX12_line_237 rfl ?_
        refine e_iadd (q := 239) dX12_line_238 rfl ?_
        refine e_Vv (q := 242) (vs := [_, _]) ok_X12_reads ml_X12_226 dX12_line_239 rfl ⟨_, _, rfl⟩ (by first | assumption | rfl) rfl rfl (Nat.le_of_ble_eq_true rfl) (by decide) (c_X12_reads (by decide) (by decide)) (fun s9 h9 => ?_)
        refine e_goto (tgt := 464) dX12_line_242 (by decide) ?_
        subst h9
        subst hm
        refine K _ _ _ _ _ ?_
        rw [hR0]
        unfold bChi
        rw [hr1, bnd_r, hr2, bnd_r, hr3, bnd_r]
        refine ⟨?_, M3.si (k := 84) (by decide) (by decide) (by unfold hf2; rw [if_pos rfl]; decide) _, g3.cg rfl (fun j _ _ => by rw [sI_ne _ (by decide)]), ?_, ?_⟩
        · rw [sI_ne _ (by decide)]; exact p3
        · refine MD_chi hD (by omega) ?_ ?_ ?_ ?_ ?_ ?_
          · rw [sI_uf, sI_ne _ (by decide), F3.c (a := 84) (by decide), sI_ne _ (by decide), F2.c (a := 84) (by decide), sI_ne _ (by decide), F1.c (a := 84) (by decide)]; rfl
          · rw [sI_ne _ (by decide), sI_ne _ (by decide), F3.c (a := 89) (by decide), sI_ne _ (by decide), F2.c (a := 89) (by decide), sI_uf, F1.c (a := 89) (by decide)]
          · rw [sI_ne _ (by decide), sI_ne _ (by decide), F3.c (a := 90) (by decide), sI_uf, F2.c (a := 90) (by decide), sI_ne _ (by decide), F1.c (a := 90) (by decide)]
          · rw [sI_ne _ (by decide), sI_uf, F3.c (a := 91) (by decide), sI_ne _ (by decide), F2.c (a := 91) (by decide), sI_ne _ (by decide), F1.c (a := 91) (by decide)]
          · intro c hc
            rw [sI_ne _ (by omega), sI_ne _ (by omega), F3.c (a := c) (by simp only [List.mem_cons, List.not_mem_nil, or_false]; omega), sI_ne _ (by omega), F2.c (a := c) (by simp only [List.mem_cons, List.not_mem_nil, or_false]; omega), sI_ne _ (by omega), F1.c (a := c) (by simp only [List.mem_cons, List.not_mem_nil, or_false]; omega)]
          · intro j hj
            have hj' : j ∉ ([22, 23, 24, 25] : List Int) := by
              simp only [List.mem_cons, List.not_mem_nil, or_false] at hj ⊢
              omega
            rw [sI_ne _ (by decide), sI_ne _ (by decide), F3.2 j hj', sI_ne _ (by decide), F2.2 j hj', sI_ne _ (by decide), F1.2 j hj']
        · rw [sI_ne _ (by decide), sI_ne _ (by decide), F3.2 19 (by decide), sI_ne _ (by decide), F2.2 19 (by decide), sI_ne _ (by decide), F1.2 19 (by decide)]; exact (hB.cg rfl rfl rfl)
set_option maxHeartbeats 16000000 in
theorem jl_beat {G : Gx} {σ s : Sg} {δ : Dl} {R0 : Rs} {Pq : Sg → Prop} {w : Int} {t : Tk} {r : List Tk} (K : LnK G σ w R0 Pq) (hF : MFr σ s) (hC : MK s (t :: r)) (hf : s.1 82 26 = 0) (hD : MD0 s δ) (hO : DOk δ) (h6 : ¬ 12 ≤ δ 23 4) (hB : MDb (s.1 82 19) δ) (hR0 : R0 = bBeat δ (t :: r)) : J G 151 mX12_line (pV Pq) s 245 [some (.ref (G.2.2.2 + 82)), some (.int (iZ w)), none, none, none, none] [] := by
  obtain ⟨⟨b1, b2, b3, b4, b5, b6, b7, b8, b9⟩, hb, hbk, hbc, hbb, hbl, hKR⟩ := id hD
  obtain ⟨o0, o1, o2, o3, o4, o5, o6, o7, o8, o9, oc, ob, ok, og, ou, ow, ox, ot, oz, oy⟩ := id hO
  obtain ⟨m, hm⟩ : ∃ m, δ 23 4 = m := ⟨_, rfl⟩
  rw [hm] at b4 hbb h6 o4
  have hR85 : ∀ i, 0 ≤ i → i < δ 23 2 → R32 (s.1 85 (4 + i)) := fun i a b => by rw [(hb i a b).1]; exact (o8 i a (by omega)).2.2.2.2
  have hR89 : ∀ i, 0 ≤ i → i < δ 23 3 → R32 (s.1 89 (6 + i)) := fun i a b => by rw [(hbc i a b).1]; exact (oc i a (by omega)).2.2.2.2
  have f320 : ∀ (τ : Sg) (e : Int × Int), R0 = .inl e → FM σ τ e → J G 151 mX12_line (pV Pq) τ 320 [some (.ref (G.2.2.2 + 82)), some (.int (iZ w)), none, some (.int (iZ (12 + m))), none, none] [] := by
    intro τ e hR hE
    refine e_aload_n (q := 321) (i := 0) dX12_line_320 rfl rfl rfl ?_
    refine e_iconst (q := 322) dX12_line_321 rfl ?_
    refine e_aload_n (q := 323) (i := 0) dX12_line_322 rfl rfl rfl ?_
    refine e_iconst (q := 324) dX12_line_323 rfl ?_
    refine e_Vip (q := 327) (vs := [_]) ok_X12_fresher ml_X12_209 dX12_line_324 rfl ⟨_, _, rfl⟩ (by first | assumption | rfl) rfl rfl (Nat.le_of_ble_eq_true rfl) (by decide) (c_X12_fresher (by decide) (by decide)) ?_
    refine e_iconst (q := 328) dX12_line_327 rfl ?_
    refine e_iadd (q := 329) dX12_line_328 rfl ?_
    refine e_Vv (q := 332) (vs := [_, _]) ok_X12_reads ml_X12_226 dX12_line_329 rfl ⟨_, _, rfl⟩ (by first | assumption | rfl) rfl rfl (Nat.le_of_ble_eq_true rfl) (by decide) (c_X12_reads (by decide) (by decide)) (fun s9 h9 => ?_)
    refine e_goto (tgt := 464) dX12_line_332 (by decide) ?_
    subst h9
    exact K _ _ _ _ _ (by rw [hR]; exact Or.inl (hE.si (k := 84) (by decide) (by decide) (by unfold hf2; rw [if_pos rfl]; decide) _))
  have f307 : ∀ (τ : Sg) (e : Int × Int), R0 = .inl e → FM σ τ e → J G 151 mX12_line (pV Pq) τ 307 [some (.ref (G.2.2.2 + 82)), some (.int (iZ w)), none, some (.int (iZ (12 + m))), none, none] [] := by
    intro τ e hR hE
    refine e_aload_n (q := 308) (i := 0) dX12_line_307 rfl rfl rfl ?_
    refine e_getR (q := 311) dX12_line_308 rfl fg_X12_46 (by first | assumption | rfl) rfl ?_
    refine e_iload_n (q := 312) (i := 3) dX12_line_311 rfl rfl rfl ?_
    refine e_aload_n (q := 313) (i := 0) dX12_line_312 rfl rfl rfl ?_
    refine e_iconst (q := 314) dX12_line_313 rfl ?_
    refine e_bipush (q := 316) dX12_line_314 rfl (by decide) ?_
    refine e_Vip (q := 319) (vs := [_, _]) ok_X12_numeral ml_X12_222 dX12_line_316 rfl ⟨_, _, rfl⟩ (by first | assumption | rfl) rfl rfl (Nat.le_of_ble_eq_true rfl) (by decide) (c_mnum1 hE.rf hE.ne) ?_
    refine e_iast (q := 320) dX12_line_319 rfl (by first | assumption | rfl) ?_ (by omega) (by omega)
    exact f320 _ e hR (hE.si (k := 95) (by decide) (by decide) (by unfold hf2; simp only [Nat.reduceEqDiff, Nat.reduceLeDiff, reduceIte, if_false, if_true]; omega) _)
  have f295 : ∀ (τ : Sg) (e : Int × Int), R0 = .inl e → FM σ τ e → J G 151 mX12_line (pV Pq) τ 295 [some (.ref (G.2.2.2 + 82)), some (.int (iZ w)), none, some (.int (iZ (12 + m))), none, none] [] := by
    intro τ e hR hE
    refine e_aload_n (q := 296) (i := 0) dX12_line_295 rfl rfl rfl ?_
    refine e_getR (q := 299) dX12_line_296 rfl fg_X12_43 (by first | assumption | rfl) rfl ?_
    refine e_iload_n (q := 300) (i := 3) dX12_line_299 rfl rfl rfl ?_
    refine e_aload_n (q := 301) (i := 0) dX12_line_300 rfl rfl rfl ?_
    refine e_iconst (q := 302) dX12_line_301 rfl ?_
    refine e_iconst (q := 303) dX12_line_302 rfl ?_
    refine e_Vip (q := 306) (vs := [_, _]) ok_X12_numeral ml_X12_222 dX12_line_303 rfl ⟨_, _, rfl⟩ (by first | assumption | rfl) rfl rfl (Nat.le_of_ble_eq_true rfl) (by decide) (c_mnum1 hE.rf hE.ne) ?_
    refine e_iast (q := 307) dX12_line_306 rfl (by first | assumption | rfl) ?_ (by omega) (by omega)
    exact f307 _ e hR (hE.si (k := 94) (by decide) (by decide) (by unfold hf2; simp only [Nat.reduceEqDiff, Nat.reduceLeDiff, reduceIte, if_false, if_true]; omega) _)
  have f274 : ∀ (τ : Sg) (e : Int × Int), R0 = .inl e → FM σ τ e → J G 151 mX12_line (pV Pq) τ 274 [some (.ref (G.2.2.2 + 82)), some (.int (iZ w)), none, some (.int (iZ (12 + m))), none, none] [] := by
    intro τ e hR hE
    refine e_aload_n (q := 275) (i := 0) dX12_line_274 rfl rfl rfl ?_
    refine e_getR (q := 278) dX12_line_275 rfl fg_X12_40 (by first | assumption | rfl) rfl ?_
    refine e_iload_n (q := 279) (i := 3) dX12_line_278 rfl rfl rfl ?_
    refine e_aload_n (q := 280) (i := 0) dX12_line_279 rfl rfl rfl ?_
    refine e_aload_n (q := 281) (i := 0) dX12_line_280 rfl rfl rfl ?_
    refine e_getR (q := 284) dX12_line_281 rfl fg_X12_28 (by first | assumption | rfl) rfl ?_
    refine e_bipush (q := 286) dX12_line_284 rfl (by decide) ?_
    refine e_aload_n (q := 287) (i := 0) dX12_line_286 rfl rfl rfl ?_
    refine e_iconst (q := 288) dX12_line_287 rfl ?_
    refine e_Vip (q := 291) (vs := [_]) ok_X12_fresher ml_X12_209 dX12_line_288 rfl ⟨_, _, rfl⟩ (by first | assumption | rfl) rfl rfl (Nat.le_of_ble_eq_true rfl) (by decide) (c_X12_fresher (by decide) (by decide)) ?_
    refine e_Vip (q := 294) (vs := [_, _, _]) ok_X12_toldAhead ml_X12_237 dX12_line_291 rfl ⟨_, _, rfl⟩ (by first | assumption | rfl) rfl rfl (Nat.le_of_ble_eq_true rfl) (by decide) (c_mtold1 hE.rf hE.ne) ?_
    refine e_iast (q := 295) dX12_line_294 rfl (by first | assumption | rfl) ?_ (by omega) (by omega)
    exact f295 _ e hR (hE.si (k := 93) (by decide) (by decide) (by unfold hf2; simp only [Nat.reduceEqDiff, Nat.reduceLeDiff, reduceIte, if_false, if_true]; omega) _)
  refine e_bipush (q := 247) dX12_line_245 rfl (by decide) ?_
  refine e_aload_n (q := 248) (i := 0) dX12_line_247 rfl rfl rfl ?_
  refine e_iconst (q := 249) dX12_line_248 rfl ?_
  refine e_Vip (q := 252) (vs := [_]) ok_X12_fresher ml_X12_209 dX12_line_249 rfl ⟨_, _, rfl⟩ (by first | assumption | rfl) rfl rfl (Nat.le_of_ble_eq_true rfl) (by decide) (c_X12_fresher (by decide) (by decide)) ?_
  rw [show s.1 84 (7 + 3) = m from b4]
  refine e_iadd (q := 253) dX12_line_252 rfl ?_
  refine e_istore_n (q := 254) (i := 3) (L' := [_, _, _, _, _, _]) dX12_line_253 rfl rfl (by decide) rfl rfl ?_
  refine e_aload_n (q := 255) (i := 0) dX12_line_254 rfl rfl rfl ?_
  refine e_getR (q := 258) dX12_line_255 rfl fg_X12_37 (by first | assumption | rfl) rfl ?_
  refine e_iload_n (q := 259) (i := 3) dX12_line_258 rfl rfl rfl ?_
  refine e_aload_n (q := 260) (i := 0) dX12_line_259 rfl rfl rfl ?_
  refine e_aload_n (q := 261) (i := 0) dX12_line_260 rfl rfl rfl ?_
  refine e_getR (q := 264) dX12_line_261 rfl fg_X12_16 (by first | assumption | rfl) rfl ?_
  refine e_iconst (q := 265) dX12_line_264 rfl ?_
  refine e_aload_n (q := 266) (i := 0) dX12_line_265 rfl rfl rfl ?_
  refine e_iconst (q := 267) dX12_line_266 rfl ?_
  refine e_Vip (q := 270) (vs := [_]) ok_X12_fresher ml_X12_209 dX12_line_267 rfl ⟨_, _, rfl⟩ (by first | assumption | rfl) rfl rfl (Nat.le_of_ble_eq_true rfl) (by decide) (c_X12_fresher (by decide) (by decide)) ?_
  rw [show s.1 84 (7 + 1) = δ 23 2 from b2]
  refine e_Vi (q := 273) (vs := [_, _, _]) ok_X12_toldAhead ml_X12_237 dX12_line_270 rfl ⟨_, _, rfl⟩ (by first | assumption | rfl) rfl rfl (Nat.le_of_ble_eq_true rfl) (by decide) (c_mtold0 (k := 85) (mN := 8) (a := 4) (m := δ 23 2) rfl (by decide) (by decide) (by omega) (by omega) hR85 hC hf) (fun z1 s1 h1 => ?_)
  rw [pTold_cg (g := δ 26) (by omega) (fun i a b => (hb i a b).1)] at h1
  cases hr1 : pTold (δ 26) (δ 23 2) (t :: r) with
  | inl e =>
    rw [hr1] at h1
    have hE := FM.mn hF h1
    have z0 : z1 = _ := h1.1
    refine e_iast (q := 274) dX12_line_273 rfl (by first | assumption | rfl) ?_ (by omega) (by omega)
    exact f274 _ e (by rw [hR0]; unfold bBeat; rw [hm, hr1]; rfl) (hE.si (k := 92) (by decide) (by decide) (by unfold hf2; simp only [Nat.reduceEqDiff, Nat.reduceLeDiff, reduceIte, if_false, if_true]; omega) _)
  | inr q1 =>
    obtain ⟨v1, r1⟩ := q1
    have ok1 := pTold_ok o2.1 hr1
    rw [hr1] at h1
    obtain ⟨e1, F1, k1⟩ := h1
    have e1 : z1 = v1 := e1
    have k1 : MK s1 r1 := k1
    subst e1
    refine e_iast (q := 274) dX12_line_273 rfl (by first | assumption | rfl) ?_ (by omega) (by omega)
    have g1 : MK (sI s1 92 (12 + m) z1) r1 := k1.cg rfl (fun j _ _ => by rw [sI_ne _ (by decide)])
    have p1 : (sI s1 92 (12 + m) z1).1 82 26 = 0 := by rw [sI_ne _ (by decide), F1.2 26 (by decide)]; exact hf
    have M1 : MFr σ (sI s1 92 (12 + m) z1) := (hF.tr (MFr.fm F1 (by decide))).si (by decide) (by decide) (by unfold hf2; simp only [Nat.reduceEqDiff, Nat.reduceLeDiff, reduceIte, if_false, if_true]; omega) _
    obtain ⟨t1, u1, et1⟩ := g1.ne
    subst et1
    refine e_aload_n (q := 275) (i := 0) dX12_line_274 rfl rfl rfl ?_
    refine e_getR (q := 278) dX12_line_275 rfl fg_X12_40 (by first | assumption | rfl) rfl ?_
    refine e_iload_n (q := 279) (i := 3) dX12_line_278 rfl rfl rfl ?_
    refine e_aload_n (q := 280) (i := 0) dX12_line_279 rfl rfl rfl ?_
    refine e_aload_n (q := 281) (i := 0) dX12_line_280 rfl rfl rfl ?_
    refine e_getR (q := 284) dX12_line_281 rfl fg_X12_28 (by first | assumption | rfl) rfl ?_
    refine e_bipush (q := 286) dX12_line_284 rfl (by decide) ?_
    refine e_aload_n (q := 287) (i := 0) dX12_line_286 rfl rfl rfl ?_
    refine e_iconst (q := 288) dX12_line_287 rfl ?_
    refine e_Vip (q := 291) (vs := [_]) ok_X12_fresher ml_X12_209 dX12_line_288 rfl ⟨_, _, rfl⟩ (by first | assumption | rfl) rfl rfl (Nat.le_of_ble_eq_true rfl) (by decide) (c_X12_fresher (by decide) (by decide)) ?_
    rw [show (sI s1 92 (12 + m) z1).1 84 (7 + 2) = δ 23 3 from by rw [sI_ne _ (by decide), F1.c (a := 84) (by decide)]; exact b3]
    refine e_Vi (q := 294) (vs := [_, _, _]) ok_X12_toldAhead ml_X12_237 dX12_line_291 rfl ⟨_, _, rfl⟩ (by first | assumption | rfl) rfl rfl (Nat.le_of_ble_eq_true rfl) (by decide) (c_mtold0 (σ := (sI s1 92 (12 + m) z1)) (k := 89) (mN := 12) (a := 6) (m := δ 23 3) rfl (by decide) (by decide) (by omega) (by omega) (fun i a b => by rw [sI_ne _ (by decide), F1.c (a := 89) (by decide)]; exact hR89 i a b) g1 p1) (fun z2 s2 h2 => ?_)
    rw [pTold_cg (g := δ 29) (by omega) (fun i a b => by show (sI s1 92 (12 + m) z1).1 89 (6 + i) = _; rw [sI_ne _ (by decide), F1.c (a := 89) (by decide)]; exact (hbc i a b).1)] at h2
    cases hr2 : pTold (δ 29) (δ 23 3) (t1 :: u1) with
    | inl e =>
      rw [hr2] at h2
      have hE := FM.mn M1 h2
      have z0 : z2 = _ := h2.1
      refine e_iast (q := 295) dX12_line_294 rfl (by first | assumption | rfl) ?_ (by omega) (by omega)
      exact f295 _ e (by rw [hR0]; unfold bBeat; rw [hm, hr1, bnd_r, hr2]; rfl) (hE.si (k := 93) (by decide) (by decide) (by unfold hf2; simp only [Nat.reduceEqDiff, Nat.reduceLeDiff, reduceIte, if_false, if_true]; omega) _)
    | inr q2 =>
      obtain ⟨v2, r2⟩ := q2
      have ok2 := pTold_ok o3.1 hr2
      rw [hr2] at h2
      obtain ⟨e2, F2, k2⟩ := h2
      have e2 : z2 = v2 := e2
      have k2 : MK s2 r2 := k2
      subst e2
      refine e_iast (q := 295) dX12_line_294 rfl (by first | assumption | rfl) ?_ (by omega) (by omega)
      have g2 : MK (sI s2 93 (12 + m) z2) r2 := k2.cg rfl (fun j _ _ => by rw [sI_ne _ (by decide)])
      have p2 : (sI s2 93 (12 + m) z2).1 82 26 = 0 := by rw [sI_ne _ (by decide), F2.2 26 (by decide), sI_ne _ (by decide), F1.2 26 (by decide)]; exact hf
      have M2 : MFr σ (sI s2 93 (12 + m) z2) := (M1.tr (MFr.fm F2 (by decide))).si (by decide) (by decide) (by unfold hf2; simp only [Nat.reduceEqDiff, Nat.reduceLeDiff, reduceIte, if_false, if_true]; omega) _
      obtain ⟨t2, u2, et2⟩ := g2.ne
      subst et2
      refine e_aload_n (q := 296) (i := 0) dX12_line_295 rfl rfl rfl ?_
      refine e_getR (q := 299) dX12_line_296 rfl fg_X12_43 (by first | assumption | rfl) rfl ?_
      refine e_iload_n (q := 300) (i := 3) dX12_line_299 rfl rfl rfl ?_
      refine e_aload_n (q := 301) (i := 0) dX12_line_300 rfl rfl rfl ?_
      refine e_iconst (q := 302) dX12_line_301 rfl ?_
      refine e_iconst (q := 303) dX12_line_302 rfl ?_
      refine e_Vi (q := 306) (vs := [_, _]) ok_X12_numeral ml_X12_222 dX12_line_303 rfl ⟨_, _, rfl⟩ (by first | assumption | rfl) rfl rfl (Nat.le_of_ble_eq_true rfl) (by decide) (c_mnum0 (lo := 0) (hi := 3) g2 p2 (by decide) (by decide) (by decide) (by decide)) (fun z3 s3 h3 => ?_)
      cases hr3 : pNum 0 3 (t2 :: u2) with
      | inl e =>
        rw [hr3] at h3
        have hE := FM.mn M2 h3
        have z0 : z3 = _ := h3.1
        refine e_iast (q := 307) dX12_line_306 rfl (by first | assumption | rfl) ?_ (by omega) (by omega)
        exact f307 _ e (by rw [hR0]; unfold bBeat; rw [hm, hr1, bnd_r, hr2, bnd_r, hr3]; rfl) (hE.si (k := 94) (by decide) (by decide) (by unfold hf2; simp only [Nat.reduceEqDiff, Nat.reduceLeDiff, reduceIte, if_false, if_true]; omega) _)
      | inr q3 =>
        obtain ⟨v3, r3⟩ := q3
        have ok3 := pNum_ok hr3
        rw [hr3] at h3
        obtain ⟨e3, F3, k3⟩ := h3
        have e3 : z3 = v3 := e3
        have k3 : MK s3 r3 := k3
        subst e3
        refine e_iast (q := 307) dX12_line_306 rfl (by first | assumption | rfl) ?_ (by omega) (by omega)
        have g3 : MK (sI s3 94 (12 + m) z3) r3 := k3.cg rfl (fun j _ _ => by rw [sI_ne _ (by decide)])
        have p3 : (sI s3 94 (12 + m) z3).1 82 26 = 0 := by rw [sI_ne _ (by decide), F3.2 26 (by decide), sI_ne _ (by decide), F2.2 26 (by decide), sI_ne _ (by decide), F1.2 26 (by decide)]; exact hf
        have M3 : MFr σ (sI s3 94 (12 + m) z3) := (M2.tr (MFr.fm F3 (by decide))).si (by decide) (by decide) (by unfold hf2; simp only [Nat.reduceEqDiff, Nat.reduceLeDiff, reduceIte, if_false, if_true]; omega) _
        obtain ⟨t3, u3, et3⟩ := g3.ne
        subst et3
        refine e_aload_n (q := 308) (i := 0) dX12_line_307 rfl rfl rfl ?_
        refine e_getR (q := 311) dX12_line_308 rfl fg_X12_46 (by first | assumption | rfl) rfl ?_
        refine e_iload_n (q := 312) (i := 3) dX12_line_311 rfl rfl rfl ?_
        refine e_aload_n (q := 313) (i := 0) dX12_line_312 rfl rfl rfl ?_
        refine e_iconst (q := 314) dX12_line_313 rfl ?_
        refine e_bipush (q := 316) dX12_line_314 rfl (by decide) ?_
        refine e_Vi (q := 319) (vs := [_, _]) ok_X12_numeral ml_X12_222 dX12_line_316 rfl ⟨_, _, rfl⟩ (by first | assumption | rfl) rfl rfl (Nat.le_of_ble_eq_true rfl) (by decide) (c_mnum0 (lo := 0) (hi := 99) g3 p3 (by decide) (by decide) (by decide) (by decide)) (fun z4 s4 h4 => ?_)
        cases hr4 : pNum 0 99 (t3 :: u3) with
        | inl e =>
          rw [hr4] at h4
          have hE := FM.mn M3 h4
          have z0 : z4 = _ := h4.1
          refine e_iast (q := 320) dX12_line_319 rfl (by first | assumption | rfl) ?_ (by omega) (by omega)
          exact f320 _ e (by rw [hR0]; unfold bBeat; rw [hm, hr1, bnd_r, hr2, bnd_r, hr3, bnd_r, hr4]; rfl) (hE.si (k := 95) (by decide) (by decide) (by unfold hf2; simp only [Nat.reduceEqDiff, Nat.reduceLeDiff, reduceIte, if_false, if_true]; omega) _)
        | inr q4 =>
          obtain ⟨v4, r4⟩ := q4
          have ok4 := pNum_ok hr4
          rw [hr4] at h4
          obtain ⟨e4, F4, k4⟩ := h4
          have e4 : z4 = v4 := e4
          have k4 : MK s4 r4 := k4
          subst e4
          refine e_iast (q := 320) dX12_line_319 rfl (by first | assumption | rfl) ?_ (by omega) (by omega)
          have g4 : MK (sI s4 95 (12 + m) z4) r4 := k4.cg rfl (fun j _ _ => by rw [sI_ne _ (by decide)])
          have p4 : (sI s4 95 (12 + m) z4).1 82 26 = 0 := by rw [sI_ne _ (by decide), F4.2 26 (by decide), sI_ne _ (by decide), F3.2 26 (by decide), sI_ne _ (by decide), F2.2 26 (by decide), sI_ne _ (by decide), F1.2 26 (by decide)]; exact hf
          have M4 : MFr σ (sI s4 95 (12 + m) z4) := (M3.tr (MFr.fm F4 (by decide))).si (by decide) (by decide) (by unfold hf2; simp only [Nat.reduceEqDiff, Nat.reduceLeDiff, reduceIte, if_false, if_true]; omega) _
          refine e_aload_n (q := 321) (i := 0) dX12_line_320 rfl rfl rfl ?_
          refine e_iconst (q := 322) dX12_line_321 rfl ?_
          refine e_aload_n (q := 323) (i := 0) dX12_line_322 rfl rfl rfl ?_
          refine e_iconst (q := 324) dX12_line_323 rfl ?_
          refine e_Vip (q := 327) (vs := [_]) ok_X12_fresher ml_X12_209 dX12_line_324 rfl ⟨_, _, rfl⟩ (by first | assumption | rfl) rfl rfl (Nat.le_of_ble_eq_true rfl) (by decide) (c_X12_fresher (by decide) (by decide)) ?_
          rw [show (sI s4 95 (12 + m) z4).1 84 (7 + 3) = m from by rw [sI_ne _ (by decide), F4.c (a := 84) (by decide), sI_ne _ (by decide), F3.c (a := 84) (by decide), sI_ne _ (by decide), F2.c (a := 84) (by decide), sI_ne _ (by decide), F1.c (a := 84) (by decide)]; exact b4]
          refine e_iconst (q := 328) dX12_line_327 rfl ?_
          refine e_iadd (q := 329) dX12_line_328 rfl ?_
          refine e_Vv (q := 332) (vs := [_, _]) ok_X12_reads ml_X12_226 dX12_line_329 rfl ⟨_, _, rfl⟩ (by first | assumption | rfl) rfl rfl (Nat.le_of_ble_eq_true rfl) (by decide) (c_X12_reads (by decide) (by decide)) (fun s9 h9 => ?_)
          refine e_goto (tgt := 464) dX12_line_332 (by decide) ?_
          subst h9
          subst hm
          refine K _ _ _ _ _ ?_
          rw [hR0]
          unfold bBeat
          rw [hr1, bnd_r, hr2, bnd_r, hr3, bnd_r, hr4, bnd_r]
          refine ⟨?_, M4.si (k := 84) (by decide) (by decide) (by unfold hf2; rw [if_pos rfl]; decide) _, g4.cg rfl (fun j _ _ => by rw [sI_ne _ (by decide)]), ?_, ?_⟩
          · rw [sI_ne _ (by decide)]; exact p4
          · refine MD_beat hD (by omega) ⟨ok3.1, ok3.2.1⟩ ?_ ?_ ?_ ?_ ?_ ?_ ?_
            · rw [sI_uf, sI_ne _ (by decide), F4.c (a := 84) (by decide), sI_ne _ (by decide), F3.c (a := 84) (by decide), sI_ne _ (by decide), F2.c (a := 84) (by decide), sI_ne _ (by decide), F1.c (a := 84) (by decide)]; rfl
            · rw [sI_ne _ (by decide), sI_ne _ (by decide), F4.c (a := 92) (by decide), sI_ne _ (by decide), F3.c (a := 92) (by decide), sI_ne _ (by decide), F2.c (a := 92) (by decide), sI_uf, F1.c (a := 92) (by decide)]
            · rw [sI_ne _ (by decide), sI_ne _ (by decide), F4.c (a := 93) (by decide), sI_ne _ (by decide), F3.c (a := 93) (by decide), sI_uf, F2.c (a := 93) (by decide), sI_ne _ (by decide), F1.c (a := 93) (by decide)]
            · rw [sI_ne _ (by decide), sI_ne _ (by decide), F4.c (a := 94) (by decide), sI_uf, F3.c (a := 94) (by decide), sI_ne _ (by decide), F2.c (a := 94) (by decide), sI_ne _ (by decide), F1.c (a := 94) (by decide)]
            · rw [sI_ne _ (by decide), sI_uf, F4.c (a := 95) (by decide), sI_ne _ (by decide), F3.c (a := 95) (by decide), sI_ne _ (by decide), F2.c (a := 95) (by decide), sI_ne _ (by decide), F1.c (a := 95) (by decide)]
            · intro c hc
              rw [sI_ne _ (by omega), sI_ne _ (by omega), F4.c (a := c) (by simp only [List.mem_cons, List.not_mem_nil, or_false]; omega), sI_ne _ (by omega), F3.c (a := c) (by simp only [List.mem_cons, List.not_mem_nil, or_false]; omega), sI_ne _ (by omega), F2.c (a := c) (by simp only [List.mem_cons, List.not_mem_nil, or_false]; omega), sI_ne _ (by omega), F1.c (a := c) (by simp only [List.mem_cons, List.not_mem_nil, or_false]; omega)]
            · intro j hj
              have hj' : j ∉ ([22, 23, 24, 25] : List Int) := by
                simp only [List.mem_cons, List.not_mem_nil, or_false] at hj ⊢
                omega
              rw [sI_ne _ (by decide), sI_ne _ (by decide), F4.2 j hj', sI_ne _ (by decide), F3.2 j hj', sI_ne _ (by decide), F2.2 j hj', sI_ne _ (by decide), F1.2 j hj']
          · rw [sI_ne _ (by decide), sI_ne _ (by decide), F4.2 19 (by decide), sI_ne _ (by decide), F3.2 19 (by decide), sI_ne _ (by decide), F2.2 19 (by decide), sI_ne _ (by decide), F1.2 19 (by decide)]; exact (hB.cg rfl rfl rfl)
set_option maxHeartbeats 16000000 in
theorem jl_land {G : Gx} {σ s : Sg} {δ : Dl} {R0 : Rs} {Pq : Sg → Prop} {w : Int} {t : Tk} {r : List Tk} (K : LnK G σ w R0 Pq) (hF : MFr σ s) (hC : MK s (t :: r)) (hf : s.1 82 26 = 0) (hD : MD0 s δ) (hO : DOk δ) (hB : ∀ v : Int, MDb (s.1 82 19) (u2 δ 23 0 v)) (hR0 : R0 = bnd (pNum 5 40 (t :: r)) (fun v r => .inr (u2 δ 23 0 v, r))) : J G 151 mX12_line (pV Pq) s 152 [some (.ref (G.2.2.2 + 82)), some (.int (iZ w)), none, none, none, none] [] := by
  refine e_aload_n (q := 153) (i := 0) dX12_line_152 rfl rfl rfl ?_
  refine e_iconst (q := 154) dX12_line_153 rfl ?_
  refine e_aload_n (q := 155) (i := 0) dX12_line_154 rfl rfl rfl ?_
  refine e_iconst (q := 156) dX12_line_155 rfl ?_
  refine e_bipush (q := 158) dX12_line_156 rfl (by decide) ?_
  refine e_Vi (q := 161) (vs := [_, _]) ok_X12_numeral ml_X12_222 dX12_line_158 rfl ⟨_, _, rfl⟩ (by first | assumption | rfl) rfl rfl (Nat.le_of_ble_eq_true rfl) (by decide) (c_mnum0 (lo := 5) (hi := 40) hC hf (by decide) (by decide) (by decide) (by decide)) (fun z1 s1 h1 => ?_)
  refine e_Vv (q := 164) (vs := [_, _]) ok_X12_reads ml_X12_226 dX12_line_161 rfl ⟨_, _, rfl⟩ (by first | assumption | rfl) rfl rfl (Nat.le_of_ble_eq_true rfl) (by decide) (c_X12_reads (by decide) (by decide)) (fun s9 h9 => ?_)
  refine e_goto (tgt := 464) dX12_line_164 (by decide) ?_
  subst h9
  refine K _ _ _ _ _ ?_
  rw [hR0]
  cases hr1 : pNum 5 40 (t :: r) with
  | inl e =>
    rw [hr1] at h1
    exact Or.inl ((FM.mn hF h1).si (k := 84) (by decide) (by decide) (by unfold hf2; rw [if_pos rfl]; decide) _)
  | inr q1 =>
    obtain ⟨v1, r1⟩ := q1
    rw [hr1] at h1
    obtain ⟨e1, F1, k1⟩ := h1
    have e1 : z1 = v1 := e1
    have k1 : MK s1 r1 := k1
    subst e1
    refine ⟨?_, (hF.tr (MFr.fm F1 (by decide))).si (k := 84) (by decide) (by decide) (by unfold hf2; rw [if_pos rfl]; decide) _, k1.cg rfl (fun j _ _ => by rw [sI_ne _ (by decide)]), ?_, ?_⟩
    · rw [sI_ne _ (by decide), F1.2 26 (by decide)]; exact hf
    · refine MD_num (j := 7) hD ?_ (Or.inl ⟨rfl, rfl⟩) ?_ ?_
      · rw [sI_uf, F1.c (a := 84) (by decide)]; rfl
      · intro c a b
        rw [sI_ne _ (by omega), F1.c (a := c) (by simp only [List.mem_cons, List.not_mem_nil, or_false]; omega)]
      · intro j hj
        have hj' : j ∉ ([22, 23, 24, 25] : List Int) := by
          simp only [List.mem_cons, List.not_mem_nil, or_false] at hj ⊢
          omega
        rw [sI_ne _ (by decide), F1.2 j hj']
    · rw [sI_ne _ (by decide), F1.2 19 (by decide)]; exact hB z1
set_option maxHeartbeats 16000000 in
theorem jl_rain {G : Gx} {σ s : Sg} {δ : Dl} {R0 : Rs} {Pq : Sg → Prop} {w : Int} {t : Tk} {r : List Tk} (K : LnK G σ w R0 Pq) (hF : MFr σ s) (hC : MK s (t :: r)) (hf : s.1 82 26 = 0) (hD : MD0 s δ) (hO : DOk δ) (hB : ∀ v : Int, MDb (s.1 82 19) (u2 (u2 δ 23 6 v) 18 3 1)) (hR0 : R0 = bnd (pNum 0 100 (t :: r)) (fun v r => .inr (u2 (u2 δ 23 6 v) 18 3 1, r))) : J G 151 mX12_line (pV Pq) s 430 [some (.ref (G.2.2.2 + 82)), some (.int (iZ w)), none, none, none, none] [] := by
  refine e_aload_n (q := 431) (i := 0) dX12_line_430 rfl rfl rfl ?_
  refine e_iconst (q := 432) dX12_line_431 rfl ?_
  refine e_aload_n (q := 433) (i := 0) dX12_line_432 rfl rfl rfl ?_
  refine e_iconst (q := 434) dX12_line_433 rfl ?_
  refine e_bipush (q := 436) dX12_line_434 rfl (by decide) ?_
  refine e_Vi (q := 439) (vs := [_, _]) ok_X12_numeral ml_X12_222 dX12_line_436 rfl ⟨_, _, rfl⟩ (by first | assumption | rfl) rfl rfl (Nat.le_of_ble_eq_true rfl) (by decide) (c_mnum0 (lo := 0) (hi := 100) hC hf (by decide) (by decide) (by decide) (by decide)) (fun z1 s1 h1 => ?_)
  refine e_Vv (q := 442) (vs := [_, _]) ok_X12_reads ml_X12_226 dX12_line_439 rfl ⟨_, _, rfl⟩ (by first | assumption | rfl) rfl rfl (Nat.le_of_ble_eq_true rfl) (by decide) (c_X12_reads (by decide) (by decide)) (fun s9 h9 => ?_)
  refine e_goto (tgt := 464) dX12_line_442 (by decide) ?_
  subst h9
  refine K _ _ _ _ _ ?_
  rw [hR0]
  cases hr1 : pNum 0 100 (t :: r) with
  | inl e =>
    rw [hr1] at h1
    exact Or.inl ((FM.mn hF h1).si (k := 84) (by decide) (by decide) (by unfold hf2; rw [if_pos rfl]; decide) _)
  | inr q1 =>
    obtain ⟨v1, r1⟩ := q1
    rw [hr1] at h1
    obtain ⟨e1, F1, k1⟩ := h1
    have e1 : z1 = v1 := e1
    have k1 : MK s1 r1 := k1
    subst e1
    refine ⟨?_, (hF.tr (MFr.fm F1 (by decide))).si (k := 84) (by decide) (by decide) (by unfold hf2; rw [if_pos rfl]; decide) _, k1.cg rfl (fun j _ _ => by rw [sI_ne _ (by decide)]), ?_, ?_⟩
    · rw [sI_ne _ (by decide), F1.2 26 (by decide)]; exact hf
    · refine MD_num (j := 11) hD ?_ (Or.inr (Or.inl ⟨rfl, rfl⟩)) ?_ ?_
      · rw [sI_uf, F1.c (a := 84) (by decide)]; rfl
      · intro c a b
        rw [sI_ne _ (by omega), F1.c (a := c) (by simp only [List.mem_cons, List.not_mem_nil, or_false]; omega)]
      · intro j hj
        have hj' : j ∉ ([22, 23, 24, 25] : List Int) := by
          simp only [List.mem_cons, List.not_mem_nil, or_false] at hj ⊢
          omega
        rw [sI_ne _ (by decide), F1.2 j hj']
    · rw [sI_ne _ (by decide), F1.2 19 (by decide)]; exact hB z1
set_option maxHeartbeats 16000000 in
theorem jl_seed {G : Gx} {σ s : Sg} {δ : Dl} {R0 : Rs} {Pq : Sg → Prop} {w : Int} {t : Tk} {r : List Tk} (K : LnK G σ w R0 Pq) (hF : MFr σ s) (hC : MK s (t :: r)) (hf : s.1 82 26 = 0) (hD : MD0 s δ) (hO : DOk δ) (hB : ∀ v : Int, MDb (s.1 82 19) (u2 (u2 δ 23 7 v) 18 4 1)) (hR0 : R0 = bnd (pNum 0 99999 (t :: r)) (fun v r => .inr (u2 (u2 δ 23 7 v) 18 4 1, r))) : J G 151 mX12_line (pV Pq) s 445 [some (.ref (G.2.2.2 + 82)), some (.int (iZ w)), none, none, none, none] [] := by
  refine e_aload_n (q := 446) (i := 0) dX12_line_445 rfl rfl rfl ?_
  refine e_iconst (q := 447) dX12_line_446 rfl ?_
  refine e_aload_n (q := 448) (i := 0) dX12_line_447 rfl rfl rfl ?_
  refine e_iconst (q := 449) dX12_line_448 rfl ?_
  refine e_ldc (q := 451) (z := 99999) dX12_line_449 rfl kw_X12_174 (by decide) ?_
  refine e_Vi (q := 454) (vs := [_, _]) ok_X12_numeral ml_X12_222 dX12_line_451 rfl ⟨_, _, rfl⟩ (by first | assumption | rfl) rfl rfl (Nat.le_of_ble_eq_true rfl) (by decide) (c_mnum0 (lo := 0) (hi := 99999) hC hf (by decide) (by decide) (by decide) (by decide)) (fun z1 s1 h1 => ?_)
  refine e_Vv (q := 457) (vs := [_, _]) ok_X12_reads ml_X12_226 dX12_line_454 rfl ⟨_, _, rfl⟩ (by first | assumption | rfl) rfl rfl (Nat.le_of_ble_eq_true rfl) (by decide) (c_X12_reads (by decide) (by decide)) (fun s9 h9 => ?_)
  refine e_goto (tgt := 464) dX12_line_457 (by decide) ?_
  subst h9
  refine K _ _ _ _ _ ?_
  rw [hR0]
  cases hr1 : pNum 0 99999 (t :: r) with
  | inl e =>
    rw [hr1] at h1
    exact Or.inl ((FM.mn hF h1).si (k := 84) (by decide) (by decide) (by unfold hf2; rw [if_pos rfl]; decide) _)
  | inr q1 =>
    obtain ⟨v1, r1⟩ := q1
    rw [hr1] at h1
    obtain ⟨e1, F1, k1⟩ := h1
    have e1 : z1 = v1 := e1
    have k1 : MK s1 r1 := k1
    subst e1
    refine ⟨?_, (hF.tr (MFr.fm F1 (by decide))).si (k := 84) (by decide) (by decide) (by unfold hf2; rw [if_pos rfl]; decide) _, k1.cg rfl (fun j _ _ => by rw [sI_ne _ (by decide)]), ?_, ?_⟩
    · rw [sI_ne _ (by decide), F1.2 26 (by decide)]; exact hf
    · refine MD_num (j := 12) hD ?_ (Or.inr (Or.inr ⟨rfl, rfl⟩)) ?_ ?_
      · rw [sI_uf, F1.c (a := 84) (by decide)]; rfl
      · intro c a b
        rw [sI_ne _ (by omega), F1.c (a := c) (by simp only [List.mem_cons, List.not_mem_nil, or_false]; omega)]
      · intro j hj
        have hj' : j ∉ ([22, 23, 24, 25] : List Int) := by
          simp only [List.mem_cons, List.not_mem_nil, or_false] at hj ⊢
          omega
        rw [sI_ne _ (by decide), F1.2 j hj']
    · rw [sI_ne _ (by decide), F1.2 19 (by decide)]; exact hB z1
