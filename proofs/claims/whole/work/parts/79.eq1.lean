/-! ===== the class's years and the model's ===== -/
theorem evRun_code {nm code code' : Int → Int} : ∀ (n : Nat) (k : Int) (l : List Int), (∀ j, k ≤ j → j < k + n → code j = code' j) → evRun nm code n k l = evRun nm code' n k l
  | 0, _, _, _ => rfl
  | n + 1, k, l, h => by
    simp only [evRun]
    rw [h k (Int.le_refl k) (by omega)]
    cases evStep nm l (code' k) with
    | none => rfl
    | some l' => exact evRun_code n (k + 1) l' (fun j a b => h j (by omega) (by omega))
theorem evLaw_code {nm code code' : Int → Int} {s e : Int} (h : ∀ j, s ≤ j → j < e → code j = code' j) : evLaw nm code s e = evLaw nm code' s e := by
  unfold evLaw
  rw [evRun_code _ _ _ (fun j a b => h j a (by omega))]
section YS
variable {lv lv' : Int → (Int → Int) → Int} {mo mo' ck ck' ed ed' bs bs' bc bc' by_ by_' : Int → Int} {ov ov' : (Int → Int) → Int → Int → Int} {np nc nb : Int}
/-- another quarrel -/
def sq (u : Int) (y : Yd) : Yd := (y.1, y.2.1, y.2.2.1, u, y.2.2.2.2)
theorem yBeats_sq (u un tl wet : Int) (y : Yd) : ∀ k : Nat, yBeats lv mo ck ed bs bc by_ un tl wet k (sq u y) = sq u (yBeats lv mo ck ed bs bc by_ un tl wet k y)
  | 0 => rfl
  | k + 1 => by
    simp only [yBeats]
    rw [yBeats_sq u un tl wet y k]
    by_cases h : by_ k = (yBeats lv mo ck ed bs bc by_ un tl wet k y).2.2.2.2 ∧ bc k ≠ un
    · rw [if_pos h, if_pos (show by_ k = (sq u (yBeats lv mo ck ed bs bc by_ un tl wet k y)).2.2.2.2 ∧ bc k ≠ un from h)]
      rfl
    · rw [if_neg h, if_neg (show ¬ (by_ k = (sq u (yBeats lv mo ck ed bs bc by_ un tl wet k y)).2.2.2.2 ∧ bc k ≠ un) from h)]
theorem yGrow_sq (u wet : Int) (y : Yd) : ∀ k : Nat, yGrow lv mo wet k (sq u y) = sq u (yGrow lv mo wet k y)
  | 0 => rfl
  | k + 1 => by
    simp only [yGrow]
    rw [yGrow_sq u wet y k]
    rfl
theorem yBeats_no (un tl wet : Int) (y : Yd) : ∀ k : Nat, (∀ j : Int, 0 ≤ j → j < k → by_ j ≠ y.2.2.2.2) → yBeats lv mo ck ed bs bc by_ un tl wet k y = y
  | 0, _ => rfl
  | k + 1, h => by
    simp only [yBeats]
    rw [yBeats_no un tl wet y k (fun j a b => h j a (by omega)), if_neg (fun q => h k (by omega) (by omega) q.1)]
theorem yGrow_far (wet : Int) (y : Yd) : ∀ k : Nat, (yGrow lv mo wet k y).1 = y.1 ∧ (yGrow lv mo wet k y).2.2.2.2 = y.2.2.2.2
  | 0 => ⟨rfl, rfl⟩
  | k + 1 => by
    have ih := yGrow_far wet y k
    simp only [yGrow]
    exact ih
theorem yYear_0 (un tl lb wet : Int) (y : Yd) : yYear lv mo ck ed bs bc by_ ov nb np nc un tl 0 lb wet y = yYear lv mo ck ed bs bc by_ ov nb np nc un tl 0 0 wet y := by
  unfold yYear
  rw [if_neg (fun q => q.1 rfl), if_neg (fun q => q.1 rfl)]
theorem yPass_0 (un tl lb rain w : Int) (s : Yd × Int) : ∀ k : Nat, yPass lv mo ck ed bs bc by_ ov nb np nc un tl 0 lb rain w k s = yPass lv mo ck ed bs bc by_ ov nb np nc un tl 0 0 rain w k s
  | 0 => rfl
  | k + 1 => by
    simp only [yPass]
    rw [yPass_0 un tl lb rain w s k, yYear_0 un tl lb]
/-- stones only against all: far and year alike; legs and tired as long as a beating may come -/
def ZR (np nc lb : Int) (y y' : Yd) : Prop := (∀ i, 0 ≤ i → i < 4 * np → y.1 i = y'.1 i) ∧ y.2.2.2.2 = y'.2.2.2.2 ∧ (y.2.2.2.2 ≤ lb → ∀ i, 0 ≤ i → i < nc → y.2.1 i = y'.2.1 i ∧ y.2.2.1 i = y'.2.2.1 i)
theorem YR.z {y y' : Yd} {lb : Int} (h : YR np nc y y') : ZR np nc lb y y' := ⟨h.1, h.2.2.2, fun _ => h.2.1⟩
theorem yYear_z (hlv : LvR lv lv') (hmo : ∀ c, 0 ≤ c → c < nc → mo c = mo' c) (hck : ∀ s, 0 ≤ s → s < 4 * np → ck s = ck' s) (hed : ∀ s, 0 ≤ s → s < 4 * np → ed s = ed' s) (hb : ∀ k, 0 ≤ k → k < nb → bs k = bs' k ∧ bc k = bc' k ∧ by_ k = by_' k ∧ 0 ≤ bs k ∧ bs k < 4 * np ∧ 0 ≤ bc k ∧ bc k < nc) (h0 : 0 ≤ nb) (h2 : 0 ≤ nc) {lb : Int} (hlb : ∀ k, 0 ≤ k → k < nb → by_' k ≤ lb) (un tl wet : Int) {y y' : Yd} (h : ZR np nc lb y y') : ZR np nc lb (yYear lv mo ck ed bs bc by_ ov nb np nc un tl 1 lb wet y) (yYear lv' mo' ck' ed' bs' bc' by_' ov' nb np nc un tl 0 0 wet y') := by
  obtain ⟨z1, z2, z3⟩ := h
  unfold yYear
  rw [if_neg (show ¬ ((0 : Int) ≠ 0 ∧ 0 < y'.2.2.2.2) from fun q => q.1 rfl)]
  by_cases hl : lb < y.2.2.2.2
  · rw [if_pos ⟨by decide, hl⟩]
    dsimp only
    rw [yBeats_no un tl wet y' nb.toNat (fun j a b => by have := hlb j a (by omega); omega), if_pos rfl]
    have g := yGrow_far (lv := lv') (mo := mo') wet (y'.1, y'.2.1, y'.2.2.1, qOut lv' (ov' y'.1) wet y'.2.2.2.2 np np.toNat y'.2.2.2.1, y'.2.2.2.2) nc.toNat
    refine ⟨fun i a b => ?_, ?_, fun q => ?_⟩
    · show y.1 i = _
      rw [z1 i a b]
      exact (congrFun g.1 i).symm
    · show y.2.2.2.2 + 1 = _ + 1
      rw [g.2, z2]
    · have q : y.2.2.2.2 + 1 ≤ lb := q
      omega
  · rw [if_neg (fun q => hl q.2)]
    dsimp only
    rw [if_neg (show ¬ ((1 : Int) = 0) by decide), if_pos rfl]
    have z3' := z3 (by omega)
    have hy : YR np nc y (sq y.2.2.2.1 y') := ⟨z1, z3', rfl, z2⟩
    have ha := yBeats_c hlv hmo hck hed hb un tl wet hy nb.toNat (by omega)
    rw [yBeats_sq] at ha
    generalize yBeats lv mo ck ed bs bc by_ un tl wet nb.toNat y = a at ha ⊢
    generalize yBeats lv' mo' ck' ed' bs' bc' by_' un tl wet nb.toNat y' = a' at ha ⊢
    have hc := yGrow_c hlv hmo wet ha nc.toNat (by omega)
    rw [yGrow_sq] at hc
    rw [show (a'.1, a'.2.1, a'.2.2.1, qOut lv' (ov' a'.1) wet a'.2.2.2.2 np np.toNat a'.2.2.2.1, a'.2.2.2.2) = sq (qOut lv' (ov' a'.1) wet a'.2.2.2.2 np np.toNat a'.2.2.2.1) a' from rfl, yGrow_sq]
    exact ⟨hc.1, by show _ + 1 = _ + 1; rw [hc.2.2.2]; rfl, fun _ => hc.2.1⟩
theorem yPass_z (hlv : LvR lv lv') (hmo : ∀ c, 0 ≤ c → c < nc → mo c = mo' c) (hck : ∀ s, 0 ≤ s → s < 4 * np → ck s = ck' s) (hed : ∀ s, 0 ≤ s → s < 4 * np → ed s = ed' s) (hb : ∀ k, 0 ≤ k → k < nb → bs k = bs' k ∧ bc k = bc' k ∧ by_ k = by_' k ∧ 0 ≤ bs k ∧ bs k < 4 * np ∧ 0 ≤ bc k ∧ bc k < nc) (h0 : 0 ≤ nb) (h2 : 0 ≤ nc) {lb : Int} (hlb : ∀ k, 0 ≤ k → k < nb → by_' k ≤ lb) (un tl rain w : Int) {y y' : Yd} {n : Int} (h : ZR np nc lb y y') : ∀ k : Nat, ZR np nc lb (yPass lv mo ck ed bs bc by_ ov nb np nc un tl 1 lb rain w k (y, n)).1 (yPass lv' mo' ck' ed' bs' bc' by_' ov' nb np nc un tl 0 0 rain w k (y', n)).1 ∧ (yPass lv mo ck ed bs bc by_ ov nb np nc un tl 1 lb rain w k (y, n)).2 = (yPass lv' mo' ck' ed' bs' bc' by_' ov' nb np nc un tl 0 0 rain w k (y', n)).2
  | 0 => ⟨h, rfl⟩
  | k + 1 => by
    have ih := yPass_z hlv hmo hck hed hb h0 h2 hlb un tl rain w (n := n) h k
    simp only [yPass]
    rw [ih.2]
    exact ⟨yYear_z hlv hmo hck hed hb h0 h2 hlb un tl _ ih.1, rfl⟩
end YS
/-- what the class and the model hold of the text that is told -/
def TC (σ : Sg) : Prop := (σ.1 84 0 = σ.1 2 0 ∧ σ.1 84 1 = σ.1 2 2 ∧ σ.1 84 2 = σ.1 2 3 ∧ σ.1 84 3 = σ.1 2 4 ∧ σ.1 84 4 = σ.1 2 6 ∧ σ.1 84 5 = σ.1 2 7 ∧ σ.1 84 6 = σ.1 13 4)
  ∧ (∀ i, 0 ≤ i → i < σ.1 2 2 → σ.1 85 i = σ.1 5 i ∧ σ.1 86 i = σ.1 3 i ∧ σ.1 87 i = σ.1 4 i)
  ∧ (∀ i, 0 ≤ i → i < 16 → σ.1 88 i = σ.1 12 i)
  ∧ (∀ i, 0 ≤ i → i < σ.1 2 3 → σ.1 89 i = σ.1 8 i ∧ σ.1 90 i = σ.1 6 i ∧ σ.1 91 i = σ.1 7 i)
  ∧ (∀ i, 0 ≤ i → i < σ.1 2 4 → 4 * σ.1 92 i + σ.1 94 i = σ.1 9 i ∧ (0 ≤ σ.1 94 i ∧ σ.1 94 i ≤ 3) ∧ σ.1 93 i = σ.1 10 i ∧ σ.1 95 i = σ.1 11 i)
  ∧ (∀ k, 0 ≤ k → k < 3 → σ.1 96 k = σ.1 15 k ∧ σ.1 97 k = σ.1 16 k ∧ ∀ i, σ.1 15 k ≤ i → i < σ.1 16 k → mCode σ i = σ.1 14 i)
  ∧ (∀ i, 0 ≤ i → i < σ.1 2 4 → σ.1 11 i ≤ σ.1 2 5)
theorem TC_lv {σ : Sg} (h : TC σ) : LvR (lawV σ) (mLaw σ) := by
  intro r nm nm' r0 r3 hn
  obtain ⟨-, -, -, -, -, h6, -⟩ := h
  have q := h6 r r0 r3
  unfold lawV mLaw
  rw [evLaw_nm hn, q.1, q.2.1]
  exact (evLaw_code q.2.2).symm
theorem TC_ed {σ : Sg} (h : TC σ) {s : Int} (h0 : 0 ≤ s) (h1 : s < 4 * σ.1 2 2) : edS σ s = mEd σ s := by
  have q := h.2.1 (s / 4) (by omega) (by omega)
  unfold edS mEd gEdge
  rw [q.2.1, q.2.2, h.1.1]
theorem paR_m0 {σ : Sg} (hT : TI σ) (hB : TB σ) (h : TC σ) {ck ck' : Int → Int} (hck : ∀ s, 0 ≤ s → s < 4 * σ.1 2 2 → ck s = ck' s) (un tl w : Int) {y y' : Yd} {n : Int} (hy : YR (σ.1 2 2) (σ.1 2 3) y y') (k : Nat) : YR (σ.1 2 2) (σ.1 2 3) (paR σ ck un tl 0 w k (y, n)).1 (mRn σ ck' un tl w k (y', n)).1 ∧ (paR σ ck un tl 0 w k (y, n)).2 = (mRn σ ck' un tl w k (y', n)).2 := by
  have hlv := TC_lv h
  obtain ⟨⟨c0, c1, c2, c3, c4, c5, c6⟩, t1, t2, t3, t4, t5, t6⟩ := id h
  obtain ⟨-, -, hnp, hnc, hnb, -, -, -, -, -, -, hbt, -⟩ := hT
  unfold paR mRn
  rw [c1, c2, c3, c4, yPass_0]
  exact yPass_c (lv := lawV σ) (lv' := mLaw σ) (mo := σ.1 7) (mo' := σ.1 91) (ck := ck) (ck' := ck') (ed := edS σ) (ed' := mEd σ) (bs := σ.1 9) (bs' := mBs σ) (bc := σ.1 10) (bc' := σ.1 93) (by_ := σ.1 11) (by_' := σ.1 95) (ov := gOv (σ.1 3) (σ.1 4)) (ov' := gOv (σ.1 86) (σ.1 87)) (np := σ.1 2 2) (nc := σ.1 2 3) (nb := σ.1 2 4) hlv (fun c a b => (t3 c a b).2.2.symm) hck (fun s a b => TC_ed h a b) (fun j a b => by
    have q1 := hbt j a (by omega)
    have q2 := hB j a b
    have q3 := t4 j a b
    exact ⟨q3.1.symm, q3.2.2.1.symm, q3.2.2.2.symm, by omega, by omega, by omega, by omega⟩) (fun f f' hf p q a b c d => gOv_c (fun p u v => ⟨(t1 p u v).2.1.symm, (t1 p u v).2.2.symm⟩) hf a b c d) hnb.1 hnp.1 hnc.1 un tl 0 0 (σ.1 2 6) w hy k
theorem paR_m1 {σ : Sg} (hT : TI σ) (hB : TB σ) (h : TC σ) {ck ck' : Int → Int} (hck : ∀ s, 0 ≤ s → s < 4 * σ.1 2 2 → ck s = ck' s) (un tl w : Int) {y y' : Yd} {n : Int} (hy : YR (σ.1 2 2) (σ.1 2 3) y y') (k : Nat) : (∀ i, 0 ≤ i → i < 4 * σ.1 2 2 → (paR σ ck un tl 1 w k (y, n)).1.1 i = (mRn σ ck' un tl w k (y', n)).1.1 i) ∧ (paR σ ck un tl 1 w k (y, n)).2 = (mRn σ ck' un tl w k (y', n)).2 := by
  have hlv := TC_lv h
  obtain ⟨⟨c0, c1, c2, c3, c4, c5, c6⟩, t1, t2, t3, t4, t5, t6⟩ := id h
  obtain ⟨-, -, hnp, hnc, hnb, -, -, -, -, -, -, hbt, -⟩ := hT
  unfold paR mRn
  rw [c1, c2, c3, c4]
  have q := yPass_z (lv := lawV σ) (lv' := mLaw σ) (mo := σ.1 7) (mo' := σ.1 91) (ck := ck) (ck' := ck') (ed := edS σ) (ed' := mEd σ) (bs := σ.1 9) (bs' := mBs σ) (bc := σ.1 10) (bc' := σ.1 93) (by_ := σ.1 11) (by_' := σ.1 95) (ov := gOv (σ.1 3) (σ.1 4)) (ov' := gOv (σ.1 86) (σ.1 87)) (np := σ.1 2 2) (nc := σ.1 2 3) (nb := σ.1 2 4) hlv (fun c a b => (t3 c a b).2.2.symm) hck (fun s a b => TC_ed h a b) (fun j a b => by
    have q1 := hbt j a (by omega)
    have q2 := hB j a b
    have q3 := t4 j a b
    exact ⟨q3.1.symm, q3.2.2.1.symm, q3.2.2.2.symm, by omega, by omega, by omega, by omega⟩) hnb.1 hnc.1 (lb := σ.1 2 5) (fun j a b => by rw [(t4 j a b).2.2.2]; exact t6 j a b) un tl (σ.1 2 6) w (n := n) hy.z k
  exact ⟨q.1.1, q.2⟩

