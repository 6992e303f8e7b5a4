/-! ===== two ways to hold the same years ===== -/
/-- alike on what counts: stones of np parishes, legs and tired of nc children, quarrel, year -/
def YR (np nc : Int) (y y' : Yd) : Prop := (∀ i, 0 ≤ i → i < 4 * np → y.1 i = y'.1 i) ∧ (∀ i, 0 ≤ i → i < nc → y.2.1 i = y'.2.1 i ∧ y.2.2.1 i = y'.2.2.1 i) ∧ y.2.2.2.1 = y'.2.2.2.1 ∧ y.2.2.2.2 = y'.2.2.2.2
theorem YR.rf (np nc : Int) (y : Yd) : YR np nc y y := ⟨fun _ _ _ => rfl, fun _ _ _ => ⟨rfl, rfl⟩, rfl, rfl⟩
theorem YR.sy {np nc : Int} {y y' : Yd} (h : YR np nc y y') : YR np nc y' y := ⟨fun i a b => (h.1 i a b).symm, fun i a b => ⟨(h.2.1 i a b).1.symm, (h.2.1 i a b).2.symm⟩, h.2.2.1.symm, h.2.2.2.symm⟩
theorem YR.tr {np nc : Int} {y y' y'' : Yd} (h : YR np nc y y') (h' : YR np nc y' y'') : YR np nc y y'' := ⟨fun i a b => (h.1 i a b).trans (h'.1 i a b), fun i a b => ⟨(h.2.1 i a b).1.trans (h'.2.1 i a b).1, (h.2.1 i a b).2.trans (h'.2.1 i a b).2⟩, h.2.2.1.trans h'.2.2.1, h.2.2.2.trans h'.2.2.2⟩
theorem uf_eq {f g : Int → Int} {k v w i : Int} (h : f i = g i) (hv : v = w) : uf f k v i = uf g k w i := by
  unfold uf
  rw [h, hv]
/-- two laws that answer alike -/
def LvR (lv lv' : Int → (Int → Int) → Int) : Prop := ∀ r nm nm', 0 ≤ r → r < 3 → (∀ i, 0 ≤ i → i < 7 → nm i = nm' i) → lv r nm = lv' r nm'
section YC
variable {lv lv' : Int → (Int → Int) → Int} {mo mo' ck ck' ed ed' bs bs' bc bc' by_ by_' : Int → Int} {ov ov' : (Int → Int) → Int → Int → Int} {np nc nb : Int}
theorem yLead_c (hlv : LvR lv lv') (hmo : ∀ c, 0 ≤ c → c < nc → mo c = mo' c) (hck : ∀ s, 0 ≤ s → s < 4 * np → ck s = ck' s) (hed : ∀ s, 0 ≤ s → s < 4 * np → ed s = ed' s) {y y' : Yd} (h : YR np nc y y') (tl wet : Int) {c s : Int} (c0 : 0 ≤ c) (c1 : c < nc) (s0 : 0 ≤ s) (s1 : s < 4 * np) : YR np nc (yLead lv mo ck ed tl wet c s y) (yLead lv' mo' ck' ed' tl wet c s y') := by
  obtain ⟨h1, h2, h3, h4⟩ := h
  have e1 := h1 s s0 s1
  have e2 := h2 c c0 c1
  have e3 := hmo c c0 c1
  have e4 := hck s s0 s1
  have e5 := hed s s0 s1
  have el : lv 0 (nmF (y.2.1 c) (mo c) (y.2.2.1 c) (ck s) wet (y.1 s) y.2.2.2.2) = lv' 0 (nmF (y'.2.1 c) (mo' c) (y'.2.2.1 c) (ck' s) wet (y'.1 s) y'.2.2.2.2) := hlv 0 _ _ (by decide) (by decide) (fun i _ _ => by rw [e1, e2.1, e2.2, e3, e4, h4])
  refine ⟨fun i a b => ?_, fun i a b => ⟨(h2 i a b).1, ?_⟩, h3, h4⟩
  · show uf y.1 s _ i = uf y'.1 s _ i
    exact uf_eq (h1 i a b) (by rw [el, e2.1, e2.2, e4, e5])
  · show (if tl = 0 then uf y.2.2.1 c (min (y.2.2.1 c + 1) 99) else y.2.2.1) i = (if tl = 0 then uf y'.2.2.1 c (min (y'.2.2.1 c + 1) 99) else y'.2.2.1) i
    split
    · exact uf_eq (h2 i a b).2 (by rw [e2.2])
    · exact (h2 i a b).2
theorem yBeats_c (hlv : LvR lv lv') (hmo : ∀ c, 0 ≤ c → c < nc → mo c = mo' c) (hck : ∀ s, 0 ≤ s → s < 4 * np → ck s = ck' s) (hed : ∀ s, 0 ≤ s → s < 4 * np → ed s = ed' s) (hb : ∀ k, 0 ≤ k → k < nb → bs k = bs' k ∧ bc k = bc' k ∧ by_ k = by_' k ∧ 0 ≤ bs k ∧ bs k < 4 * np ∧ 0 ≤ bc k ∧ bc k < nc) (un tl wet : Int) {y y' : Yd} (h : YR np nc y y') : ∀ k : Nat, (k : Int) ≤ nb → YR np nc (yBeats lv mo ck ed bs bc by_ un tl wet k y) (yBeats lv' mo' ck' ed' bs' bc' by_' un tl wet k y')
  | 0, _ => h
  | k + 1, hk => by
    have ih := yBeats_c hlv hmo hck hed hb un tl wet h k (by omega)
    obtain ⟨b1, b2, b3, b4, b5, b6, b7⟩ := hb k (by omega) (by omega)
    simp only [yBeats]
    rw [← b1, ← b2, ← b3, ← ih.2.2.2]
    split
    · exact yLead_c hlv hmo hck hed ih tl wet b6 b7 b4 b5
    · exact ih
theorem qIn_c (hlv : LvR lv lv') {o o' : Int → Int → Int} (ho : ∀ p q, 0 ≤ p → p < np → 0 ≤ q → q < np → o p q = o' p q) (wet ye u : Int) {p : Int} (p0 : 0 ≤ p) (p1 : p < np) : ∀ k : Nat, p + 1 + k ≤ np → qIn lv o wet ye p k u = qIn lv' o' wet ye p k u
  | 0, _ => rfl
  | k + 1, hk => by
    simp only [qIn]
    rw [qIn_c hlv ho wet ye u p0 p1 k (by omega)]
    unfold qAdd
    have e := ho p (p + 1 + k) p0 p1 (by omega) (by omega)
    rw [e, hlv 1 (nmF 0 0 0 0 wet (o' p (p + 1 + k)) ye) (nmF 0 0 0 0 wet (o' p (p + 1 + k)) ye) (by decide) (by decide) (fun _ _ _ => rfl)]
theorem qOut_c (hlv : LvR lv lv') {o o' : Int → Int → Int} (ho : ∀ p q, 0 ≤ p → p < np → 0 ≤ q → q < np → o p q = o' p q) (wet ye u : Int) : ∀ k : Nat, (k : Int) ≤ np → qOut lv o wet ye np k u = qOut lv' o' wet ye np k u
  | 0, _ => rfl
  | k + 1, hk => by
    simp only [qOut]
    rw [qOut_c hlv ho wet ye u k (by omega)]
    exact qIn_c hlv ho wet ye _ (by omega) (by omega) _ (by omega)
theorem yGrow_c (hlv : LvR lv lv') (hmo : ∀ c, 0 ≤ c → c < nc → mo c = mo' c) (wet : Int) {y y' : Yd} (h : YR np nc y y') : ∀ k : Nat, (k : Int) ≤ nc → YR np nc (yGrow lv mo wet k y) (yGrow lv' mo' wet k y')
  | 0, _ => h
  | k + 1, hk => by
    have ih := yGrow_c hlv hmo wet h k (by omega)
    simp only [yGrow]
    generalize yGrow lv mo wet k y = a at ih ⊢
    generalize yGrow lv' mo' wet k y' = b at ih ⊢
    obtain ⟨h1, h2, h3, h4⟩ := ih
    have e2 := h2 k (by omega) (by omega)
    have e3 := hmo k (by omega) (by omega)
    have el : lv 2 (nmF (a.2.1 k) (mo k) (max (a.2.2.1 k - 1) 0) 0 wet 0 a.2.2.2.2) = lv' 2 (nmF (b.2.1 k) (mo' k) (max (b.2.2.1 k - 1) 0) 0 wet 0 b.2.2.2.2) := hlv 2 _ _ (by decide) (by decide) (fun i _ _ => by rw [e2.1, e2.2, e3, h4])
    refine ⟨h1, fun i p q => ⟨?_, ?_⟩, h3, h4⟩
    · simp only [yGrow1]
      rw [el, e2.1]
      split
      · exact (h2 i p q).1
      · exact uf_eq (h2 i p q).1 rfl
    · simp only [yGrow1]
      exact uf_eq (h2 i p q).2 (by rw [e2.2])
theorem yYear_c (hlv : LvR lv lv') (hmo : ∀ c, 0 ≤ c → c < nc → mo c = mo' c) (hck : ∀ s, 0 ≤ s → s < 4 * np → ck s = ck' s) (hed : ∀ s, 0 ≤ s → s < 4 * np → ed s = ed' s) (hb : ∀ k, 0 ≤ k → k < nb → bs k = bs' k ∧ bc k = bc' k ∧ by_ k = by_' k ∧ 0 ≤ bs k ∧ bs k < 4 * np ∧ 0 ≤ bc k ∧ bc k < nc) (hov : ∀ f f', (∀ i, 0 ≤ i → i < 4 * np → f i = f' i) → ∀ p q, 0 ≤ p → p < np → 0 ≤ q → q < np → ov f p q = ov' f' p q) (h0 : 0 ≤ nb) (h1 : 0 ≤ np) (h2 : 0 ≤ nc) (un tl so lb wet : Int) {y y' : Yd} (h : YR np nc y y') : YR np nc (yYear lv mo ck ed bs bc by_ ov nb np nc un tl so lb wet y) (yYear lv' mo' ck' ed' bs' bc' by_' ov' nb np nc un tl so lb wet y') := by
  unfold yYear
  rw [← h.2.2.2]
  split
  · exact ⟨h.1, h.2.1, h.2.2.1, by show y.2.2.2.2 + 1 = y.2.2.2.2 + 1; rfl⟩
  · have ha := yBeats_c hlv hmo hck hed hb un tl wet h nb.toNat (by omega)
    dsimp only
    generalize yBeats lv mo ck ed bs bc by_ un tl wet nb.toNat y = a at ha ⊢
    generalize yBeats lv' mo' ck' ed' bs' bc' by_' un tl wet nb.toNat y' = a' at ha ⊢
    have hbb : YR np nc (if so = 0 then (a.1, a.2.1, a.2.2.1, qOut lv (ov a.1) wet a.2.2.2.2 np np.toNat a.2.2.2.1, a.2.2.2.2) else a) (if so = 0 then (a'.1, a'.2.1, a'.2.2.1, qOut lv' (ov' a'.1) wet a'.2.2.2.2 np np.toNat a'.2.2.2.1, a'.2.2.2.2) else a') := by
      split
      · refine ⟨ha.1, ha.2.1, ?_, ha.2.2.2⟩
        show qOut lv (ov a.1) wet a.2.2.2.2 np np.toNat a.2.2.2.1 = qOut lv' (ov' a'.1) wet a'.2.2.2.2 np np.toNat a'.2.2.2.1
        rw [ha.2.2.1, ha.2.2.2]
        exact qOut_c hlv (hov a.1 a'.1 ha.1) wet _ _ _ (by omega)
      · exact ha
    have hc := yGrow_c hlv hmo wet hbb nc.toNat (by omega)
    exact ⟨hc.1, hc.2.1, hc.2.2.1, by show _ + 1 = _ + 1; rw [hc.2.2.2]⟩
end YC
/-- the same of the overlap -/
theorem gOv_c {rw rw' cl cl' f f' : Int → Int} {np : Int} (h1 : ∀ p, 0 ≤ p → p < np → rw p = rw' p ∧ cl p = cl' p) (hf : ∀ i, 0 ≤ i → i < 4 * np → f i = f' i) {p q : Int} (p0 : 0 ≤ p) (p1 : p < np) (q0 : 0 ≤ q) (q1 : q < np) : gOv rw cl f p q = gOv rw' cl' f' p q := by
  unfold gOv gCR gCC gTop gBot gLft gRgt
  rw [(h1 p p0 p1).1, (h1 p p0 p1).2, (h1 q q0 q1).1, (h1 q q0 q1).2, hf (4 * p) (by omega) (by omega), hf (4 * p + 1) (by omega) (by omega), hf (4 * p + 2) (by omega) (by omega), hf (4 * p + 3) (by omega) (by omega), hf (4 * q) (by omega) (by omega), hf (4 * q + 1) (by omega) (by omega), hf (4 * q + 2) (by omega) (by omega), hf (4 * q + 3) (by omega) (by omega)]
theorem gHold_c {rw rw' cl cl' f f' : Int → Int} {p : Int} (h1 : rw p = rw' p ∧ cl p = cl' p) (hf : ∀ i, 4 * p ≤ i → i < 4 * p + 4 → f i = f' i) (r c : Int) : gHold rw cl f p r c = gHold rw' cl' f' p r c := by
  unfold gHold gTop gBot gLft gRgt
  rw [h1.1, h1.2, hf (4 * p) (by omega) (by omega), hf (4 * p + 1) (by omega) (by omega), hf (4 * p + 2) (by omega) (by omega), hf (4 * p + 3) (by omega) (by omega)]
theorem gArea_c {rw rw' cl cl' f f' : Int → Int} {p : Int} (h1 : rw p = rw' p ∧ cl p = cl' p) (hf : ∀ i, 4 * p ≤ i → i < 4 * p + 4 → f i = f' i) : gArea rw cl f p = gArea rw' cl' f' p := by
  unfold gArea gTop gBot gLft gRgt
  rw [h1.1, h1.2, hf (4 * p) (by omega) (by omega), hf (4 * p + 1) (by omega) (by omega), hf (4 * p + 2) (by omega) (by omega), hf (4 * p + 3) (by omega) (by omega)]
