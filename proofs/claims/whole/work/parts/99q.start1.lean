/-! ===== what stands at the start ===== -/
theorem fn_L_8 : FN RL 8 11 13 [.null, .int (iZ 0), .null, .null, .null, .null, .null, .int (iZ 0), .null, .null, .null, .null, .null] := ⟨RX11, TX11, tyX11, rfl, wq_X11, tyX11_ok, (lwk lk_1 27 rfl rfl), (lwk lk_1 28 rfl rfl), (lwk lk_1 1 rfl rfl), fun j hj => by
  match j, hj with
  | 0, _ => rfl
  | 1, _ => rfl
  | 2, _ => rfl
  | 3, _ => rfl
  | 4, _ => rfl
  | 5, _ => rfl
  | 6, _ => rfl
  | 7, _ => rfl
  | 8, _ => rfl
  | 9, _ => rfl
  | 10, _ => rfl
  | 11, _ => rfl
  | 12, _ => rfl
  | _ + 13, h => exact absurd h (by omega)⟩
theorem fn_L_18 : FN RL 18 12 63 [.int (iZ 0), .null, .int (iZ 0), .null, .null, .null, .null, .null, .null, .null, .null, .null, .null, .null, .null, .null, .null, .null, .null, .int (iZ 0), .int (iZ 0), .int (iZ 0), .int (iZ 0), .int (iZ 0), .int (iZ 0), .int (iZ 0), .int (iZ 0), .int (iZ 0), .int (iZ 0), .int (iZ 0), .int (iZ 0), .int (iZ 0), .null, .null, .int (iZ 0), .null, .null, .null, .null, .null, .null, .null, .int (iZ 0), .int (iZ 0), .int (iZ 0), .int (iZ 0), .null, .null, .int (iZ 0), .int (iZ 0), .int (iZ 0), .int (iZ 0), .null, .int (iZ 0), .int (iZ 0), .null, .null, .null, .null, .null, .null, .null, .null] := ⟨RX12, TX12, tyX12, rfl, wq_X12, tyX12_ok, (lwk lk_6 142 rfl rfl), (lwk lk_6 143 rfl rfl), (lwk lk_1 17 rfl rfl), fun j hj => by
  match j, hj with
  | 0, _ => rfl
  | 1, _ => rfl
  | 2, _ => rfl
  | 3, _ => rfl
  | 4, _ => rfl
  | 5, _ => rfl
  | 6, _ => rfl
  | 7, _ => rfl
  | 8, _ => rfl
  | 9, _ => rfl
  | 10, _ => rfl
  | 11, _ => rfl
  | 12, _ => rfl
  | 13, _ => rfl
  | 14, _ => rfl
  | 15, _ => rfl
  | 16, _ => rfl
  | 17, _ => rfl
  | 18, _ => rfl
  | 19, _ => rfl
  | 20, _ => rfl
  | 21, _ => rfl
  | 22, _ => rfl
  | 23, _ => rfl
  | 24, _ => rfl
  | 25, _ => rfl
  | 26, _ => rfl
  | 27, _ => rfl
  | 28, _ => rfl
  | 29, _ => rfl
  | 30, _ => rfl
  | 31, _ => rfl
  | 32, _ => rfl
  | 33, _ => rfl
  | 34, _ => rfl
  | 35, _ => rfl
  | 36, _ => rfl
  | 37, _ => rfl
  | 38, _ => rfl
  | 39, _ => rfl
  | 40, _ => rfl
  | 41, _ => rfl
  | 42, _ => rfl
  | 43, _ => rfl
  | 44, _ => rfl
  | 45, _ => rfl
  | 46, _ => rfl
  | 47, _ => rfl
  | 48, _ => rfl
  | 49, _ => rfl
  | 50, _ => rfl
  | 51, _ => rfl
  | 52, _ => rfl
  | 53, _ => rfl
  | 54, _ => rfl
  | 55, _ => rfl
  | 56, _ => rfl
  | 57, _ => rfl
  | 58, _ => rfl
  | 59, _ => rfl
  | 60, _ => rfl
  | 61, _ => rfl
  | 62, _ => rfl
  | _ + 63, h => exact absurd h (by omega)⟩
theorem im_X11 : Cond.instanceMethod yX11_init ∈ lw_good := (lwk lk_1 30 rfl rfl)
theorem im_X12 : Cond.instanceMethod yX12_init ∈ lw_good := (lwk lk_6 145 rfl rfl)
def bsS : List Nat := [213, 103, 39, 174, 194]
def gFl : List Cond := flatC (Jvm.Cond.and given_1 narrow_1)
def tmS (i : Nat) : Term := .string (strT.getD i ("", 0, "")).1 (strT.getD i ("", 0, "")).2.1
theorem gf {args : Array Value} {s : State} (h : ∀ c ∈ gFl, c.before args s = true) (i : Nat) {w : Cond} (e : gFl[i]? = some w) : w.before args s = true := h w (List.mem_of_getElem? e)
set_option maxRecDepth 100000 in
theorem sg_ex : ∀ i, i < 5 → gFl[bsS.getD i 0]? = some (Cond.exactly (tmS i) "java/lang/String") := by decide +kernel
set_option maxRecDepth 100000 in
theorem sg_co : ∀ i, i < 5 → gFl[bsS.getD i 0 + 1]? = some (Cond.eq (.field (tmS i) "java/lang/String" "coder" "B") (.int 0)) := by decide +kernel
set_option maxRecDepth 100000 in
theorem sg_ar : ∀ i, i < 5 → gFl[bsS.getD i 0 + 2]? = some (Cond.arrayOf (.field (tmS i) "java/lang/String" "value" "[B") .byte) := by decide +kernel
set_option maxRecDepth 100000 in
theorem sg_le : ∀ i, i < 5 → gFl[bsS.getD i 0 + 3]? = some (Cond.eq (.length (.field (tmS i) "java/lang/String" "value" "[B")) (.int (Int32.ofNat (strL.getD i 0)))) := by decide +kernel
set_option maxRecDepth 100000 in
theorem sg_el : ∀ i, i < 5 → ∀ j, j < strL.getD i 0 → gFl[bsS.getD i 0 + 4 + j]? = some (Cond.eq (.elem (.field (tmS i) "java/lang/String" "value" "[B") (.int (Int32.ofNat j))) (.int ((strB.getD i []).getD j 0))) := by decide +kernel
def neS : List (List Nat) := [[0, 322, 321, 323, 324], [322, 0, 173, 193, 211], [321, 173, 0, 192, 210], [323, 193, 192, 0, 212], [324, 211, 210, 212, 0]]
set_option maxRecDepth 100000 in
theorem sg_ne : ∀ i, i < 5 → ∀ j, j < 5 → i ≠ j → gFl[(neS.getD i []).getD j 0]? = some (Cond.not (Cond.eq (tmS i) (tmS j))) ∨ gFl[(neS.getD i []).getD j 0]? = some (Cond.not (Cond.eq (tmS j) (tmS i))) := by decide +kernel
set_option maxRecDepth 100000 in
theorem sg_4 : gFl[4]? = some (Cond.eq (.static "java/lang/String" "COMPACT_STRINGS" "Z") (.int 1)) := by decide +kernel
set_option maxRecDepth 100000 in
theorem sg_5 : gFl[5]? = some (Cond.isRef (.static "jdk/internal/util/Preconditions" "SIOOBE_FORMATTER" "Ljava/util/function/BiFunction;")) := by decide +kernel
set_option maxRecDepth 100000 in
theorem sg_9 : gFl[9]? = some (Cond.isRef (.static Bundle.tN "UNASSIGNED_STACK" Bundle.steD)) := by decide +kernel
set_option maxRecDepth 100000 in
theorem sg_10 : gFl[10]? = some (Cond.isRef (.static Bundle.tN "SUPPRESSED_SENTINEL" Bundle.listD)) := by decide +kernel
set_option maxRecDepth 100000 in
theorem sg_24 : gFl[24]? = some (Cond.not (.castable xJ xI)) := by decide +kernel
/-- the texts -/
theorem st_S {args : Array Value} {s : State} (h : ∀ c ∈ gFl, c.before args s = true) : ∃ adK adV : Nat → Nat, vk_S 5 strL strB adK adV (fun q => s.heap.size ≤ q) s s.heap ∧ ∀ i : Nat, i < 5 → (tmS i).eval args s none [] s = some (.ref (adK i)) := by
  refine vk_Sof (tm := tmS) (fun i hi => ?_) (fun i hi => gf h _ (sg_ex i hi)) (fun i hi => gf h _ (sg_co i hi)) (fun i hi => gf h _ (sg_ar i hi)) (fun i hi => gf h _ (sg_le i hi)) (fun i hi j hj => gf h _ (sg_el i hi j hj)) (fun i j hi hj hij => ?_) (fun a ha hq => Nat.lt_irrefl _ (Nat.lt_of_lt_of_le ha hq))
  · match i, hi with
    | 0, _ => exact Nat.le_of_ble_eq_true rfl
    | 1, _ => exact Nat.le_of_ble_eq_true rfl
    | 2, _ => exact Nat.le_of_ble_eq_true rfl
    | 3, _ => exact Nat.le_of_ble_eq_true rfl
    | 4, _ => exact Nat.le_of_ble_eq_true rfl
    | _ + 5, q => exact absurd q (by omega)
  · rcases sg_ne i hi j hj hij with q | q
    · exact Or.inl (gf h _ q)
    · exact Or.inr (gf h _ q)
/-- the classes -/
theorem kn_of {own : String} {idx ci N : Nat} {fs : List Value} {args : Array Value} {s : State} (hf : FN own idx ci N fs) (h7 : ∀ w ∈ lw_good, w.before args s = true) : ∃ x : ClassId × (Nat → Nat), ∀ q : vw_C, vwCl[ci]? = some q → u_Kn s q.1 q.2.1 q.2.2 x.1 x.2 := by
  obtain ⟨C, T, ty0, hci, hin, hty, hcl, hins, hini, hfs⟩ := hf
  obtain ⟨cC, iS, h⟩ := u_known h7 hin (h7 _ hins)
  exact ⟨(cC, iS), fun q hq => by rw [hci] at hq; cases hq; exact h⟩
theorem kn_all {args : Array Value} {s : State} (h7 : ∀ w ∈ lw_good, w.before args s = true) : ∃ D : va_G, ∀ (c : Nat) (q : vw_C), vwCl[c]? = some q → u_Kn s q.1 q.2.1 q.2.2 (D.1 c) (D.2 c) := by
  have h0 : ∀ c : Nat, ∃ x : ClassId × (Nat → Nat), ∀ q : vw_C, vwCl[c]? = some q → u_Kn s q.1 q.2.1 q.2.2 x.1 x.2 := by
    intro c
    match c with
    | 0 => exact kn_of fn_X11_53 h7
    | 1 => exact kn_of fn_X11_67 h7
    | 2 => exact kn_of fn_X11_31 h7
    | 3 => exact kn_of fn_X9_49 h7
    | 4 => exact kn_of fn_X11_76 h7
    | 5 => exact kn_of fn_X11_22 h7
    | 6 => exact kn_of fn_X11_60 h7
    | 7 => exact kn_of fn_X5_20 h7
    | 8 => exact kn_of fn_X5_9 h7
    | 9 => exact kn_of fn_X11_15 h7
    | 10 => exact kn_of fn_X11_46 h7
    | 11 => exact kn_of fn_L_8 h7
    | 12 => exact kn_of fn_L_18 h7
    | c + 13 => exact ⟨(0, fun _ => 0), fun q hq => absurd (List.getElem?_eq_some_iff.mp hq).1 (by show ¬ c + 13 < 13; omega)⟩
  obtain ⟨f, hf⟩ := Classical.axiomOfChoice h0
  exact ⟨(fun c => (f c).1, fun c => (f c).2), hf⟩
/-- the array classes -/
theorem ka_of {ty : FieldType} {args : Array Value} {s : State} (h : (Cond.arrayClass ty).before args s = true) : ∃ cA : ClassId, ArrOfT s cA ty ∧ s.vm.findClass ("[" ++ ty.toString) = some cA := by
  obtain ⟨cA, kA, comp, h1, h2, h3⟩ := Cond.arrayClass_spec h
  exact ⟨cA, fun n z => ⟨fun k h => (by cases h), kA, h2, comp, h3⟩, h1⟩
def cAx (c0 c1 c2 c3 : Nat) (a v : Nat → Nat) : Nat → Nat := fun i => match i with
  | 0 => c0
  | 1 => c1
  | 2 => c2
  | 3 => c3
  | n + 4 => if n % 2 = 0 then a (n / 2) else v (n / 2)
theorem cAx_a {c0 c1 c2 c3 : Nat} {a v : Nat → Nat} (i : Nat) : cAx c0 c1 c2 c3 a v (4 + 2 * i) = a i := by
  rw [Nat.add_comm 4]
  show (if (2 * i) % 2 = 0 then a (2 * i / 2) else v (2 * i / 2)) = a i
  rw [if_pos (by omega), show 2 * i / 2 = i by omega]
theorem cAx_v {c0 c1 c2 c3 : Nat} {a v : Nat → Nat} (i : Nat) : cAx c0 c1 c2 c3 a v (5 + 2 * i) = v i := by
  rw [show 5 + 2 * i = (2 * i + 1) + 4 by omega]
  show (if (2 * i + 1) % 2 = 0 then a ((2 * i + 1) / 2) else v ((2 * i + 1) / 2)) = v i
  rw [if_neg (by omega), show (2 * i + 1) / 2 = i by omega]
/-- all that the walk stands on -/
theorem st_all {b : Nat} {l : Launch} {s : State} (hts : ∀ w ∈ lw_tbl, w.before #[Value.ref b] s = true) (hg : (Jvm.Cond.and given_1 narrow_1).before #[Value.ref b] s = true) : ∃ G : Gx, G.1 = l ∧ G.2.2.2 = s.heap.size ∧ nK G s ∧ xK G s := by
  have hs : ∀ c ∈ gFl, c.before #[Value.ref b] s = true := flat_of_before _ hg
  have h7 := lw_good_all hts
  obtain ⟨D, hD⟩ := kn_all h7
  obtain ⟨c0, a0, f0⟩ := ka_of (h7 _ ac_int)
  obtain ⟨c1, a1, f1⟩ := ka_of (h7 _ ac_long)
  obtain ⟨c2, a2, f2⟩ := ka_of (h7 _ ac_byte)
  obtain ⟨c3, a3, f3⟩ := ka_of (h7 _ ac_boolean)
  obtain ⟨adK, adV, hS, hev⟩ := st_S hs
  have hA : ∀ a : Nat, a < s.heap.size → ¬ s.heap.size ≤ a := fun a ha hq => Nat.lt_irrefl _ (Nat.lt_of_lt_of_le ha hq)
  refine ⟨(l, D, cAx c0 c1 c2 c3 adK adV, s.heap.size), rfl, rfl, ⟨⟨hD, fun k q hk => ?_⟩, ?_, fun i q hi => ?_, ?_, ?_⟩, fun w hw => ?_, ?_, ?_, ?_⟩
  · match k with
    | 0 => cases hk; exact ⟨a0, f0⟩
    | 1 => cases hk; exact ⟨a1, f1⟩
    | 2 => cases hk; exact ⟨a2, f2⟩
    | 3 => cases hk; exact ⟨a3, f3⟩
    | k + 4 => exact absurd (List.getElem?_eq_some_iff.mp hk).1 (by show ¬ k + 4 < 4; omega)
  · have e1 : gSA (l, D, cAx c0 c1 c2 c3 adK adV, s.heap.size) = adK := funext fun i => cAx_a i
    have e2 : gSV (l, D, cAx c0 c1 c2 c3 adK adV, s.heap.size) = adV := funext fun i => cAx_v i
    rw [e1, e2]
    exact hS
  · have e1 : gSA (l, D, cAx c0 c1 c2 c3 adK adV, s.heap.size) i = adK i := cAx_a i
    rw [e1]
    match i with
    | 0 => cases hi; exact vk_R.of (hts _ (lk_7 _ (List.mem_of_getElem? (i := 137) rfl))) (hev 0 (by decide))
    | 1 => cases hi; exact vk_R.of (hts _ (lk_1 _ (List.mem_of_getElem? (i := 190) rfl))) (hev 1 (by decide))
    | 2 => cases hi; exact vk_R.of (hts _ (lk_1 _ (List.mem_of_getElem? (i := 189) rfl))) (hev 2 (by decide))
    | 3 => cases hi; exact vk_R.of (hts _ (lk_6 _ (List.mem_of_getElem? (i := 99) rfl))) (hev 3 (by decide))
    | 4 => cases hi; exact vk_R.of (hts _ (lk_6 _ (List.mem_of_getElem? (i := 134) rfl))) (hev 4 (by decide))
    | i + 5 => exact absurd (List.getElem?_eq_some_iff.mp hi).1 (by show ¬ i + 5 < 5; omega)
  · exact va_Zof (hts _ (lk_1 _ (List.mem_of_getElem? (i := 203) rfl))) (hts _ (lk_1 _ (List.mem_of_getElem? (i := 6) rfl))) (va_eqt (gf hs _ sg_4)) hA
  · exact va_Zqof (hts _ (lk_1 _ (List.mem_of_getElem? (i := 219) rfl))) (hts _ (lk_1 _ (List.mem_of_getElem? (i := 8) rfl))) (gf hs _ sg_5) hA
  · exact xw_move (List.all_eq_true.mp xg w hw) (State.WarmedH.refl s) (hts w (xm w hw))
  · exact va_Nc.of (gf hs _ sg_24)
  · exact vx_Zqof (hts _ (lk_6 _ (List.mem_of_getElem? (i := 86) rfl))) (hts _ (lk_1 _ (List.mem_of_getElem? (i := 21) rfl))) (gf hs _ sg_9) hA
  · exact vx_Zqof (hts _ (lk_6 _ (List.mem_of_getElem? (i := 88) rfl))) (hts _ (lk_1 _ (List.mem_of_getElem? (i := 21) rfl))) (gf hs _ sg_10) hA
