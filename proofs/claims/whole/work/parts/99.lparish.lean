/-! ===== the law's own parish, which catches ===== -/
theorem xq_ofWH {l : Launch} {y : MethodName} {ws ws' : List Cond} {rm : Room} {Pc : Array Value → State → Prop} {Qc : Array Value → State → Outcome → State → Prop} {mc ms : Nat} {free : Addr → Prop} {cc : ByteArray} {maxL : Nat} {ret : Option FieldType} {hh : List (Nat × Nat × Nat × Nat)} (hy : plainName y.cls = true) (hw : ws = Cond.codeWith y cc maxL ret hh :: ws')
    (body : ∀ p e s m args below meth c s₁, BodyLoose p l y (headSpec ws rm) cc maxL ret e s m args below meth c s₁ → c.maxLocals = maxL → Pc args s → W p l e (headSpec ws rm).room s m args below meth c s.heap [] 0 0 (MQ below Qc args s mc ms free) (entryFrame m args maxL)) : Met l y ws rm Pc Qc mc ms free := by
  refine MetFree.of_bodyS (code := cc) (maxLocals := maxL) (ret := ret) hy ?_ ?_
  · intro args s m h hn
    obtain ⟨m9, meth, c, hn9, h1, h2, h3, h4, -, h5, h6, -⟩ := Cond.codeWith_spec (atoms_spec (ws := ws) h _ (by rw [hw]; exact List.mem_cons_self))
    cases hn.symm.trans hn9
    exact ⟨meth, c, h1, h2, h3, h4, h5, h6⟩
  · intro p e s m args below meth c s₁ B hml hP _
    have hh0 : s₁.heap = s.heap := by rw [B.state]; rfl
    obtain ⟨t, a1, o, b1, b2, b3⟩ := body p e s m args below meth c s₁ B hml hP s₁ hh0 (Stand.of_body B)
    exact ⟨t, o, a1, b1, b2, ⟨b3.1, b3.2⟩⟩
def hhP : List (Nat × Nat × Nat × Nat) := [(0, 10, 13, 13), (0, 10, 17, 15)]
def cwP : Cond := .codeWith yL_parish cL_parish 5 (some .int) hhP
theorem cwP_in : cwP ∈ lw_good := (lwk lk_6 52 rfl rfl)
theorem stP_in : Cond.static yL_parish ∈ lw_good := (lwk lk_6 51 rfl rfl)
abbrev mL_parish : Mt := (yL_parish, cL_parish, 5, some .int)
def eP1 : ExceptionTableEntry := { startPc := 0, endPc := 10, handlerPc := 13, catchType := 13 }
def eP2 : ExceptionTableEntry := { startPc := 0, endPc := 10, handlerPc := 17, catchType := 15 }
abbrev fL (G : Gx) : Fq := fun _ s c => xK G s ∧ c.exceptionTable.toList = [eP1, eP2]
theorem k_parish {G : Gx} {R : Room} {Q : Qq} {kc ks : Nat} {L : List (Option Value)} {rest : List Value} {σ : Sg} {n z : Nat} {E : Nat → va_E} {p x : Int} (hlt : G.1.stackTraces = false) (hn : lay.length ≤ n) (hE : fE G σ E) (hT : TI σ) (hI : LI σ 39) (hp : R32 p) (hx : R32 x) (hr : (rest.map fun v => v.category).sum ≤ 8) (hdd : 7 ≤ R.frames) (hlo : 448 ≤ R.locals) (hc : kc + 1 ≤ R.cells) (hs : ks + 6 ≤ R.slots)
    (k0 : (0 ≤ p ∧ p < σ.1 2 2) → (0 ≤ x ∧ x ≤ 7) → ∀ z', K G R mL_parish (fL G) Q (n, E, z') (kc + 1) (ks + 6) 8 L (.int (iZ (paA σ p x)) :: rest))
    (k1 : ¬ (0 ≤ p ∧ p < σ.1 2 2) → ∀ z' a, K G R mL_parish (fL G) Q (n, E, z') (kc + 1) (ks + 6) 13 L [.ref a])
    (k2 : (0 ≤ p ∧ p < σ.1 2 2) → ¬ (0 ≤ x ∧ x ≤ 7) → ∀ z' a, K G R mL_parish (fL G) Q (n, E, z') (kc + 1) (ks + 6) 17 L [.ref a]) : K G R mL_parish (fL G) Q (n, E, z) kc ks 5 L (.int (iZ x) :: .int (iZ p) :: .ref (G.2.2.2 + 0) :: rest) := by
  intro P e s m args below meth c H locs ls h1 h2 h3 h4 h5 h6 h7 h8 h9 h10 h11
  obtain ⟨⟨hini, hcode, hy1, hy2, har, hmx, -⟩, hinst, hsel⟩ := ok_X11_parish
  obtain ⟨hxk, htab⟩ := h5.2.2
  have hgP := nP_gP hn hE h9
  have cb : CallB R s args RL 7 yX11_parish cX11_parish 3 (some .int) (.code yX11_parish cX11_parish 3 (some .int) :: lw_good) (nR 6 1 6) 1 6 2 :=
    callB_of 2 h7 (gi_gd hcode) rfl rfl rfl (h7 _ hini) (h7 _ ml_L_7) ⟨hy1, hy2, har⟩ ⟨hdd, by show 8 + (3 + 11) + 64 * 6 ≤ R.locals; omega⟩
  have hrun := vx_runV (As := [.int (iZ p), .int (iZ x)]) (rest := rest) (b := G.2.2.2 + 0) (C := yX11_parish.cls) (e := e) (below := below) (meth := meth) (locs := locs) (cells := kc) (slots := ks) (g := F0 m 5 ls (.int (iZ x) :: .int (iZ p) :: .ref (G.2.2.2 + 0) :: rest)) (H := H) ⟨h1, h2, h3, h6, h7⟩ (n_X11_parish (z := z) hlt hn hE hT hI hp hx) ⟨cb, h7 _ hinst, h7 _ hsel⟩
    ⟨fun a U g mk qq => by obtain ⟨q0, qP, qK, qX⟩ := qq; exact ⟨q0, qP, nK.same (u := U) (U := U.calling g mk a) rfl rfl qK, xK.same (u := U) (U := U.calling g mk a) rfl rfl qX⟩, va_recv h8.1 hgP (ci := 11) rfl (g_get (k := 0) rfl), fun U hU hW => ⟨rfl, by show nP G (n, E, z) U.heap; rw [hU]; exact h9, nK.call h8 h10 hU hW, hxk.call h10 hU hW⟩⟩ rfl rfl h11.1 rfl (lv_room hr) dL_parish_5 ⟨hc, hs⟩
  intro X hX S
  rcases hrun X hX S with ⟨v, st₀, t, T', Ls, e0, S', hL, e1, e2, ⟨⟨r, ω', hv, ⟨hpp, hxx, hr0, z', rfl⟩, hP'⟩, hz, hkp⟩, go⟩ | ⟨qa, st₀, t, T', Ls, Ec, ce, e0, S', hL, e1, e2, ⟨hpx, ⟨z', hP'⟩, hz, hkp⟩, hce, hcv, hcl, go⟩
  · cases hv
    subst hr0
    rw [e0] at hz hkp
    obtain ⟨t2, a1, b1⟩ := k0 hpp hxx z' P e s m args below meth c T'.heap (locs ++ Ls) ls h1 h2 h3 h4 h5 h6 h7 h8 (by rw [e1]; exact hP')
      ⟨Nat.le_trans h10.1 (by rw [e1]; exact hz), fun a g1 g2 => by rw [e1, hkp a (Nat.lt_of_lt_of_le g1 h10.1) g2]; exact h10.2.1 a g1 g2, fun a ha => (List.mem_append.mp ha).elim (h10.2.2 a) (hL a)⟩ h11 T' rfl S'
    exact ⟨t2, go t2 a1, b1⟩
  · rw [e0] at hz hkp
    have hS' : va_S (nA G) s.heap T'.heap (locs ++ Ls) := ⟨Nat.le_trans h10.1 (by rw [e1]; exact hz), fun a g1 g2 => by rw [e1, hkp a (Nat.lt_of_lt_of_le g1 h10.1) g2]; exact h10.2.1 a g1 g2, fun a ha => (List.mem_append.mp ha).elim (h10.2.2 a) (hL a)⟩
    have hP2 : nP G (n, E, z') T'.heap := by rw [e1]; exact hP'
    rw [← e1] at hce
    have fin : vx_W P G.1 e R s m args below meth c T'.heap (locs ++ Ls) (kc + 1) (ks + 6) (Q below args s) (F0 m 5 ls rest) qa := by
      rcases hpx with ⟨rfl, hnp⟩ | ⟨rfl, hpp, hnx⟩
      · exact vx_catch (own := RL) (name := xI) h6 [] eP1 [eP2] htab (fun z hz => nomatch hz) (by decide) (by decide) (hxk.at (List.mem_append_left _ (by decide +kernel))) (hxk.at (List.mem_append_left _ (by decide +kernel))) hce hcv hcl
          (k1 hnp z' qa P e s m args below meth c T'.heap (locs ++ Ls) ls h1 h2 h3 h4 h5 h6 h7 h8 hP2 hS' h11)
      · exact vx_catch (own := RL) (name := xJ) h6 [eP1] eP2 [] htab (fun z hz => by
          cases List.mem_singleton.mp hz
          exact Or.inr ⟨by decide, xI, hxk.at (List.mem_append_left _ (by decide +kernel)), hxk.2.1⟩) (by decide) (by decide) (hxk.at (List.mem_append_left _ (by decide +kernel))) (hxk.at (List.mem_append_left _ (by decide +kernel))) hce hcv hcl
          (k2 hpp hnx z' qa P e s m args below meth c T'.heap (locs ++ Ls) ls h1 h2 h3 h4 h5 h6 h7 h8 hP2 hS' h11)
    obtain ⟨t2, a1, b1⟩ := fin T' rfl S'
    exact ⟨t2, go.trans a1, b1⟩
def oE (G : Gx) (E : Nat → va_E) (f : Nat → Int64) : Nat → va_E := upE E 120 (.inl (G.2.2.1 1, 1, .inr (.inl f)))
def lpP (G : Gx) (σ : Sg) (p x : Int) (E : Nat → va_E) : Option Value → Wn → Prop := fun r ω' => ∃ (z' : Nat) (f : Nat → Int64), ω' = (121, oE G E f, z') ∧ ((¬ (0 ≤ p ∧ p < σ.1 2 2) ∧ r = some (.int (iZ 1))) ∨ ((0 ≤ p ∧ p < σ.1 2 2) ∧ ¬ (0 ≤ x ∧ x ≤ 7) ∧ r = some (.int (iZ 2))) ∨ ((0 ≤ p ∧ p < σ.1 2 2) ∧ (0 ≤ x ∧ x ≤ 7) ∧ r = some (.int (iZ 0)) ∧ f 0 = lZ ((iZ (paA σ p x)).toInt)))
set_option maxHeartbeats 4000000 in
theorem n_L_parish {G : Gx} {σ : Sg} {z : Nat} {E : Nat → va_E} {f : Nat → Int64} {p x : Int} (hlt : G.1.stackTraces = false) (hE : fE G σ E) (hf : E 120 = .inl (G.2.2.1 1, 1, .inr (.inl f))) (hT : TI σ) (hI : LI σ 39) (hp : R32 p) (hx : R32 x) : Met G.1 yL_parish (cwP :: lw_good) (nR 8 1 6) (va_Pc [.ref (G.2.2.2 + 0), .int (iZ p), .int (iZ x), .ref (G.2.2.2 + 120)] (fun U => nP G (121, E, z) U.heap ∧ nK G U ∧ xK G U)) (nQ G (lpP G σ p x E)) 1 6 (nA G) := by
  refine xq_ofWH (cc := cL_parish) (maxL := 5) (ret := some .int) (hh := hhP) (by decide +kernel) rfl ?_
  intro p' e s m args below meth c s₁ B hml hv
  obtain ⟨rfl, hP, hK, hX⟩ := hv
  have hts := atoms_spec (ws := cwP :: lw_good) B.pre
  have hown : s.vm.findClass yL_parish.cls = some m.cls := findClass_of_methodNamed B.named
  have hnm : meth.name = yL_parish.name := (name_of_methodNamed B.named B.method).1
  have htab : c.exceptionTable.toList = [eP1, eP2] := vx_table (x := yL_parish) B (hts _ List.mem_cons_self)
  rw [lg_entry_eq]
  have hsame : oE G E f = E := upE_self hf
  have key : K G (nR 8 1 6) mL_parish (fL G) (kQ G (lpP G σ p x E) 1 6) (121, E, z) 0 0 0 [some (.ref (G.2.2.2 + 0)), some (.int (iZ p)), some (.int (iZ x)), some (.ref (G.2.2.2 + 120)), none] [] := by
    refine k_aload_n (q := 1) (i := 3) dL_parish_0 rfl rfl rfl ?_
    refine k_iconst (q := 2) dL_parish_1 rfl ?_
    refine k_aload_n (q := 3) (i := 0) dL_parish_2 rfl rfl rfl ?_
    refine k_iload_n (q := 4) (i := 1) dL_parish_3 rfl rfl rfl ?_
    refine k_iload_n (q := 5) (i := 2) dL_parish_4 rfl rfl rfl ?_
    refine k_parish hlt (Nat.le_of_ble_eq_true rfl) hE hT hI hp hx (Nat.le_of_ble_eq_true rfl) (by decide) (by decide) (by decide) (by decide) (fun hpp hxx z' => ?_) (fun hnp z' a => ?_) (fun hpp hnx z' a => ?_)
    · rw [← iZ_of (iZ (paA σ p x))]
      refine k_i2l (q := 9) dL_parish_8 rfl (R32_of _) ?_
      refine k_last (q := 10) (f := f) dL_parish_9 rfl (by decide) hf (by decide) (by decide) (by decide) ?_
      refine k_goto (tgt := 21) dL_parish_10 (by decide) ?_
      refine k_iconst (q := 22) dL_parish_21 rfl ?_
      exact k_ri dL_parish_22 rfl ⟨z', _, rfl, Or.inr (Or.inr ⟨hpp, hxx, rfl, by simp [vp_updL]⟩)⟩
    · refine k_astore (q := 15) (L' := [_, _, _, _, _]) dL_parish_13 rfl (by decide) rfl rfl ?_
      refine k_iconst (q := 16) dL_parish_15 rfl ?_
      exact k_ri dL_parish_16 rfl ⟨z', f, by rw [hsame], Or.inl ⟨hnp, rfl⟩⟩
    · refine k_astore (q := 19) (L' := [_, _, _, _, _]) dL_parish_17 rfl (by decide) rfl rfl ?_
      refine k_iconst (q := 20) dL_parish_19 rfl ?_
      exact k_ri dL_parish_20 rfl ⟨z', f, by rw [hsame], Or.inr (Or.inl ⟨hpp, hnx, rfl⟩)⟩
  exact key p' e s m _ below meth c s.heap [] _ B.exec B.bytes hml B.returns ⟨B.notSynchronized, hnm, hX, htab⟩ hown (fun w hw => hts w (List.mem_cons_of_mem _ hw)) hK hP va_S.rf (hasL_entry [.ref (G.2.2.2 + 0), .int (iZ p), .int (iZ x), .ref (G.2.2.2 + 120)] (Nat.le_of_ble_eq_true rfl) rfl)
