/-! ===== makers ===== -/
theorem FX.mk' {own : String} {idx ci j N : Nat} {ty : FieldType} {b : Bool} {T : u_T} {ty0 : Nat → FieldType} (h1 : vwCl[ci]? = some (own, T, N)) (h2 : j < N) (h3 : ∀ w ∈ u_ws own T N, w ∈ lw_good) (h4 : Cond.fieldLink own idx (T j).1 (T j).2.1 (T j).2.2.1 ∈ lw_good) (h5 : ∀ k, k < N → parseFieldDescriptor (T k).2.2.1 = some (ty0 k)) (h6 : ∀ a, a < N → ∀ b, b < N → a ≠ b → (T a).2.1 ≠ (T b).2.1) (h7 : (T j).2.2.2 = b) (h8 : parseFieldDescriptor (T j).2.2.1 = some ty) (h9 : (T j).1 = own) : FX own idx ci j ty b := ⟨own, T, N, ty0, h1, h2, h3, h4, h5, h6, h7, h8, h9⟩

def sg0f (k : Nat) (i : Int) : Int :=
  if k = 20 then wv i else
  if k = 2 ∧ i = 0 then 20 else
  if k = 2 ∧ i = 5 then -1 else
  if k = 19 ∧ i = 8 then -1 else
  if k = 23 ∧ i = 0 then 20 else
  if k = 23 ∧ i = 5 then -1 else
  if k = 39 ∧ i = 8 then -1 else
  if k = 44 ∧ i = 8 then -1 else
  if k = 49 ∧ i = 8 then -1 else
  if k = 62 ∧ i = 8 then -1 else
  if k = 71 ∧ i = 8 then -1 else
  if k = 82 ∧ i = 29 then -1 else
  if k = 82 ∧ i = 45 then -1 else
  if k = 82 ∧ i = 54 then -1 else
  if k = 84 ∧ i = 0 then 20 else
  if k = 84 ∧ i = 7 then 20 else
  0
def sg0 : Sg := (sg0f, fun _ _ => 0)
def fin (G : Gx) (j : Nat) : va_E := match lay[j]? with
  | some c => ent G.2.2.1 G.2.2.2 sg0 j c
  | none => .inr (0, [])
def mixE (G : Gx) (E : Nat → va_E) (k m : Nat) : Nat → va_E := fun j => if k ≤ j ∧ j ≤ k + m then fin G j else E j
theorem mixE_in {G : Gx} {E : Nat → va_E} {k m j : Nat} (h1 : k ≤ j) (h2 : j ≤ k + m) : mixE G E k m j = fin G j := if_pos ⟨h1, h2⟩
theorem mixE_out {G : Gx} {E : Nat → va_E} {k m j : Nat} (h : ¬ (k ≤ j ∧ j ≤ k + m)) : mixE G E k m j = E j := if_neg h
theorem mixE_out' {G : Gx} {E : Nat → va_E} {k m j : Nat} (h : j < k ∨ k + m < j) : mixE G E k m j = E j := if_neg (by omega)
theorem mix_ext {G : Gx} {E E' : Nat → va_E} {k m : Nat} (h1 : ∀ j, j < k → E' j = E j) (h2 : ∀ j, k + m < j → E' j = E j) (h3 : ∀ i, i ≤ m → E' (k + i) = fin G (k + i)) : E' = mixE G E k m := by
  funext j
  by_cases q : j < k
  · rw [mixE_out' (Or.inl q), h1 j q]
  · by_cases r : k + m < j
    · rw [mixE_out' (Or.inr r), h2 j r]
    · rw [mixE_in (by omega) (by omega)]
      have := h3 (j - k) (by omega)
      rw [show k + (j - k) = j by omega] at this
      exact this
def nM (G : Gx) (E : Nat → va_E) (k m : Nat) : Option Value → Wn → Prop := fun r ω' => r = none ∧ ω' = (k + 1 + m, mixE G E k m, 0)
theorem upE_up {E : Nat → va_E} {k : Nat} {a b : va_E} : upE (upE E k a) k b = upE E k b := by
  funext j; unfold upE; by_cases h : j = k <;> simp [h]
theorem upE_self {E : Nat → va_E} {k : Nat} {a : va_E} (h : E k = a) : upE E k a = E := by
  funext j; unfold upE; by_cases q : j = k
  · rw [if_pos q, q, h]
  · rw [if_neg q]
section KM
variable {G : Gx} {R : Room} {M : Mt} {Fx : Fq} {Q : Qq} {ω : Wn} {kc ks : Nat} {pc q : Nat} {L : List (Option Value)} {st : List Value}
theorem k_newaN {t N n n' kc' ks' : Nat} {nz : Int} {E : Nat → va_E} (hd : decode M.2.1 pc = .ok (.newarray (atC t), 2)) (hq : pc + 2 = q) (ht : t < 4) (hz : ((N : Nat) : Int) = nz) (hN : N ≤ 4000) (hc : kc + 1 ≤ R.cells) (hs : ks + N ≤ R.slots) (e1 : n + 1 = n') (e2 : kc + 1 = kc') (e3 : ks + N = ks') (k : K G R M Fx Q (n', upE E n (.inl (G.2.2.1 t, N, dA t)), 0) kc' ks' q L (.ref (G.2.2.2 + n) :: st)) : K G R M Fx Q (n, E, 0) kc ks pc L (.int (iZ nz) :: st) := by
  subst e1 e2 e3; exact k_newa hd hq ht hz hN hc hs k
theorem k_newN {idx ci N n n' kc' ks' : Nat} {fs : List Value} {E : Nat → va_E} (hd : decode M.2.1 pc = .ok (.new idx, 3)) (hq : pc + 3 = q) (hf : FN M.1.cls idx ci N fs) (hc : kc + 1 ≤ R.cells) (hs : ks + N ≤ R.slots) (e1 : n + 1 = n') (e2 : kc + 1 = kc') (e3 : ks + N = ks') (k : K G R M Fx Q (n', upE E n (.inr (ci, fs)), 0) kc' ks' q L (.ref (G.2.2.2 + n) :: st)) : K G R M Fx Q (n, E, 0) kc ks pc L st := by
  subst e1 e2 e3; exact k_new hd hq hf hc hs k
theorem k_callN {M' : Mt} {n idx d' mc' ms' b kc' ks' n0 : Nat} {E : Nat → va_E} {vs rest : List Value} (ok : OkM M' n) (hi : M'.1.name = "<init>") (hM : M'.2.2.2 = none) (hin : Cond.instanceMethod M'.1 ∈ lw_good) (hl : Cond.methodLink M.1.cls idx M'.1 ∈ lw_good) (hd : decode M.2.1 pc = .ok (.invokespecial idx, 3)) (hq : pc + 3 = q) (hn : vs.length = n) (hst : st = vs.reverse ++ .ref (G.2.2.2 + b) :: rest) (hr : (rest.map fun v => v.category).sum ≤ 8) (hdd : d' + 1 ≤ R.frames) (hlo : 64 * d' + 64 ≤ R.locals) (hc : kc + mc' ≤ R.cells) (hs : ks + ms' ≤ R.slots)
    (con : CKn G d' mc' ms' M' (.ref (G.2.2.2 + b) :: vs) (n0, E, 0) (nM G E b mc')) (e2 : kc + mc' = kc') (e3 : ks + ms' = ks') (k : K G R M Fx Q (b + 1 + mc', mixE G E b mc', 0) kc' ks' q L rest) : K G R M Fx Q (n0, E, 0) kc ks pc L st := by
  subst e2 e3
  exact k_callI ok hi hM hin hl hd hq hn hst hr hdd hlo hc hs con (fun r ω' h => by obtain ⟨rfl, rfl⟩ := h; exact k)
theorem k_entryF {d mc ms : Nat} {Post : Option Value → Wn → Prop} {n : Nat} {vs : List Value} (ok : OkM M n) (hlen : (lg_sl vs).length ≤ M.2.2.1) (hL : (lg_sl vs ++ List.replicate (M.2.2.1 - (lg_sl vs).length) Slot.unset).map sv = L) (k : K G (nR d mc ms) M (fun _ s _ => s.heap.size = G.2.2.2 + ω.1 + ω.2.2) (kQ G Post mc ms) ω 0 0 0 L []) : CKn G d mc ms M vs ω Post := by
  refine Met.ofW (cc := M.2.1) (maxL := M.2.2.1) (ret := M.2.2.2) ok.2.2.2.2.2.2 rfl ?_
  intro p e s m args below meth c s₁ B hml hv
  obtain ⟨rfl, hP, hK⟩ := hv
  have hts := atoms_spec (ws := .code M.1 M.2.1 M.2.2.1 M.2.2.2 :: lw_good) B.pre
  have hown : s.vm.findClass M.1.cls = some m.cls := findClass_of_methodNamed B.named
  have hnm : meth.name = M.1.name := (name_of_methodNamed B.named B.method).1
  rw [lg_entry_eq]
  exact k p e s m _ below meth c s.heap [] _ B.exec B.bytes hml B.returns ⟨B.notSynchronized, hnm, hP.2⟩ hown (fun w hw => hts w (List.mem_cons_of_mem _ hw)) hK hP va_S.rf (hasL_entry vs hlen hL)
theorem k_callV0 {M' : Mt} {n idx d' ci b n' z : Nat} {fl : List Nat} {vs rest : List Value} {σ : Sg} {E : Nat → va_E} {Po : Option Value → Sg → Prop} (ok : OkV M' n) (hl : Cond.methodLink M.1.cls idx M'.1 ∈ lw_good) (hd : decode M.2.1 pc = .ok (.invokevirtual idx, 3)) (hq : pc + 3 = q) (hC : ∃ (T : u_T) (N : Nat), vwCl[ci]? = some (M'.1.cls, T, N)) (hk : lay[b]? = some (.inr (ci, fl))) (hn : vs.length = n) (hst : st = vs.reverse ++ .ref (G.2.2.2 + b) :: rest) (hr : (rest.map fun v => v.category).sum ≤ 8) (hdd : d' + 1 ≤ R.frames) (hlo : 64 * d' + 64 ≤ R.locals) (hc : kc ≤ R.cells) (hs : ks ≤ R.slots) (hn' : lay.length ≤ n') (hE : fE G σ E) (hF : ∀ args s c, Fx args s c → s.heap.size + kc = G.2.2.2 + n' + z)
    (con : Con G d' M' (.ref (G.2.2.2 + b) :: vs) σ Po) (k : ∀ (r : Option Value) (σ' : Sg), Po r σ' → K G R M Fx Q (n', fW G σ' E, z) kc ks q L (r.toList ++ rest)) : K G R M Fx Q (n', E, z) kc ks pc L st := by
  intro p e s m args below meth c H locs ls h1 h2 h3 h4 h5 h6 h7 h8 h9 h10 h11
  subst hq
  obtain ⟨⟨hini, hcode, hy1, hy2, har, hmx, -⟩, hinst, hsel⟩ := ok
  obtain ⟨T, N, hcc⟩ := hC
  have hgP := nP_gP hn' hE h9
  have cb : CallB R s args M.1.cls idx M'.1 M'.2.1 M'.2.2.1 M'.2.2.2 (.code M'.1 M'.2.1 M'.2.2.1 M'.2.2.2 :: lw_good) (gR d') 0 0 n :=
    callB_of n h7 (gi_gd hcode) rfl rfl rfl (h7 _ hini) (h7 _ hl) ⟨hy1, hy2, har⟩ ⟨hdd, by show 8 + (M'.2.2.1 + 11) + 64 * d' ≤ R.locals; omega⟩
  have hrun := va_runV (As := vs) (rest := rest) (b := G.2.2.2 + b) (C := M'.1.cls) (e := e) (below := below) (meth := meth) (locs := locs) (cells := kc) (slots := ks) (g := F0 m pc ls st) (H := H) ⟨h1, h2, h3, h6, h7⟩ con ⟨cb, h7 _ hinst, h7 _ hsel⟩
    ⟨fun a U g mk qq => by obtain ⟨q0, qP, qK⟩ := qq; exact ⟨q0, qP, gK.same (u := U) (U := U.calling g mk a) rfl rfl qK⟩, va_recv h8.1 hgP hcc (g_get hk), fun U hU hW => ⟨rfl, by show gP G σ U.heap; rw [hU]; exact hgP, (nK.call h8 h10 hU hW).g⟩⟩ rfl hn h11.1 hst (lv_room hr) hd ⟨hc, hs⟩
  intro X hX S
  obtain ⟨v, st₀, t, T', Ls, e0, S', hL, e1, e2, ⟨⟨r, σ', hv, hpo, hP'⟩, hz, hkp⟩, go⟩ := hrun X hX S
  cases hv
  rw [e0] at hz hkp
  rw [← e1] at hP' hz hkp
  have hnz : H.size = G.2.2.2 + n' + z := h9.2
  have hup : T'.heap.size ≤ s.heap.size + (kc + 0) := S'.same.2.2.1
  have hff := hF args s c h5.2.2
  obtain ⟨t2, a1, b1⟩ := k v σ' hpo p e s m args below meth c T'.heap (locs ++ Ls) ls h1 h2 h3 h4 h5 h6 h7 h8 (gP_nP hn' h9 hP' hkp (by omega))
    ⟨Nat.le_trans h10.1 hz, fun a g1 g2 => by rw [hkp a (Nat.lt_of_lt_of_le g1 h10.1) (fun w => g2 (gA_nA a w))]; exact h10.2.1 a g1 g2, fun a ha => by
      rcases List.mem_append.mp ha with h | h
      · exact h10.2.2 a h
      · exact gA_nA _ (hL a h)⟩ h11 T' rfl S'
  exact ⟨t2, go t2 a1, b1⟩
end KM
/-- the words of the class -/
def wE (t : Nat) : Nat → Int32 := fun i => if i < t then iZ (wv i) else iZ 0
theorem wE_up {t : Nat} : upd (wE t) t (iZ (wv t)) = wE (t + 1) := by
  funext i
  unfold upd wE
  by_cases h : i = t
  · subst h; simp
  · have : (i < t + 1) = (i < t) := by simp; omega
    simp [h, this]
theorem wE_0 : wE 0 = fun _ => iZ 0 := by funext i; simp [wE]
theorem wE_21 : wE 21 = fun i : Nat => iZ (wv i) := by
  funext i
  unfold wE
  split
  · rfl
  · rename_i h
    have : wv (i : Int) = 0 := by
      unfold wv
      rw [show ((i : Int)).toNat = i by omega, List.getD_eq_getElem?_getD, List.getElem?_eq_none (by show 21 ≤ i; omega)]
      rfl
    rw [this]

theorem oi_X11 : Cond.methodLink RX11 3 Lib.objectInit ∈ lw_good := (lwk lk_1 32 rfl rfl)
theorem fx_X11_11 : FX RX11 11 11 0 (.array .byte) true := FX.mk' (N := 13) (T := TX11) (ty0 := tyX11) rfl (by decide) wq_X11 fl_X11_11 tyX11_ok nmX11 rfl (by decide +kernel) rfl
theorem fn_X11_15 : FN RX11 15 9 19 [.int (iZ 0), .int (iZ 0), .int (iZ 0), .int (iZ 0), .int (iZ 0), .int (iZ 0), .int (iZ 0), .int (iZ 0), .null, .null, .null, .null, .null, .null, .null, .null, .null, .null, .null] := ⟨RX9, TX9, tyX9, rfl, wq_X9, tyX9_ok, (lwk lk_1 35 rfl rfl), (lwk lk_1 36 rfl rfl), (lwk lk_1 2 rfl rfl), fun j hj => by
  match j, hj with
  | 0, _ => rfl
  | 1, _ => rfl
  | 2, _ => rfl
  | 3, _ => rfl
  | 4, _ => rfl
  | 5, _ => rfl
  | 6, _ => rfl
  | 7, _ => rfl
  | 8, _ => rfl
  | 9, _ => rfl
  | 10, _ => rfl
  | 11, _ => rfl
  | 12, _ => rfl
  | 13, _ => rfl
  | 14, _ => rfl
  | 15, _ => rfl
  | 16, _ => rfl
  | 17, _ => rfl
  | 18, _ => rfl
  | _ + 19, h => exact absurd h (by omega)⟩
theorem oi_X9 : Cond.methodLink RX9 3 Lib.objectInit ∈ lw_good := (lwk lk_1 40 rfl rfl)
theorem fx_X9_9 : FX RX9 9 9 0 .int false := FX.mk' (N := 19) (T := TX9) (ty0 := tyX9) rfl (by decide) wq_X9 fl_X9_9 tyX9_ok nmX9 rfl (by decide +kernel) rfl
theorem fx_X9_15 : FX RX9 15 9 5 .int false := FX.mk' (N := 19) (T := TX9) (ty0 := tyX9) rfl (by decide) wq_X9 fl_X9_15 tyX9_ok nmX9 rfl (by decide +kernel) rfl
theorem fx_X9_18 : FX RX9 18 9 8 (.array .int) true := FX.mk' (N := 19) (T := TX9) (ty0 := tyX9) rfl (by decide) wq_X9 fl_X9_18 tyX9_ok nmX9 rfl (by decide +kernel) rfl
theorem fx_X9_22 : FX RX9 22 9 9 (.array .int) true := FX.mk' (N := 19) (T := TX9) (ty0 := tyX9) rfl (by decide) wq_X9 fl_X9_22 tyX9_ok nmX9 rfl (by decide +kernel) rfl
theorem fx_X9_25 : FX RX9 25 9 10 (.array .int) true := FX.mk' (N := 19) (T := TX9) (ty0 := tyX9) rfl (by decide) wq_X9 fl_X9_25 tyX9_ok nmX9 rfl (by decide +kernel) rfl
theorem fx_X9_28 : FX RX9 28 9 11 (.array .int) true := FX.mk' (N := 19) (T := TX9) (ty0 := tyX9) rfl (by decide) wq_X9 fl_X9_28 tyX9_ok nmX9 rfl (by decide +kernel) rfl
theorem fx_X9_31 : FX RX9 31 9 12 (.array .int) true := FX.mk' (N := 19) (T := TX9) (ty0 := tyX9) rfl (by decide) wq_X9 fl_X9_31 tyX9_ok nmX9 rfl (by decide +kernel) rfl
theorem fx_X9_34 : FX RX9 34 9 13 (.array .int) true := FX.mk' (N := 19) (T := TX9) (ty0 := tyX9) rfl (by decide) wq_X9 fl_X9_34 tyX9_ok nmX9 rfl (by decide +kernel) rfl
theorem fx_X9_37 : FX RX9 37 9 14 (.array .int) true := FX.mk' (N := 19) (T := TX9) (ty0 := tyX9) rfl (by decide) wq_X9 fl_X9_37 tyX9_ok nmX9 rfl (by decide +kernel) rfl
theorem fx_X9_40 : FX RX9 40 9 15 (.array .int) true := FX.mk' (N := 19) (T := TX9) (ty0 := tyX9) rfl (by decide) wq_X9 fl_X9_40 tyX9_ok nmX9 rfl (by decide +kernel) rfl
theorem fx_X9_43 : FX RX9 43 9 16 (.array .int) true := FX.mk' (N := 19) (T := TX9) (ty0 := tyX9) rfl (by decide) wq_X9 fl_X9_43 tyX9_ok nmX9 rfl (by decide +kernel) rfl
theorem fx_X9_46 : FX RX9 46 9 17 (.array .int) true := FX.mk' (N := 19) (T := TX9) (ty0 := tyX9) rfl (by decide) wq_X9 fl_X9_46 tyX9_ok nmX9 rfl (by decide +kernel) rfl
theorem fn_X9_49 : FN RX9 49 3 5 [.null, .null, .null, .null, .int (iZ 0)] := ⟨RX3, TX3, tyX3, rfl, wq_X3, tyX3_ok, (lwk lk_1 41 rfl rfl), (lwk lk_1 42 rfl rfl), (lwk lk_1 3 rfl rfl), fun j hj => by
  match j, hj with
  | 0, _ => rfl
  | 1, _ => rfl
  | 2, _ => rfl
  | 3, _ => rfl
  | 4, _ => rfl
  | _ + 5, h => exact absurd h (by omega)⟩
theorem oi_X3 : Cond.methodLink RX3 3 Lib.objectInit ∈ lw_good := (lwk lk_1 46 rfl rfl)
theorem fx_X3_11 : FX RX3 11 3 0 (.array .int) true := FX.mk' (N := 5) (T := TX3) (ty0 := tyX3) rfl (by decide) wq_X3 fl_X3_11 tyX3_ok nmX3 rfl (by decide +kernel) rfl
theorem fx_X3_15 : FX RX3 15 3 1 (.array .int) true := FX.mk' (N := 5) (T := TX3) (ty0 := tyX3) rfl (by decide) wq_X3 fl_X3_15 tyX3_ok nmX3 rfl (by decide +kernel) rfl
theorem fx_X3_18 : FX RX3 18 3 2 (.array .int) true := FX.mk' (N := 5) (T := TX3) (ty0 := tyX3) rfl (by decide) wq_X3 fl_X3_18 tyX3_ok nmX3 rfl (by decide +kernel) rfl
theorem fx_X3_21 : FX RX3 21 3 3 (.array .long) true := FX.mk' (N := 5) (T := TX3) (ty0 := tyX3) rfl (by decide) wq_X3 fl_X3_21 tyX3_ok nmX3 rfl (by decide +kernel) rfl
theorem im_X3 : Cond.instanceMethod yX3_init ∈ lw_good := (lwk lk_1 44 rfl rfl)
theorem fx_X9_52 : FX RX9 52 9 18 (.object "BeatenBounds$Laws") true := FX.mk' (N := 19) (T := TX9) (ty0 := tyX9) rfl (by decide) wq_X9 fl_X9_52 tyX9_ok nmX9 rfl (by decide +kernel) rfl
theorem im_X9 : Cond.instanceMethod yX9_init ∈ lw_good := (lwk lk_1 38 rfl rfl)
theorem fx_X11_18 : FX RX11 18 11 2 (.object "BeatenBounds$Told") true := FX.mk' (N := 13) (T := TX11) (ty0 := tyX11) rfl (by decide) wq_X11 fl_X11_18 tyX11_ok nmX11 rfl (by decide +kernel) rfl
theorem fn_X11_22 : FN RX11 22 5 5 [.null, .null, .null, .int (iZ 0), .int (iZ 0)] := ⟨RX5, TX5, tyX5, rfl, wq_X5, tyX5_ok, (lwk lk_1 177 rfl rfl), (lwk lk_1 178 rfl rfl), (lwk lk_1 4 rfl rfl), fun j hj => by
  match j, hj with
  | 0, _ => rfl
  | 1, _ => rfl
  | 2, _ => rfl
  | 3, _ => rfl
  | 4, _ => rfl
  | _ + 5, h => exact absurd h (by omega)⟩
theorem oi_X5 : Cond.methodLink RX5 3 Lib.objectInit ∈ lw_good := (lwk lk_1 182 rfl rfl)
theorem fn_X5_9 : FN RX5 9 8 9 [.null, .null, .int (iZ 0), .int (iZ 0), .int (iZ 0), .int (iZ 0), .int (iZ 0), .int (iZ 0), .int (iZ 0)] := ⟨RX8, TX8, tyX8, rfl, wq_X8, tyX8_ok, (lwk lk_1 183 rfl rfl), (lwk lk_1 184 rfl rfl), (lwk lk_1 5 rfl rfl), fun j hj => by
  match j, hj with
  | 0, _ => rfl
  | 1, _ => rfl
  | 2, _ => rfl
  | 3, _ => rfl
  | 4, _ => rfl
  | 5, _ => rfl
  | 6, _ => rfl
  | 7, _ => rfl
  | 8, _ => rfl
  | _ + 9, h => exact absurd h (by omega)⟩
theorem oi_X8 : Cond.methodLink RX8 5 Lib.objectInit ∈ lw_good := (lwk lk_1 188 rfl rfl)
theorem fx_X8_11 : FX RX8 11 8 0 (.array .byte) true := FX.mk' (N := 9) (T := TX8) (ty0 := tyX8) rfl (by decide) wq_X8 fl_X8_11 tyX8_ok nmX8 rfl (by decide +kernel) rfl
theorem fx_X8_15 : FX RX8 15 8 1 (.array .int) true := FX.mk' (N := 9) (T := TX8) (ty0 := tyX8) rfl (by decide) wq_X8 fl_X8_15 tyX8_ok nmX8 rfl (by decide +kernel) rfl
theorem fx_X8_27 : FX RX8 27 8 8 .int false := FX.mk' (N := 9) (T := TX8) (ty0 := tyX8) rfl (by decide) wq_X8 fl_X8_27 tyX8_ok nmX8 rfl (by decide +kernel) rfl
theorem im_X8 : Cond.instanceMethod yX8_init ∈ lw_good := (lwk lk_1 186 rfl rfl)
theorem fx_X5_14 : FX RX5 14 5 0 (.object "BeatenBounds$Tokens") true := FX.mk' (N := 5) (T := TX5) (ty0 := tyX5) rfl (by decide) wq_X5 fl_X5_14 tyX5_ok nmX5 rfl (by decide +kernel) rfl
theorem fn_X5_20 : FN RX5 20 7 5 [.null, .null, .int (iZ 0), .int (iZ 0), .int (iZ 0)] := ⟨RX7, TX7, tyX7, rfl, wq_X7, tyX7_ok, (lwk lk_2 40 rfl rfl), (lwk lk_2 41 rfl rfl), (lwk lk_1 10 rfl rfl), fun j hj => by
  match j, hj with
  | 0, _ => rfl
  | 1, _ => rfl
  | 2, _ => rfl
  | 3, _ => rfl
  | 4, _ => rfl
  | _ + 5, h => exact absurd h (by omega)⟩
theorem oi_X7 : Cond.methodLink RX7 3 Lib.objectInit ∈ lw_good := (lwk lk_2 45 rfl rfl)
theorem fx_X7_9 : FX RX7 9 7 0 (.object "BeatenBounds$Tokens") true := FX.mk' (N := 5) (T := TX7) (ty0 := tyX7) rfl (by decide) wq_X7 fl_X7_9 tyX7_ok nmX7 rfl (by decide +kernel) rfl
theorem fx_X7_17 : FX RX7 17 7 1 (.array .int) true := FX.mk' (N := 5) (T := TX7) (ty0 := tyX7) rfl (by decide) wq_X7 fl_X7_17 tyX7_ok nmX7 rfl (by decide +kernel) rfl
theorem im_X7 : Cond.instanceMethod yX7_init ∈ lw_good := (lwk lk_2 43 rfl rfl)
theorem fx_X5_25 : FX RX5 25 5 1 (.object "BeatenBounds$Sums") true := FX.mk' (N := 5) (T := TX5) (ty0 := tyX5) rfl (by decide) wq_X5 fl_X5_25 tyX5_ok nmX5 rfl (by decide +kernel) rfl
theorem fn_X5_29 : FN RX5 29 9 19 [.int (iZ 0), .int (iZ 0), .int (iZ 0), .int (iZ 0), .int (iZ 0), .int (iZ 0), .int (iZ 0), .int (iZ 0), .null, .null, .null, .null, .null, .null, .null, .null, .null, .null, .null] := ⟨RX9, TX9, tyX9, rfl, wq_X9, tyX9_ok, (lwk lk_2 62 rfl rfl), (lwk lk_1 36 rfl rfl), (lwk lk_1 2 rfl rfl), fun j hj => by
  match j, hj with
  | 0, _ => rfl
  | 1, _ => rfl
  | 2, _ => rfl
  | 3, _ => rfl
  | 4, _ => rfl
  | 5, _ => rfl
  | 6, _ => rfl
  | 7, _ => rfl
  | 8, _ => rfl
  | 9, _ => rfl
  | 10, _ => rfl
  | 11, _ => rfl
  | 12, _ => rfl
  | 13, _ => rfl
  | 14, _ => rfl
  | 15, _ => rfl
  | 16, _ => rfl
  | 17, _ => rfl
  | 18, _ => rfl
  | _ + 19, h => exact absurd h (by omega)⟩
theorem fx_X5_32 : FX RX5 32 5 2 (.object "BeatenBounds$Told") true := FX.mk' (N := 5) (T := TX5) (ty0 := tyX5) rfl (by decide) wq_X5 fl_X5_32 tyX5_ok nmX5 rfl (by decide +kernel) rfl
theorem im_X5 : Cond.instanceMethod yX5_init ∈ lw_good := (lwk lk_1 180 rfl rfl)
theorem fx_X11_27 : FX RX11 27 11 3 (.object "BeatenBounds$Reader") true := FX.mk' (N := 13) (T := TX11) (ty0 := tyX11) rfl (by decide) wq_X11 fl_X11_27 tyX11_ok nmX11 rfl (by decide +kernel) rfl
theorem fn_X11_31 : FN RX11 31 2 11 [.null, .null, .null, .null, .null, .int (iZ 0), .int (iZ 0), .long (lZ 0), .int (iZ 0), .int (iZ 0), .int (iZ 0)] := ⟨RX2, TX2, tyX2, rfl, wq_X2, tyX2_ok, (lwk lk_2 82 rfl rfl), (lwk lk_2 83 rfl rfl), (lwk lk_1 11 rfl rfl), fun j hj => by
  match j, hj with
  | 0, _ => rfl
  | 1, _ => rfl
  | 2, _ => rfl
  | 3, _ => rfl
  | 4, _ => rfl
  | 5, _ => rfl
  | 6, _ => rfl
  | 7, _ => rfl
  | 8, _ => rfl
  | 9, _ => rfl
  | 10, _ => rfl
  | _ + 11, h => exact absurd h (by omega)⟩
theorem oi_X2 : Cond.methodLink RX2 3 Lib.objectInit ∈ lw_good := (lwk lk_2 87 rfl rfl)
theorem fx_X2_9 : FX RX2 9 2 0 (.object "BeatenBounds$Told") true := FX.mk' (N := 11) (T := TX2) (ty0 := tyX2) rfl (by decide) wq_X2 fl_X2_9 tyX2_ok nmX2 rfl (by decide +kernel) rfl
theorem fx_X2_15 : FX RX2 15 2 1 (.array .int) true := FX.mk' (N := 11) (T := TX2) (ty0 := tyX2) rfl (by decide) wq_X2 fl_X2_15 tyX2_ok nmX2 rfl (by decide +kernel) rfl
theorem fx_X2_19 : FX RX2 19 2 2 (.array .int) true := FX.mk' (N := 11) (T := TX2) (ty0 := tyX2) rfl (by decide) wq_X2 fl_X2_19 tyX2_ok nmX2 rfl (by decide +kernel) rfl
theorem fx_X2_22 : FX RX2 22 2 3 (.array .int) true := FX.mk' (N := 11) (T := TX2) (ty0 := tyX2) rfl (by decide) wq_X2 fl_X2_22 tyX2_ok nmX2 rfl (by decide +kernel) rfl
theorem fx_X2_25 : FX RX2 25 2 4 (.array .int) true := FX.mk' (N := 11) (T := TX2) (ty0 := tyX2) rfl (by decide) wq_X2 fl_X2_25 tyX2_ok nmX2 rfl (by decide +kernel) rfl
theorem fx_X2_28 : FX RX2 28 2 8 .int false := FX.mk' (N := 11) (T := TX2) (ty0 := tyX2) rfl (by decide) wq_X2 fl_X2_28 tyX2_ok nmX2 rfl (by decide +kernel) rfl
theorem im_X2 : Cond.instanceMethod yX2_init ∈ lw_good := (lwk lk_2 85 rfl rfl)
theorem fx_X11_36 : FX RX11 36 11 4 (.object "BeatenBounds$Land") true := FX.mk' (N := 13) (T := TX11) (ty0 := tyX11) rfl (by decide) wq_X11 fl_X11_36 tyX11_ok nmX11 rfl (by decide +kernel) rfl
theorem fx_X11_40 : FX RX11 40 11 5 (.object "BeatenBounds$Land") true := FX.mk' (N := 13) (T := TX11) (ty0 := tyX11) rfl (by decide) wq_X11 fl_X11_40 tyX11_ok nmX11 rfl (by decide +kernel) rfl
theorem fx_X11_43 : FX RX11 43 11 6 (.object "BeatenBounds$Land") true := FX.mk' (N := 13) (T := TX11) (ty0 := tyX11) rfl (by decide) wq_X11 fl_X11_43 tyX11_ok nmX11 rfl (by decide +kernel) rfl
theorem fn_X11_46 : FN RX11 46 10 2 [.null, .null] := ⟨RX10, TX10, tyX10, rfl, wq_X10, tyX10_ok, (lwk lk_2 151 rfl rfl), (lwk lk_2 152 rfl rfl), (lwk lk_1 12 rfl rfl), fun j hj => by
  match j, hj with
  | 0, _ => rfl
  | 1, _ => rfl
  | _ + 2, h => exact absurd h (by omega)⟩
theorem oi_X10 : Cond.methodLink RX10 3 Lib.objectInit ∈ lw_good := (lwk lk_2 156 rfl rfl)
theorem fx_X10_9 : FX RX10 9 10 0 (.object "BeatenBounds$Told") true := FX.mk' (N := 2) (T := TX10) (ty0 := tyX10) rfl (by decide) wq_X10 fl_X10_9 tyX10_ok nmX10 rfl (by decide +kernel) rfl
theorem fx_X10_17 : FX RX10 17 10 1 (.array .long) true := FX.mk' (N := 2) (T := TX10) (ty0 := tyX10) rfl (by decide) wq_X10 fl_X10_17 tyX10_ok nmX10 rfl (by decide +kernel) rfl
theorem im_X10 : Cond.instanceMethod yX10_init ∈ lw_good := (lwk lk_2 154 rfl rfl)
theorem fx_X11_49 : FX RX11 49 11 8 (.object "BeatenBounds$Years") true := FX.mk' (N := 13) (T := TX11) (ty0 := tyX11) rfl (by decide) wq_X11 fl_X11_49 tyX11_ok nmX11 rfl (by decide +kernel) rfl
theorem fn_X11_53 : FN RX11 53 0 7 [.null, .null, .null, .null, .null, .int (iZ 0), .int (iZ 0)] := ⟨RX0, TX0, tyX0, rfl, wq_X0, tyX0_ok, (lwk lk_2 164 rfl rfl), (lwk lk_2 165 rfl rfl), (lwk lk_1 13 rfl rfl), fun j hj => by
  match j, hj with
  | 0, _ => rfl
  | 1, _ => rfl
  | 2, _ => rfl
  | 3, _ => rfl
  | 4, _ => rfl
  | 5, _ => rfl
  | 6, _ => rfl
  | _ + 7, h => exact absurd h (by omega)⟩
theorem oi_X0 : Cond.methodLink RX0 3 Lib.objectInit ∈ lw_good := (lwk lk_2 169 rfl rfl)
theorem fx_X0_11 : FX RX0 11 0 0 (.array .int) true := FX.mk' (N := 7) (T := TX0) (ty0 := tyX0) rfl (by decide) wq_X0 fl_X0_11 tyX0_ok nmX0 rfl (by decide +kernel) rfl
theorem fx_X0_15 : FX RX0 15 0 1 (.array .int) true := FX.mk' (N := 7) (T := TX0) (ty0 := tyX0) rfl (by decide) wq_X0 fl_X0_15 tyX0_ok nmX0 rfl (by decide +kernel) rfl
theorem fx_X0_18 : FX RX0 18 0 2 (.array .int) true := FX.mk' (N := 7) (T := TX0) (ty0 := tyX0) rfl (by decide) wq_X0 fl_X0_18 tyX0_ok nmX0 rfl (by decide +kernel) rfl
theorem fx_X0_21 : FX RX0 21 0 3 (.array .int) true := FX.mk' (N := 7) (T := TX0) (ty0 := tyX0) rfl (by decide) wq_X0 fl_X0_21 tyX0_ok nmX0 rfl (by decide +kernel) rfl
theorem fx_X0_24 : FX RX0 24 0 4 (.array .int) true := FX.mk' (N := 7) (T := TX0) (ty0 := tyX0) rfl (by decide) wq_X0 fl_X0_24 tyX0_ok nmX0 rfl (by decide +kernel) rfl
theorem im_X0 : Cond.instanceMethod yX0_init ∈ lw_good := (lwk lk_2 167 rfl rfl)
theorem fx_X11_56 : FX RX11 56 11 9 (.object "BeatenBounds$Deeds") true := FX.mk' (N := 13) (T := TX11) (ty0 := tyX11) rfl (by decide) wq_X11 fl_X11_56 tyX11_ok nmX11 rfl (by decide +kernel) rfl
theorem fn_X11_60 : FN RX11 60 6 9 [.null, .null, .null, .null, .null, .null, .null, .int (iZ 0), .int (iZ 0)] := ⟨RX6, TX6, tyX6, rfl, wq_X6, tyX6_ok, (lwk lk_2 193 rfl rfl), (lwk lk_2 194 rfl rfl), (lwk lk_1 14 rfl rfl), fun j hj => by
  match j, hj with
  | 0, _ => rfl
  | 1, _ => rfl
  | 2, _ => rfl
  | 3, _ => rfl
  | 4, _ => rfl
  | 5, _ => rfl
  | 6, _ => rfl
  | 7, _ => rfl
  | 8, _ => rfl
  | _ + 9, h => exact absurd h (by omega)⟩
theorem oi_X6 : Cond.methodLink RX6 3 Lib.objectInit ∈ lw_good := (lwk lk_2 198 rfl rfl)
theorem fx_X6_11 : FX RX6 11 6 0 (.array .int) true := FX.mk' (N := 9) (T := TX6) (ty0 := tyX6) rfl (by decide) wq_X6 fl_X6_11 tyX6_ok nmX6 rfl (by decide +kernel) rfl
theorem fx_X6_15 : FX RX6 15 6 1 (.array .int) true := FX.mk' (N := 9) (T := TX6) (ty0 := tyX6) rfl (by decide) wq_X6 fl_X6_15 tyX6_ok nmX6 rfl (by decide +kernel) rfl
theorem fx_X6_18 : FX RX6 18 6 2 (.array .int) true := FX.mk' (N := 9) (T := TX6) (ty0 := tyX6) rfl (by decide) wq_X6 fl_X6_18 tyX6_ok nmX6 rfl (by decide +kernel) rfl
theorem fx_X6_21 : FX RX6 21 6 3 (.array .int) true := FX.mk' (N := 9) (T := TX6) (ty0 := tyX6) rfl (by decide) wq_X6 fl_X6_21 tyX6_ok nmX6 rfl (by decide +kernel) rfl
theorem fx_X6_24 : FX RX6 24 6 4 (.array .int) true := FX.mk' (N := 9) (T := TX6) (ty0 := tyX6) rfl (by decide) wq_X6 fl_X6_24 tyX6_ok nmX6 rfl (by decide +kernel) rfl
theorem fx_X6_27 : FX RX6 27 6 5 (.array .boolean) true := FX.mk' (N := 9) (T := TX6) (ty0 := tyX6) rfl (by decide) wq_X6 fl_X6_27 tyX6_ok nmX6 rfl (by decide +kernel) rfl
theorem fx_X6_31 : FX RX6 31 6 6 (.array .boolean) true := FX.mk' (N := 9) (T := TX6) (ty0 := tyX6) rfl (by decide) wq_X6 fl_X6_31 tyX6_ok nmX6 rfl (by decide +kernel) rfl
theorem fx_X6_34 : FX RX6 34 6 8 .int false := FX.mk' (N := 9) (T := TX6) (ty0 := tyX6) rfl (by decide) wq_X6 fl_X6_34 tyX6_ok nmX6 rfl (by decide +kernel) rfl
theorem im_X6 : Cond.instanceMethod yX6_init ∈ lw_good := (lwk lk_2 196 rfl rfl)
theorem fx_X11_63 : FX RX11 63 11 10 (.object "BeatenBounds$Seen") true := FX.mk' (N := 13) (T := TX11) (ty0 := tyX11) rfl (by decide) wq_X11 fl_X11_63 tyX11_ok nmX11 rfl (by decide +kernel) rfl
theorem fn_X11_67 : FN RX11 67 1 8 [.null, .null, .null, .null, .null, .null, .int (iZ 0), .int (iZ 0)] := ⟨RX1, TX1, tyX1, rfl, wq_X1, tyX1_ok, (lwk lk_2 229 rfl rfl), (lwk lk_2 230 rfl rfl), (lwk lk_1 15 rfl rfl), fun j hj => by
  match j, hj with
  | 0, _ => rfl
  | 1, _ => rfl
  | 2, _ => rfl
  | 3, _ => rfl
  | 4, _ => rfl
  | 5, _ => rfl
  | 6, _ => rfl
  | 7, _ => rfl
  | _ + 8, h => exact absurd h (by omega)⟩
theorem oi_X1 : Cond.methodLink RX1 3 Lib.objectInit ∈ lw_good := (lwk lk_2 234 rfl rfl)
theorem fx_X1_9 : FX RX1 9 1 2 (.object "BeatenBounds$Told") true := FX.mk' (N := 8) (T := TX1) (ty0 := tyX1) rfl (by decide) wq_X1 fl_X1_9 tyX1_ok nmX1 rfl (by decide +kernel) rfl
theorem fx_X1_15 : FX RX1 15 1 0 (.object "BeatenBounds$Years") true := FX.mk' (N := 8) (T := TX1) (ty0 := tyX1) rfl (by decide) wq_X1 fl_X1_15 tyX1_ok nmX1 rfl (by decide +kernel) rfl
theorem fx_X1_19 : FX RX1 19 1 1 (.object "BeatenBounds$Seen") true := FX.mk' (N := 8) (T := TX1) (ty0 := tyX1) rfl (by decide) wq_X1 fl_X1_19 tyX1_ok nmX1 rfl (by decide +kernel) rfl
theorem fn_X1_23 : FN RX1 23 2 11 [.null, .null, .null, .null, .null, .int (iZ 0), .int (iZ 0), .long (lZ 0), .int (iZ 0), .int (iZ 0), .int (iZ 0)] := ⟨RX2, TX2, tyX2, rfl, wq_X2, tyX2_ok, (lwk lk_2 235 rfl rfl), (lwk lk_2 83 rfl rfl), (lwk lk_1 11 rfl rfl), fun j hj => by
  match j, hj with
  | 0, _ => rfl
  | 1, _ => rfl
  | 2, _ => rfl
  | 3, _ => rfl
  | 4, _ => rfl
  | 5, _ => rfl
  | 6, _ => rfl
  | 7, _ => rfl
  | 8, _ => rfl
  | 9, _ => rfl
  | 10, _ => rfl
  | _ + 11, h => exact absurd h (by omega)⟩
theorem fx_X1_28 : FX RX1 28 1 3 (.object "BeatenBounds$Land") true := FX.mk' (N := 8) (T := TX1) (ty0 := tyX1) rfl (by decide) wq_X1 fl_X1_28 tyX1_ok nmX1 rfl (by decide +kernel) rfl
theorem fx_X1_32 : FX RX1 32 1 4 (.array .int) true := FX.mk' (N := 8) (T := TX1) (ty0 := tyX1) rfl (by decide) wq_X1 fl_X1_32 tyX1_ok nmX1 rfl (by decide +kernel) rfl
theorem fx_X1_36 : FX RX1 36 1 5 (.array .int) true := FX.mk' (N := 8) (T := TX1) (ty0 := tyX1) rfl (by decide) wq_X1 fl_X1_36 tyX1_ok nmX1 rfl (by decide +kernel) rfl
theorem im_X1 : Cond.instanceMethod yX1_init ∈ lw_good := (lwk lk_2 232 rfl rfl)
theorem fx_X11_72 : FX RX11 72 11 11 (.object "BeatenBounds$Guess") true := FX.mk' (N := 13) (T := TX11) (ty0 := tyX11) rfl (by decide) wq_X11 fl_X11_72 tyX11_ok nmX11 rfl (by decide +kernel) rfl
theorem fn_X11_76 : FN RX11 76 4 6 [.null, .null, .null, .null, .null, .int (iZ 0)] := ⟨RX4, TX4, tyX4, rfl, wq_X4, tyX4_ok, (lwk lk_3 24 rfl rfl), (lwk lk_3 25 rfl rfl), (lwk lk_1 16 rfl rfl), fun j hj => by
  match j, hj with
  | 0, _ => rfl
  | 1, _ => rfl
  | 2, _ => rfl
  | 3, _ => rfl
  | 4, _ => rfl
  | 5, _ => rfl
  | _ + 6, h => exact absurd h (by omega)⟩
theorem oi_X4 : Cond.methodLink RX4 3 Lib.objectInit ∈ lw_good := (lwk lk_3 29 rfl rfl)
theorem fx_X4_9 : FX RX4 9 4 0 (.object "BeatenBounds$Told") true := FX.mk' (N := 6) (T := TX4) (ty0 := tyX4) rfl (by decide) wq_X4 fl_X4_9 tyX4_ok nmX4 rfl (by decide +kernel) rfl
theorem fx_X4_15 : FX RX4 15 4 1 (.object "BeatenBounds$Years") true := FX.mk' (N := 6) (T := TX4) (ty0 := tyX4) rfl (by decide) wq_X4 fl_X4_15 tyX4_ok nmX4 rfl (by decide +kernel) rfl
theorem fx_X4_19 : FX RX4 19 4 2 (.array .int) true := FX.mk' (N := 6) (T := TX4) (ty0 := tyX4) rfl (by decide) wq_X4 fl_X4_19 tyX4_ok nmX4 rfl (by decide +kernel) rfl
theorem fx_X4_23 : FX RX4 23 4 3 (.array .int) true := FX.mk' (N := 6) (T := TX4) (ty0 := tyX4) rfl (by decide) wq_X4 fl_X4_23 tyX4_ok nmX4 rfl (by decide +kernel) rfl
theorem fx_X4_26 : FX RX4 26 4 4 (.array .int) true := FX.mk' (N := 6) (T := TX4) (ty0 := tyX4) rfl (by decide) wq_X4 fl_X4_26 tyX4_ok nmX4 rfl (by decide +kernel) rfl
theorem im_X4 : Cond.instanceMethod yX4_init ∈ lw_good := (lwk lk_3 27 rfl rfl)
theorem fx_X11_81 : FX RX11 81 11 12 (.object "BeatenBounds$Laying") true := FX.mk' (N := 13) (T := TX11) (ty0 := tyX11) rfl (by decide) wq_X11 fl_X11_81 tyX11_ok nmX11 rfl (by decide +kernel) rfl
theorem oi_X12 : Cond.methodLink RX12 1 Lib.objectInit ∈ lw_good := (lwk lk_6 147 rfl rfl)
theorem fx_X12_7 : FX RX12 7 12 1 (.array .int) true := FX.mk' (N := 63) (T := TX12) (ty0 := tyX12) rfl (by decide) wq_X12 fl_X12_7 tyX12_ok nmX12 rfl (by decide +kernel) rfl
theorem fx_X12_13 : FX RX12 13 12 3 (.array .int) true := FX.mk' (N := 63) (T := TX12) (ty0 := tyX12) rfl (by decide) wq_X12 fl_X12_13 tyX12_ok nmX12 rfl (by decide +kernel) rfl
theorem fx_X12_16 : FX RX12 16 12 4 (.array .int) true := FX.mk' (N := 63) (T := TX12) (ty0 := tyX12) rfl (by decide) wq_X12 fl_X12_16 tyX12_ok nmX12 rfl (by decide +kernel) rfl
theorem fx_X12_19 : FX RX12 19 12 5 (.array .int) true := FX.mk' (N := 63) (T := TX12) (ty0 := tyX12) rfl (by decide) wq_X12 fl_X12_19 tyX12_ok nmX12 rfl (by decide +kernel) rfl
theorem fx_X12_22 : FX RX12 22 12 6 (.array .int) true := FX.mk' (N := 63) (T := TX12) (ty0 := tyX12) rfl (by decide) wq_X12 fl_X12_22 tyX12_ok nmX12 rfl (by decide +kernel) rfl
theorem fx_X12_25 : FX RX12 25 12 7 (.array .int) true := FX.mk' (N := 63) (T := TX12) (ty0 := tyX12) rfl (by decide) wq_X12 fl_X12_25 tyX12_ok nmX12 rfl (by decide +kernel) rfl
theorem fx_X12_28 : FX RX12 28 12 8 (.array .int) true := FX.mk' (N := 63) (T := TX12) (ty0 := tyX12) rfl (by decide) wq_X12 fl_X12_28 tyX12_ok nmX12 rfl (by decide +kernel) rfl
theorem fx_X12_31 : FX RX12 31 12 9 (.array .int) true := FX.mk' (N := 63) (T := TX12) (ty0 := tyX12) rfl (by decide) wq_X12 fl_X12_31 tyX12_ok nmX12 rfl (by decide +kernel) rfl
theorem fx_X12_34 : FX RX12 34 12 10 (.array .int) true := FX.mk' (N := 63) (T := TX12) (ty0 := tyX12) rfl (by decide) wq_X12 fl_X12_34 tyX12_ok nmX12 rfl (by decide +kernel) rfl
theorem fx_X12_37 : FX RX12 37 12 11 (.array .int) true := FX.mk' (N := 63) (T := TX12) (ty0 := tyX12) rfl (by decide) wq_X12 fl_X12_37 tyX12_ok nmX12 rfl (by decide +kernel) rfl
theorem fx_X12_40 : FX RX12 40 12 12 (.array .int) true := FX.mk' (N := 63) (T := TX12) (ty0 := tyX12) rfl (by decide) wq_X12 fl_X12_40 tyX12_ok nmX12 rfl (by decide +kernel) rfl
theorem fx_X12_43 : FX RX12 43 12 13 (.array .int) true := FX.mk' (N := 63) (T := TX12) (ty0 := tyX12) rfl (by decide) wq_X12 fl_X12_43 tyX12_ok nmX12 rfl (by decide +kernel) rfl
theorem fx_X12_46 : FX RX12 46 12 14 (.array .int) true := FX.mk' (N := 63) (T := TX12) (ty0 := tyX12) rfl (by decide) wq_X12 fl_X12_46 tyX12_ok nmX12 rfl (by decide +kernel) rfl
theorem fx_X12_49 : FX RX12 49 12 15 (.array .int) true := FX.mk' (N := 63) (T := TX12) (ty0 := tyX12) rfl (by decide) wq_X12 fl_X12_49 tyX12_ok nmX12 rfl (by decide +kernel) rfl
theorem fx_X12_52 : FX RX12 52 12 16 (.array .int) true := FX.mk' (N := 63) (T := TX12) (ty0 := tyX12) rfl (by decide) wq_X12 fl_X12_52 tyX12_ok nmX12 rfl (by decide +kernel) rfl
theorem fx_X12_55 : FX RX12 55 12 17 (.array .int) true := FX.mk' (N := 63) (T := TX12) (ty0 := tyX12) rfl (by decide) wq_X12 fl_X12_55 tyX12_ok nmX12 rfl (by decide +kernel) rfl
theorem fx_X12_58 : FX RX12 58 12 18 (.array .int) true := FX.mk' (N := 63) (T := TX12) (ty0 := tyX12) rfl (by decide) wq_X12 fl_X12_58 tyX12_ok nmX12 rfl (by decide +kernel) rfl
theorem fx_X12_61 : FX RX12 61 12 29 .int false := FX.mk' (N := 63) (T := TX12) (ty0 := tyX12) rfl (by decide) wq_X12 fl_X12_61 tyX12_ok nmX12 rfl (by decide +kernel) rfl
theorem fx_X12_65 : FX RX12 65 12 32 (.array .long) true := FX.mk' (N := 63) (T := TX12) (ty0 := tyX12) rfl (by decide) wq_X12 fl_X12_65 tyX12_ok nmX12 rfl (by decide +kernel) rfl
theorem fx_X12_69 : FX RX12 69 12 33 (.array .long) true := FX.mk' (N := 63) (T := TX12) (ty0 := tyX12) rfl (by decide) wq_X12 fl_X12_69 tyX12_ok nmX12 rfl (by decide +kernel) rfl
theorem fx_X12_72 : FX RX12 72 12 35 (.array .int) true := FX.mk' (N := 63) (T := TX12) (ty0 := tyX12) rfl (by decide) wq_X12 fl_X12_72 tyX12_ok nmX12 rfl (by decide +kernel) rfl
theorem fx_X12_75 : FX RX12 75 12 36 (.array .int) true := FX.mk' (N := 63) (T := TX12) (ty0 := tyX12) rfl (by decide) wq_X12 fl_X12_75 tyX12_ok nmX12 rfl (by decide +kernel) rfl
theorem fx_X12_78 : FX RX12 78 12 37 (.array .int) true := FX.mk' (N := 63) (T := TX12) (ty0 := tyX12) rfl (by decide) wq_X12 fl_X12_78 tyX12_ok nmX12 rfl (by decide +kernel) rfl
theorem fx_X12_81 : FX RX12 81 12 38 (.array .int) true := FX.mk' (N := 63) (T := TX12) (ty0 := tyX12) rfl (by decide) wq_X12 fl_X12_81 tyX12_ok nmX12 rfl (by decide +kernel) rfl
theorem fx_X12_84 : FX RX12 84 12 39 (.array .int) true := FX.mk' (N := 63) (T := TX12) (ty0 := tyX12) rfl (by decide) wq_X12 fl_X12_84 tyX12_ok nmX12 rfl (by decide +kernel) rfl
theorem fx_X12_87 : FX RX12 87 12 40 (.array .int) true := FX.mk' (N := 63) (T := TX12) (ty0 := tyX12) rfl (by decide) wq_X12 fl_X12_87 tyX12_ok nmX12 rfl (by decide +kernel) rfl
theorem fx_X12_90 : FX RX12 90 12 41 (.array .int) true := FX.mk' (N := 63) (T := TX12) (ty0 := tyX12) rfl (by decide) wq_X12 fl_X12_90 tyX12_ok nmX12 rfl (by decide +kernel) rfl
theorem fx_X12_93 : FX RX12 93 12 45 .int false := FX.mk' (N := 63) (T := TX12) (ty0 := tyX12) rfl (by decide) wq_X12 fl_X12_93 tyX12_ok nmX12 rfl (by decide +kernel) rfl
theorem fx_X12_96 : FX RX12 96 12 46 (.array .int) true := FX.mk' (N := 63) (T := TX12) (ty0 := tyX12) rfl (by decide) wq_X12 fl_X12_96 tyX12_ok nmX12 rfl (by decide +kernel) rfl
theorem fx_X12_99 : FX RX12 99 12 47 (.array .int) true := FX.mk' (N := 63) (T := TX12) (ty0 := tyX12) rfl (by decide) wq_X12 fl_X12_99 tyX12_ok nmX12 rfl (by decide +kernel) rfl
theorem fx_X12_102 : FX RX12 102 12 52 (.array .int) true := FX.mk' (N := 63) (T := TX12) (ty0 := tyX12) rfl (by decide) wq_X12 fl_X12_102 tyX12_ok nmX12 rfl (by decide +kernel) rfl
theorem fx_X12_105 : FX RX12 105 12 54 .int false := FX.mk' (N := 63) (T := TX12) (ty0 := tyX12) rfl (by decide) wq_X12 fl_X12_105 tyX12_ok nmX12 rfl (by decide +kernel) rfl
theorem fx_X12_108 : FX RX12 108 12 55 (.array .int) true := FX.mk' (N := 63) (T := TX12) (ty0 := tyX12) rfl (by decide) wq_X12 fl_X12_108 tyX12_ok nmX12 rfl (by decide +kernel) rfl
theorem fx_X12_111 : FX RX12 111 12 56 (.array .int) true := FX.mk' (N := 63) (T := TX12) (ty0 := tyX12) rfl (by decide) wq_X12 fl_X12_111 tyX12_ok nmX12 rfl (by decide +kernel) rfl
theorem fx_X12_114 : FX RX12 114 12 57 (.array .int) true := FX.mk' (N := 63) (T := TX12) (ty0 := tyX12) rfl (by decide) wq_X12 fl_X12_114 tyX12_ok nmX12 rfl (by decide +kernel) rfl
theorem fx_X12_117 : FX RX12 117 12 58 (.array .int) true := FX.mk' (N := 63) (T := TX12) (ty0 := tyX12) rfl (by decide) wq_X12 fl_X12_117 tyX12_ok nmX12 rfl (by decide +kernel) rfl
theorem fx_X12_120 : FX RX12 120 12 59 (.array .boolean) true := FX.mk' (N := 63) (T := TX12) (ty0 := tyX12) rfl (by decide) wq_X12 fl_X12_120 tyX12_ok nmX12 rfl (by decide +kernel) rfl
theorem fx_X12_124 : FX RX12 124 12 60 (.array .int) true := FX.mk' (N := 63) (T := TX12) (ty0 := tyX12) rfl (by decide) wq_X12 fl_X12_124 tyX12_ok nmX12 rfl (by decide +kernel) rfl
theorem fx_X12_127 : FX RX12 127 12 61 (.array .boolean) true := FX.mk' (N := 63) (T := TX12) (ty0 := tyX12) rfl (by decide) wq_X12 fl_X12_127 tyX12_ok nmX12 rfl (by decide +kernel) rfl
theorem fx_X12_130 : FX RX12 130 12 62 (.array .int) true := FX.mk' (N := 63) (T := TX12) (ty0 := tyX12) rfl (by decide) wq_X12 fl_X12_130 tyX12_ok nmX12 rfl (by decide +kernel) rfl
set_option maxHeartbeats 4000000 in
theorem i_X3_13 {G : Gx} {E : Nat → va_E} (hE : E 13 = .inr (3, [.null, .null, .null, .null, .int (iZ 0)])) : CKn G 1 4 134 mX3_init [.ref (G.2.2.2 + 13)] (14, E, 0) (nM G E 13 4) := by
  refine k_entry om_X3_init (Nat.le_of_ble_eq_true rfl) (L := [some (.ref (G.2.2.2 + 13))]) rfl ?_
  refine k_aload_n (q := 1) (i := 0) dX3_init_0 rfl rfl rfl ?_
  refine k_objInit (q := 4) dX3_init_1 rfl oi_X3 (Nat.le_of_ble_eq_true rfl) (by decide) (by decide) ?_
  refine k_aload_n (q := 5) (i := 0) dX3_init_4 rfl rfl rfl ?_
  refine k_bipush (q := 7) dX3_init_5 rfl (by decide) ?_
  refine k_newaN (t := 0) (N := 64) (nz := 64) (q := 9) (n := 14) (n' := 15) (kc' := 1) (ks' := 64) dX3_init_7 rfl (by decide) rfl (by decide) (by decide) (by decide) rfl rfl rfl ?_
  refine k_putG (q := 12) (n := 15) (fs := [.null, .null, .null, .null, .int (iZ 0)]) (Or.inl rfl) dX3_init_9 rfl fx_X3_11 (by decide) ((upE_ne (by decide)).trans hE) (Nat.le_of_ble_eq_true rfl) rfl rfl ?_
  refine k_aload_n (q := 13) (i := 0) dX3_init_12 rfl rfl rfl ?_
  refine k_iconst (q := 14) dX3_init_13 rfl ?_
  refine k_newaN (t := 0) (N := 3) (nz := 3) (q := 16) (n := 15) (n' := 16) (kc' := 2) (ks' := 67) dX3_init_14 rfl (by decide) rfl (by decide) (by decide) (by decide) rfl rfl rfl ?_
  refine k_putG (q := 19) (n := 16) (fs := [.ref (G.2.2.2 + 14), .null, .null, .null, .int (iZ 0)]) (Or.inl rfl) dX3_init_16 rfl fx_X3_15 (by decide) ((upE_ne (by decide)).trans upE_eq) (Nat.le_of_ble_eq_true rfl) rfl rfl ?_
  refine k_aload_n (q := 20) (i := 0) dX3_init_19 rfl rfl rfl ?_
  refine k_iconst (q := 21) dX3_init_20 rfl ?_
  refine k_newaN (t := 0) (N := 3) (nz := 3) (q := 23) (n := 16) (n' := 17) (kc' := 3) (ks' := 70) dX3_init_21 rfl (by decide) rfl (by decide) (by decide) (by decide) rfl rfl rfl ?_
  refine k_putG (q := 26) (n := 17) (fs := [.ref (G.2.2.2 + 14), .ref (G.2.2.2 + 15), .null, .null, .int (iZ 0)]) (Or.inl rfl) dX3_init_23 rfl fx_X3_18 (by decide) ((upE_ne (by decide)).trans upE_eq) (Nat.le_of_ble_eq_true rfl) rfl rfl ?_
  refine k_aload_n (q := 27) (i := 0) dX3_init_26 rfl rfl rfl ?_
  refine k_bipush (q := 29) dX3_init_27 rfl (by decide) ?_
  refine k_newaN (t := 1) (N := 64) (nz := 64) (q := 31) (n := 17) (n' := 18) (kc' := 4) (ks' := 134) dX3_init_29 rfl (by decide) rfl (by decide) (by decide) (by decide) rfl rfl rfl ?_
  refine k_putG (q := 34) (n := 18) (fs := [.ref (G.2.2.2 + 14), .ref (G.2.2.2 + 15), .ref (G.2.2.2 + 16), .null, .int (iZ 0)]) (Or.inl rfl) dX3_init_31 rfl fx_X3_21 (by decide) ((upE_ne (by decide)).trans upE_eq) (Nat.le_of_ble_eq_true rfl) rfl rfl ?_
  exact k_rv dX3_init_34 rfl ⟨rfl, congrArg (fun f => ((18, f, 0) : Wn)) (mix_ext (m := 4) (fun j hj => by simp (disch := omega) only [upE_ne, mixE_out']) (fun j hj => by simp (disch := omega) only [upE_ne, mixE_out']) (fun i hi => by
    match i, hi with
    | 0, _ => exact upE_eq
    | 1, _ => exact ((upE_ne (by decide)).trans ((upE_ne (by decide)).trans ((upE_ne (by decide)).trans ((upE_ne (by decide)).trans ((upE_ne (by decide)).trans ((upE_ne (by decide)).trans ((upE_ne (by decide)).trans upE_eq)))))))
    | 2, _ => exact ((upE_ne (by decide)).trans ((upE_ne (by decide)).trans ((upE_ne (by decide)).trans ((upE_ne (by decide)).trans ((upE_ne (by decide)).trans upE_eq)))))
    | 3, _ => exact ((upE_ne (by decide)).trans ((upE_ne (by decide)).trans ((upE_ne (by decide)).trans upE_eq)))
    | 4, _ => exact ((upE_ne (by decide)).trans upE_eq)
    | _ + 5, h => exact absurd h (by omega)))⟩
set_option maxHeartbeats 4000000 in
theorem i_X9_2 {G : Gx} {E : Nat → va_E} (hE : E 2 = .inr (9, [.int (iZ 0), .int (iZ 0), .int (iZ 0), .int (iZ 0), .int (iZ 0), .int (iZ 0), .int (iZ 0), .int (iZ 0), .null, .null, .null, .null, .null, .null, .null, .null, .null, .null, .null])) : CKn G 2 15 221 mX9_init [.ref (G.2.2.2 + 2)] (3, E, 0) (nM G E 2 15) := by
  refine k_entry om_X9_init (Nat.le_of_ble_eq_true rfl) (L := [some (.ref (G.2.2.2 + 2))]) rfl ?_
  refine k_aload_n (q := 1) (i := 0) dX9_init_0 rfl rfl rfl ?_
  refine k_objInit (q := 4) dX9_init_1 rfl oi_X9 (Nat.le_of_ble_eq_true rfl) (by decide) (by decide) ?_
  refine k_aload_n (q := 5) (i := 0) dX9_init_4 rfl rfl rfl ?_
  refine k_bipush (q := 7) dX9_init_5 rfl (by decide) ?_
  refine k_putG (q := 10) (n := 3) (fs := [.int (iZ 0), .int (iZ 0), .int (iZ 0), .int (iZ 0), .int (iZ 0), .int (iZ 0), .int (iZ 0), .int (iZ 0), .null, .null, .null, .null, .null, .null, .null, .null, .null, .null, .null]) (Or.inl rfl) dX9_init_7 rfl fx_X9_9 (by decide) hE (Nat.le_of_ble_eq_true rfl) rfl rfl ?_
  refine k_aload_n (q := 11) (i := 0) dX9_init_10 rfl rfl rfl ?_
  refine k_iconst (q := 12) dX9_init_11 rfl ?_
  refine k_putG (q := 15) (n := 3) (fs := [.int (iZ 20), .int (iZ 0), .int (iZ 0), .int (iZ 0), .int (iZ 0), .int (iZ 0), .int (iZ 0), .int (iZ 0), .null, .null, .null, .null, .null, .null, .null, .null, .null, .null, .null]) (Or.inl rfl) dX9_init_12 rfl fx_X9_15 (by decide) upE_eq (Nat.le_of_ble_eq_true rfl) rfl rfl ?_
  refine k_aload_n (q := 16) (i := 0) dX9_init_15 rfl rfl rfl ?_
  refine k_iconst (q := 17) dX9_init_16 rfl ?_
  refine k_newaN (t := 0) (N := 4) (nz := 4) (q := 19) (n := 3) (n' := 4) (kc' := 1) (ks' := 4) dX9_init_17 rfl (by decide) rfl (by decide) (by decide) (by decide) rfl rfl rfl ?_
  refine k_putG (q := 22) (n := 4) (fs := [.int (iZ 20), .int (iZ 0), .int (iZ 0), .int (iZ 0), .int (iZ 0), .int (iZ (-1)), .int (iZ 0), .int (iZ 0), .null, .null, .null, .null, .null, .null, .null, .null, .null, .null, .null]) (Or.inl rfl) dX9_init_19 rfl fx_X9_18 (by decide) ((upE_ne (by decide)).trans upE_eq) (Nat.le_of_ble_eq_true rfl) rfl rfl ?_
  refine k_aload_n (q := 23) (i := 0) dX9_init_22 rfl rfl rfl ?_
  refine k_iconst (q := 24) dX9_init_23 rfl ?_
  refine k_newaN (t := 0) (N := 4) (nz := 4) (q := 26) (n := 4) (n' := 5) (kc' := 2) (ks' := 8) dX9_init_24 rfl (by decide) rfl (by decide) (by decide) (by decide) rfl rfl rfl ?_
  refine k_putG (q := 29) (n := 5) (fs := [.int (iZ 20), .int (iZ 0), .int (iZ 0), .int (iZ 0), .int (iZ 0), .int (iZ (-1)), .int (iZ 0), .int (iZ 0), .ref (G.2.2.2 + 3), .null, .null, .null, .null, .null, .null, .null, .null, .null, .null]) (Or.inl rfl) dX9_init_26 rfl fx_X9_22 (by decide) ((upE_ne (by decide)).trans upE_eq) (Nat.le_of_ble_eq_true rfl) rfl rfl ?_
  refine k_aload_n (q := 30) (i := 0) dX9_init_29 rfl rfl rfl ?_
  refine k_iconst (q := 31) dX9_init_30 rfl ?_
  refine k_newaN (t := 0) (N := 4) (nz := 4) (q := 33) (n := 5) (n' := 6) (kc' := 3) (ks' := 12) dX9_init_31 rfl (by decide) rfl (by decide) (by decide) (by decide) rfl rfl rfl ?_
  refine k_putG (q := 36) (n := 6) (fs := [.int (iZ 20), .int (iZ 0), .int (iZ 0), .int (iZ 0), .int (iZ 0), .int (iZ (-1)), .int (iZ 0), .int (iZ 0), .ref (G.2.2.2 + 3), .ref (G.2.2.2 + 4), .null, .null, .null, .null, .null, .null, .null, .null, .null]) (Or.inl rfl) dX9_init_33 rfl fx_X9_25 (by decide) ((upE_ne (by decide)).trans upE_eq) (Nat.le_of_ble_eq_true rfl) rfl rfl ?_
  refine k_aload_n (q := 37) (i := 0) dX9_init_36 rfl rfl rfl ?_
  refine k_bipush (q := 39) dX9_init_37 rfl (by decide) ?_
  refine k_newaN (t := 0) (N := 6) (nz := 6) (q := 41) (n := 6) (n' := 7) (kc' := 4) (ks' := 18) dX9_init_39 rfl (by decide) rfl (by decide) (by decide) (by decide) rfl rfl rfl ?_
  refine k_putG (q := 44) (n := 7) (fs := [.int (iZ 20), .int (iZ 0), .int (iZ 0), .int (iZ 0), .int (iZ 0), .int (iZ (-1)), .int (iZ 0), .int (iZ 0), .ref (G.2.2.2 + 3), .ref (G.2.2.2 + 4), .ref (G.2.2.2 + 5), .null, .null, .null, .null, .null, .null, .null, .null]) (Or.inl rfl) dX9_init_41 rfl fx_X9_28 (by decide) ((upE_ne (by decide)).trans upE_eq) (Nat.le_of_ble_eq_true rfl) rfl rfl ?_
  refine k_aload_n (q := 45) (i := 0) dX9_init_44 rfl rfl rfl ?_
  refine k_bipush (q := 47) dX9_init_45 rfl (by decide) ?_
  refine k_newaN (t := 0) (N := 6) (nz := 6) (q := 49) (n := 7) (n' := 8) (kc' := 5) (ks' := 24) dX9_init_47 rfl (by decide) rfl (by decide) (by decide) (by decide) rfl rfl rfl ?_
  refine k_putG (q := 52) (n := 8) (fs := [.int (iZ 20), .int (iZ 0), .int (iZ 0), .int (iZ 0), .int (iZ 0), .int (iZ (-1)), .int (iZ 0), .int (iZ 0), .ref (G.2.2.2 + 3), .ref (G.2.2.2 + 4), .ref (G.2.2.2 + 5), .ref (G.2.2.2 + 6), .null, .null, .null, .null, .null, .null, .null]) (Or.inl rfl) dX9_init_49 rfl fx_X9_31 (by decide) ((upE_ne (by decide)).trans upE_eq) (Nat.le_of_ble_eq_true rfl) rfl rfl ?_
  refine k_aload_n (q := 53) (i := 0) dX9_init_52 rfl rfl rfl ?_
  refine k_bipush (q := 55) dX9_init_53 rfl (by decide) ?_
  refine k_newaN (t := 0) (N := 6) (nz := 6) (q := 57) (n := 8) (n' := 9) (kc' := 6) (ks' := 30) dX9_init_55 rfl (by decide) rfl (by decide) (by decide) (by decide) rfl rfl rfl ?_
  refine k_putG (q := 60) (n := 9) (fs := [.int (iZ 20), .int (iZ 0), .int (iZ 0), .int (iZ 0), .int (iZ 0), .int (iZ (-1)), .int (iZ 0), .int (iZ 0), .ref (G.2.2.2 + 3), .ref (G.2.2.2 + 4), .ref (G.2.2.2 + 5), .ref (G.2.2.2 + 6), .ref (G.2.2.2 + 7), .null, .null, .null, .null, .null, .null]) (Or.inl rfl) dX9_init_57 rfl fx_X9_34 (by decide) ((upE_ne (by decide)).trans upE_eq) (Nat.le_of_ble_eq_true rfl) rfl rfl ?_
  refine k_aload_n (q := 61) (i := 0) dX9_init_60 rfl rfl rfl ?_
  refine k_bipush (q := 63) dX9_init_61 rfl (by decide) ?_
  refine k_newaN (t := 0) (N := 12) (nz := 12) (q := 65) (n := 9) (n' := 10) (kc' := 7) (ks' := 42) dX9_init_63 rfl (by decide) rfl (by decide) (by decide) (by decide) rfl rfl rfl ?_
  refine k_putG (q := 68) (n := 10) (fs := [.int (iZ 20), .int (iZ 0), .int (iZ 0), .int (iZ 0), .int (iZ 0), .int (iZ (-1)), .int (iZ 0), .int (iZ 0), .ref (G.2.2.2 + 3), .ref (G.2.2.2 + 4), .ref (G.2.2.2 + 5), .ref (G.2.2.2 + 6), .ref (G.2.2.2 + 7), .ref (G.2.2.2 + 8), .null, .null, .null, .null, .null]) (Or.inl rfl) dX9_init_65 rfl fx_X9_37 (by decide) ((upE_ne (by decide)).trans upE_eq) (Nat.le_of_ble_eq_true rfl) rfl rfl ?_
  refine k_aload_n (q := 69) (i := 0) dX9_init_68 rfl rfl rfl ?_
  refine k_bipush (q := 71) dX9_init_69 rfl (by decide) ?_
  refine k_newaN (t := 0) (N := 12) (nz := 12) (q := 73) (n := 10) (n' := 11) (kc' := 8) (ks' := 54) dX9_init_71 rfl (by decide) rfl (by decide) (by decide) (by decide) rfl rfl rfl ?_
  refine k_putG (q := 76) (n := 11) (fs := [.int (iZ 20), .int (iZ 0), .int (iZ 0), .int (iZ 0), .int (iZ 0), .int (iZ (-1)), .int (iZ 0), .int (iZ 0), .ref (G.2.2.2 + 3), .ref (G.2.2.2 + 4), .ref (G.2.2.2 + 5), .ref (G.2.2.2 + 6), .ref (G.2.2.2 + 7), .ref (G.2.2.2 + 8), .ref (G.2.2.2 + 9), .null, .null, .null, .null]) (Or.inl rfl) dX9_init_73 rfl fx_X9_40 (by decide) ((upE_ne (by decide)).trans upE_eq) (Nat.le_of_ble_eq_true rfl) rfl rfl ?_
  refine k_aload_n (q := 77) (i := 0) dX9_init_76 rfl rfl rfl ?_
  refine k_bipush (q := 79) dX9_init_77 rfl (by decide) ?_
  refine k_newaN (t := 0) (N := 12) (nz := 12) (q := 81) (n := 11) (n' := 12) (kc' := 9) (ks' := 66) dX9_init_79 rfl (by decide) rfl (by decide) (by decide) (by decide) rfl rfl rfl ?_
  refine k_putG (q := 84) (n := 12) (fs := [.int (iZ 20), .int (iZ 0), .int (iZ 0), .int (iZ 0), .int (iZ 0), .int (iZ (-1)), .int (iZ 0), .int (iZ 0), .ref (G.2.2.2 + 3), .ref (G.2.2.2 + 4), .ref (G.2.2.2 + 5), .ref (G.2.2.2 + 6), .ref (G.2.2.2 + 7), .ref (G.2.2.2 + 8), .ref (G.2.2.2 + 9), .ref (G.2.2.2 + 10), .null, .null, .null]) (Or.inl rfl) dX9_init_81 rfl fx_X9_43 (by decide) ((upE_ne (by decide)).trans upE_eq) (Nat.le_of_ble_eq_true rfl) rfl rfl ?_
  refine k_aload_n (q := 85) (i := 0) dX9_init_84 rfl rfl rfl ?_
  refine k_bipush (q := 87) dX9_init_85 rfl (by decide) ?_
  refine k_newaN (t := 0) (N := 16) (nz := 16) (q := 89) (n := 12) (n' := 13) (kc' := 10) (ks' := 82) dX9_init_87 rfl (by decide) rfl (by decide) (by decide) (by decide) rfl rfl rfl ?_
  refine k_putG (q := 92) (n := 13) (fs := [.int (iZ 20), .int (iZ 0), .int (iZ 0), .int (iZ 0), .int (iZ 0), .int (iZ (-1)), .int (iZ 0), .int (iZ 0), .ref (G.2.2.2 + 3), .ref (G.2.2.2 + 4), .ref (G.2.2.2 + 5), .ref (G.2.2.2 + 6), .ref (G.2.2.2 + 7), .ref (G.2.2.2 + 8), .ref (G.2.2.2 + 9), .ref (G.2.2.2 + 10), .ref (G.2.2.2 + 11), .null, .null]) (Or.inl rfl) dX9_init_89 rfl fx_X9_46 (by decide) ((upE_ne (by decide)).trans upE_eq) (Nat.le_of_ble_eq_true rfl) rfl rfl ?_
  refine k_aload_n (q := 93) (i := 0) dX9_init_92 rfl rfl rfl ?_
  refine k_newN (q := 96) (n := 13) (n' := 14) (kc' := 11) (ks' := 87) dX9_init_93 rfl fn_X9_49 (by decide) (by decide) rfl rfl rfl ?_
  refine k_dup (q := 97) dX9_init_96 rfl rfl ?_
  refine k_callN (q := 100) (vs := []) (b := 13) (kc' := 15) (ks' := 221) om_X3_init rfl rfl im_X3 ml_X9_51 dX9_init_97 rfl rfl rfl (Nat.le_of_ble_eq_true rfl) (by decide) (by decide) (by decide) (by decide) (i_X3_13 upE_eq) rfl rfl ?_
  refine k_putG (q := 103) (n := 18) (fs := [.int (iZ 20), .int (iZ 0), .int (iZ 0), .int (iZ 0), .int (iZ 0), .int (iZ (-1)), .int (iZ 0), .int (iZ 0), .ref (G.2.2.2 + 3), .ref (G.2.2.2 + 4), .ref (G.2.2.2 + 5), .ref (G.2.2.2 + 6), .ref (G.2.2.2 + 7), .ref (G.2.2.2 + 8), .ref (G.2.2.2 + 9), .ref (G.2.2.2 + 10), .ref (G.2.2.2 + 11), .ref (G.2.2.2 + 12), .null]) (Or.inl rfl) dX9_init_100 rfl fx_X9_52 (by decide) ((mixE_out (by decide)).trans ((upE_ne (by decide)).trans upE_eq)) (Nat.le_of_ble_eq_true rfl) rfl rfl ?_
  exact k_rv dX9_init_103 rfl ⟨rfl, congrArg (fun f => ((18, f, 0) : Wn)) (mix_ext (m := 15) (fun j hj => by simp (disch := omega) only [upE_ne, mixE_out']) (fun j hj => by simp (disch := omega) only [upE_ne, mixE_out']) (fun i hi => by
    match i, hi with
    | 0, _ => exact upE_eq
    | 1, _ => exact ((upE_ne (by decide)).trans ((mixE_out (by decide)).trans ((upE_ne (by decide)).trans ((upE_ne (by decide)).trans ((upE_ne (by decide)).trans ((upE_ne (by decide)).trans ((upE_ne (by decide)).trans ((upE_ne (by decide)).trans ((upE_ne (by decide)).trans ((upE_ne (by decide)).trans ((upE_ne (by decide)).trans ((upE_ne (by decide)).trans ((upE_ne (by decide)).trans ((upE_ne (by decide)).trans ((upE_ne (by decide)).trans ((upE_ne (by decide)).trans ((upE_ne (by decide)).trans ((upE_ne (by decide)).trans ((upE_ne (by decide)).trans ((upE_ne (by decide)).trans ((upE_ne (by decide)).trans ((upE_ne (by decide)).trans upE_eq))))))))))))))))))))))
    | 2, _ => exact ((upE_ne (by decide)).trans ((mixE_out (by decide)).trans ((upE_ne (by decide)).trans ((upE_ne (by decide)).trans ((upE_ne (by decide)).trans ((upE_ne (by decide)).trans ((upE_ne (by decide)).trans ((upE_ne (by decide)).trans ((upE_ne (by decide)).trans ((upE_ne (by decide)).trans ((upE_ne (by decide)).trans ((upE_ne (by decide)).trans ((upE_ne (by decide)).trans ((upE_ne (by decide)).trans ((upE_ne (by decide)).trans ((upE_ne (by decide)).trans ((upE_ne (by decide)).trans ((upE_ne (by decide)).trans ((upE_ne (by decide)).trans ((upE_ne (by decide)).trans upE_eq))))))))))))))))))))
    | 3, _ => exact ((upE_ne (by decide)).trans ((mixE_out (by decide)).trans ((upE_ne (by decide)).trans ((upE_ne (by decide)).trans ((upE_ne (by decide)).trans ((upE_ne (by decide)).trans ((upE_ne (by decide)).trans ((upE_ne (by decide)).trans ((upE_ne (by decide)).trans ((upE_ne (by decide)).trans ((upE_ne (by decide)).trans ((upE_ne (by decide)).trans ((upE_ne (by decide)).trans ((upE_ne (by decide)).trans ((upE_ne (by decide)).trans ((upE_ne (by decide)).trans ((upE_ne (by decide)).trans ((upE_ne (by decide)).trans upE_eq))))))))))))))))))
    | 4, _ => exact ((upE_ne (by decide)).trans ((mixE_out (by decide)).trans ((upE_ne (by decide)).trans ((upE_ne (by decide)).trans ((upE_ne (by decide)).trans ((upE_ne (by decide)).trans ((upE_ne (by decide)).trans ((upE_ne (by decide)).trans ((upE_ne (by decide)).trans ((upE_ne (by decide)).trans ((upE_ne (by decide)).trans ((upE_ne (by decide)).trans ((upE_ne (by decide)).trans ((upE_ne (by decide)).trans ((upE_ne (by decide)).trans ((upE_ne (by decide)).trans upE_eq))))))))))))))))
    | 5, _ => exact ((upE_ne (by decide)).trans ((mixE_out (by decide)).trans ((upE_ne (by decide)).trans ((upE_ne (by decide)).trans ((upE_ne (by decide)).trans ((upE_ne (by decide)).trans ((upE_ne (by decide)).trans ((upE_ne (by decide)).trans ((upE_ne (by decide)).trans ((upE_ne (by decide)).trans ((upE_ne (by decide)).trans ((upE_ne (by decide)).trans ((upE_ne (by decide)).trans ((upE_ne (by decide)).trans upE_eq))))))))))))))
    | 6, _ => exact ((upE_ne (by decide)).trans ((mixE_out (by decide)).trans ((upE_ne (by decide)).trans ((upE_ne (by decide)).trans ((upE_ne (by decide)).trans ((upE_ne (by decide)).trans ((upE_ne (by decide)).trans ((upE_ne (by decide)).trans ((upE_ne (by decide)).trans ((upE_ne (by decide)).trans ((upE_ne (by decide)).trans ((upE_ne (by decide)).trans upE_eq))))))))))))
    | 7, _ => exact ((upE_ne (by decide)).trans ((mixE_out (by decide)).trans ((upE_ne (by decide)).trans ((upE_ne (by decide)).trans ((upE_ne (by decide)).trans ((upE_ne (by decide)).trans ((upE_ne (by decide)).trans ((upE_ne (by decide)).trans ((upE_ne (by decide)).trans ((upE_ne (by decide)).trans upE_eq))))))))))
    | 8, _ => exact ((upE_ne (by decide)).trans ((mixE_out (by decide)).trans ((upE_ne (by decide)).trans ((upE_ne (by decide)).trans ((upE_ne (by decide)).trans ((upE_ne (by decide)).trans ((upE_ne (by decide)).trans ((upE_ne (by decide)).trans upE_eq))))))))
    | 9, _ => exact ((upE_ne (by decide)).trans ((mixE_out (by decide)).trans ((upE_ne (by decide)).trans ((upE_ne (by decide)).trans ((upE_ne (by decide)).trans ((upE_ne (by decide)).trans upE_eq))))))
    | 10, _ => exact ((upE_ne (by decide)).trans ((mixE_out (by decide)).trans ((upE_ne (by decide)).trans ((upE_ne (by decide)).trans upE_eq))))
    | 11, _ => exact ((upE_ne (by decide)).trans (mixE_in (by decide) (by decide)))
    | 12, _ => exact ((upE_ne (by decide)).trans (mixE_in (by decide) (by decide)))
    | 13, _ => exact ((upE_ne (by decide)).trans (mixE_in (by decide) (by decide)))
    | 14, _ => exact ((upE_ne (by decide)).trans (mixE_in (by decide) (by decide)))
    | 15, _ => exact ((upE_ne (by decide)).trans (mixE_in (by decide) (by decide)))
    | _ + 16, h => exact absurd h (by omega)))⟩
set_option maxHeartbeats 4000000 in
theorem tok_loop {G : Gx} {Post : Option Value → Wn → Prop} : ∀ (n t : Nat) {E1 : Nat → va_E}, t + n = 21 → E1 20 = .inl (G.2.2.1 0, 21, .inl (wE t)) → E1 19 = .inr (8, [.ref (G.2.2.2 + 1), .ref (G.2.2.2 + 20), .int (iZ 0), .int (iZ 0), .int (iZ 0), .int (iZ 0), .int (iZ 0), .int (iZ 0), .int (iZ 0)]) → K G (nR 6 1 21) mX8_init kT (kQ G Post 1 21) (21, upE E1 20 (.inl (G.2.2.1 0, 21, .inl (fun i : Nat => iZ (wv i)))), 0) 1 21 75 [some (.ref (G.2.2.2 + 19)), some (.ref (G.2.2.2 + 1)), some (.int (iZ 21)), none] [] → K G (nR 6 1 21) mX8_init kT (kQ G Post 1 21) (21, E1, 0) 1 21 19 [some (.ref (G.2.2.2 + 19)), some (.ref (G.2.2.2 + 1)), some (.int (iZ t)), none] [] := by
  intro n
  induction n with
  | zero =>
    intro t E1 ht hw hk kf
    have ht : t = 21 := by omega
    subst ht
    rw [wE_21] at hw
    rw [upE_self hw] at kf
    refine k_iload_n (q := 20) (i := 2) dX8_init_19 rfl rfl rfl ?_
    refine k_bipush (q := 22) dX8_init_20 rfl (by decide) ?_
    refine k_icmp_ge (q := 25) (tgt := 75) dX8_init_22 rfl (by decide) (fun c22 => ?_) (fun c22 => by exfalso; omega)
    exact kf
  | succ n ih =>
    intro t E1 ht hw hk kf
    refine k_iload_n (q := 20) (i := 2) dX8_init_19 rfl rfl rfl ?_
    refine k_bipush (q := 22) dX8_init_20 rfl (by decide) ?_
    refine k_icmp_ge (q := 25) (tgt := 75) dX8_init_22 rfl (by decide) (fun c22 => by exfalso; omega) (fun c22 => ?_)
    refine k_iload_n (q := 26) (i := 2) dX8_init_25 rfl rfl rfl ?_
    refine k_bipush (q := 28) dX8_init_26 rfl (by decide) ?_
    refine k_icmp_lt (q := 31) (tgt := 35) dX8_init_28 rfl (by decide) (fun c28 => ?_) (fun c28 => ?_)
    · refine k_iconst (q := 36) dX8_init_35 rfl ?_
      refine k_istore_n (q := 37) (i := 3) (L' := [_, _, _, _]) dX8_init_36 rfl rfl (by decide) rfl rfl ?_
      refine k_aload_n (q := 38) (i := 0) dX8_init_37 rfl rfl rfl ?_
      refine k_get (q := 41) (n := 21) (fs := [.ref (G.2.2.2 + 1), .ref (G.2.2.2 + 20), .int (iZ 0), .int (iZ 0), .int (iZ 0), .int (iZ 0), .int (iZ 0), .int (iZ 0), .int (iZ 0)]) dX8_init_38 rfl fg_X8_15 (by decide) hk rfl ?_
      refine k_iload_n (q := 42) (i := 2) dX8_init_41 rfl rfl rfl ?_
      refine k_iload_n (q := 43) (i := 3) dX8_init_42 rfl rfl rfl ?_
      refine k_if_eq (q := 46) (tgt := 51) dX8_init_43 rfl (by decide) (fun c43 => ?_) (fun c43 => by exfalso; exact absurd rfl c43)
      refine k_ldcS (q := 53) (i := 1) dX8_init_51 rfl rfl ?_
      refine k_iload_n (q := 54) (i := 3) dX8_init_53 rfl rfl rfl ?_
      refine k_if_eq (q := 57) (tgt := 64) dX8_init_54 rfl (by decide) (fun c54 => ?_) (fun c54 => by exfalso; exact absurd rfl c54)
      refine k_iload_n (q := 65) (i := 2) dX8_init_64 rfl rfl rfl ?_
      refine k_Sip (q := 68) (vs := [_, _]) ok_X8_packedWord ml_X8_23 dX8_init_65 rfl rfl rfl (Nat.le_of_ble_eq_true rfl) (by decide) (n_packedWord (Or.inl rfl) (by omega) (by show _ ≤ ((66 : Nat) : Int); omega)) ?_
      rw [show pwA 1 t 6 = wv t by
        have := pw_wv t (by omega)
        rw [if_pos (by omega), if_pos (by omega)] at this
        exact this]
      refine k_iast (q := 69) dX8_init_68 rfl (by decide) hw (by omega) (by omega) (by decide) ?_
      rw [show ((t : Nat) : Int).toNat = t by omega, wE_up]
      refine k_iinc (q := 72) (L' := [_, _, _, _]) dX8_init_69 rfl rfl (by decide) rfl rfl ?_
      refine k_goto (tgt := 19) dX8_init_72 (by decide) ?_
      exact k_sub _ (fun i v h => by rcases i with _ | _ | _ | _ | i <;> first | exact h | cases h) (ih (t + 1) (by omega) upE_eq ((upE_ne (by decide)).trans hk) (by rw [upE_up]; exact kf))
    · refine k_iconst (q := 32) dX8_init_31 rfl ?_
      refine k_goto (tgt := 36) dX8_init_32 (by decide) ?_
      refine k_istore_n (q := 37) (i := 3) (L' := [_, _, _, _]) dX8_init_36 rfl rfl (by decide) rfl rfl ?_
      refine k_aload_n (q := 38) (i := 0) dX8_init_37 rfl rfl rfl ?_
      refine k_get (q := 41) (n := 21) (fs := [.ref (G.2.2.2 + 1), .ref (G.2.2.2 + 20), .int (iZ 0), .int (iZ 0), .int (iZ 0), .int (iZ 0), .int (iZ 0), .int (iZ 0), .int (iZ 0)]) dX8_init_38 rfl fg_X8_15 (by decide) hk rfl ?_
      refine k_iload_n (q := 42) (i := 2) dX8_init_41 rfl rfl rfl ?_
      refine k_iload_n (q := 43) (i := 3) dX8_init_42 rfl rfl rfl ?_
      refine k_if_eq (q := 46) (tgt := 51) dX8_init_43 rfl (by decide) (fun c43 => by exfalso; exact absurd c43 (by decide)) (fun c43 => ?_)
      refine k_ldcS (q := 48) (i := 2) dX8_init_46 rfl rfl ?_
      refine k_goto (tgt := 53) dX8_init_48 (by decide) ?_
      refine k_iload_n (q := 54) (i := 3) dX8_init_53 rfl rfl rfl ?_
      refine k_if_eq (q := 57) (tgt := 64) dX8_init_54 rfl (by decide) (fun c54 => by exfalso; exact absurd c54 (by decide)) (fun c54 => ?_)
      refine k_iload_n (q := 58) (i := 2) dX8_init_57 rfl rfl rfl ?_
      refine k_bipush (q := 60) dX8_init_58 rfl (by decide) ?_
      refine k_isub (q := 61) dX8_init_60 rfl ?_
      refine k_goto (tgt := 65) dX8_init_61 (by decide) ?_
      refine k_Sip (q := 68) (vs := [_, _]) ok_X8_packedWord ml_X8_23 dX8_init_65 rfl rfl rfl (Nat.le_of_ble_eq_true rfl) (by decide) (n_packedWord (Or.inr rfl) (by omega) (by show _ ≤ ((60 : Nat) : Int); omega)) ?_
      rw [show pwA 2 (t - 11) 6 = wv t by
        have := pw_wv t (by omega)
        rw [if_neg (by omega), if_neg (by omega)] at this
        exact this]
      refine k_iast (q := 69) dX8_init_68 rfl (by decide) hw (by omega) (by omega) (by decide) ?_
      rw [show ((t : Nat) : Int).toNat = t by omega, wE_up]
      refine k_iinc (q := 72) (L' := [_, _, _, _]) dX8_init_69 rfl rfl (by decide) rfl rfl ?_
      refine k_goto (tgt := 19) dX8_init_72 (by decide) ?_
      exact k_sub _ (fun i v h => by rcases i with _ | _ | _ | _ | i <;> first | exact h | cases h) (ih (t + 1) (by omega) upE_eq ((upE_ne (by decide)).trans hk) (by rw [upE_up]; exact kf))
set_option maxHeartbeats 4000000 in
theorem i_X8_19 {G : Gx} {E : Nat → va_E} (hE : E 19 = .inr (8, [.null, .null, .int (iZ 0), .int (iZ 0), .int (iZ 0), .int (iZ 0), .int (iZ 0), .int (iZ 0), .int (iZ 0)])) : CKn G 6 1 21 mX8_init [.ref (G.2.2.2 + 19), .ref (G.2.2.2 + 1)] (20, E, 0) (nM G E 19 1) := by
  refine k_entry om_X8_init (Nat.le_of_ble_eq_true rfl) (L := [some (.ref (G.2.2.2 + 19)), some (.ref (G.2.2.2 + 1)), none, none]) rfl ?_
  refine k_aload_n (q := 1) (i := 0) dX8_init_0 rfl rfl rfl ?_
  refine k_objInit (q := 4) dX8_init_1 rfl oi_X8 (Nat.le_of_ble_eq_true rfl) (by decide) (by decide) ?_
  refine k_aload_n (q := 5) (i := 0) dX8_init_4 rfl rfl rfl ?_
  refine k_aload_n (q := 6) (i := 1) dX8_init_5 rfl rfl rfl ?_
  refine k_putG (q := 9) (n := 20) (fs := [.null, .null, .int (iZ 0), .int (iZ 0), .int (iZ 0), .int (iZ 0), .int (iZ 0), .int (iZ 0), .int (iZ 0)]) (Or.inl rfl) dX8_init_6 rfl fx_X8_11 (by decide) hE (Nat.le_of_ble_eq_true rfl) rfl rfl ?_
  refine k_aload_n (q := 10) (i := 0) dX8_init_9 rfl rfl rfl ?_
  refine k_bipush (q := 12) dX8_init_10 rfl (by decide) ?_
  refine k_newaN (t := 0) (N := 21) (nz := 21) (q := 14) (n := 20) (n' := 21) (kc' := 1) (ks' := 21) dX8_init_12 rfl (by decide) rfl (by decide) (by decide) (by decide) rfl rfl rfl ?_
  refine k_putG (q := 17) (n := 21) (fs := [.ref (G.2.2.2 + 1), .null, .int (iZ 0), .int (iZ 0), .int (iZ 0), .int (iZ 0), .int (iZ 0), .int (iZ 0), .int (iZ 0)]) (Or.inl rfl) dX8_init_14 rfl fx_X8_15 (by decide) ((upE_ne (by decide)).trans upE_eq) (Nat.le_of_ble_eq_true rfl) rfl rfl ?_
  refine k_iconst (q := 18) dX8_init_17 rfl ?_
  refine k_istore_n (q := 19) (i := 2) (L' := [_, _, _, _]) dX8_init_18 rfl rfl (by decide) rfl rfl ?_
  refine tok_loop 21 0 rfl ((((upE_ne (by decide)).trans upE_eq)).trans (by rw [wE_0]; rfl)) upE_eq ?_
  refine k_aload_n (q := 76) (i := 0) dX8_init_75 rfl rfl rfl ?_
  refine k_iconst (q := 77) dX8_init_76 rfl ?_
  refine k_putG (q := 80) (n := 21) (fs := [.ref (G.2.2.2 + 1), .ref (G.2.2.2 + 20), .int (iZ 0), .int (iZ 0), .int (iZ 0), .int (iZ 0), .int (iZ 0), .int (iZ 0), .int (iZ 0)]) (Or.inl rfl) dX8_init_77 rfl fx_X8_27 (by decide) ((upE_ne (by decide)).trans upE_eq) (Nat.le_of_ble_eq_true rfl) rfl rfl ?_
  exact k_rv dX8_init_80 rfl ⟨rfl, congrArg (fun f => ((21, f, 0) : Wn)) (mix_ext (m := 1) (fun j hj => by simp (disch := omega) only [upE_ne, mixE_out']) (fun j hj => by simp (disch := omega) only [upE_ne, mixE_out']) (fun i hi => by
    match i, hi with
    | 0, _ => exact upE_eq
    | 1, _ => exact ((upE_ne (by decide)).trans upE_eq)
    | _ + 2, h => exact absurd h (by omega)))⟩
set_option maxHeartbeats 4000000 in
theorem i_X7_21 {G : Gx} {E : Nat → va_E} (hE : E 21 = .inr (7, [.null, .null, .int (iZ 0), .int (iZ 0), .int (iZ 0)])) : CKn G 1 1 72 mX7_init [.ref (G.2.2.2 + 21), .ref (G.2.2.2 + 19)] (22, E, 0) (nM G E 21 1) := by
  refine k_entry om_X7_init (Nat.le_of_ble_eq_true rfl) (L := [some (.ref (G.2.2.2 + 21)), some (.ref (G.2.2.2 + 19))]) rfl ?_
  refine k_aload_n (q := 1) (i := 0) dX7_init_0 rfl rfl rfl ?_
  refine k_objInit (q := 4) dX7_init_1 rfl oi_X7 (Nat.le_of_ble_eq_true rfl) (by decide) (by decide) ?_
  refine k_aload_n (q := 5) (i := 0) dX7_init_4 rfl rfl rfl ?_
  refine k_aload_n (q := 6) (i := 1) dX7_init_5 rfl rfl rfl ?_
  refine k_putG (q := 9) (n := 22) (fs := [.null, .null, .int (iZ 0), .int (iZ 0), .int (iZ 0)]) (Or.inl rfl) dX7_init_6 rfl fx_X7_9 (by decide) hE (Nat.le_of_ble_eq_true rfl) rfl rfl ?_
  refine k_aload_n (q := 10) (i := 0) dX7_init_9 rfl rfl rfl ?_
  refine k_bipush (q := 12) dX7_init_10 rfl (by decide) ?_
  refine k_newaN (t := 0) (N := 72) (nz := 72) (q := 14) (n := 22) (n' := 23) (kc' := 1) (ks' := 72) dX7_init_12 rfl (by decide) rfl (by decide) (by decide) (by decide) rfl rfl rfl ?_
  refine k_putG (q := 17) (n := 23) (fs := [.ref (G.2.2.2 + 19), .null, .int (iZ 0), .int (iZ 0), .int (iZ 0)]) (Or.inl rfl) dX7_init_14 rfl fx_X7_17 (by decide) ((upE_ne (by decide)).trans upE_eq) (Nat.le_of_ble_eq_true rfl) rfl rfl ?_
  exact k_rv dX7_init_17 rfl ⟨rfl, congrArg (fun f => ((23, f, 0) : Wn)) (mix_ext (m := 1) (fun j hj => by simp (disch := omega) only [upE_ne, mixE_out']) (fun j hj => by simp (disch := omega) only [upE_ne, mixE_out']) (fun i hi => by
    match i, hi with
    | 0, _ => exact upE_eq
    | 1, _ => exact ((upE_ne (by decide)).trans upE_eq)
    | _ + 2, h => exact absurd h (by omega)))⟩
set_option maxHeartbeats 4000000 in
theorem i_X3_34 {G : Gx} {E : Nat → va_E} (hE : E 34 = .inr (3, [.null, .null, .null, .null, .int (iZ 0)])) : CKn G 1 4 134 mX3_init [.ref (G.2.2.2 + 34)] (35, E, 0) (nM G E 34 4) := by
  refine k_entry om_X3_init (Nat.le_of_ble_eq_true rfl) (L := [some (.ref (G.2.2.2 + 34))]) rfl ?_
  refine k_aload_n (q := 1) (i := 0) dX3_init_0 rfl rfl rfl ?_
  refine k_objInit (q := 4) dX3_init_1 rfl oi_X3 (Nat.le_of_ble_eq_true rfl) (by decide) (by decide) ?_
  refine k_aload_n (q := 5) (i := 0) dX3_init_4 rfl rfl rfl ?_
  refine k_bipush (q := 7) dX3_init_5 rfl (by decide) ?_
  refine k_newaN (t := 0) (N := 64) (nz := 64) (q := 9) (n := 35) (n' := 36) (kc' := 1) (ks' := 64) dX3_init_7 rfl (by decide) rfl (by decide) (by decide) (by decide) rfl rfl rfl ?_
  refine k_putG (q := 12) (n := 36) (fs := [.null, .null, .null, .null, .int (iZ 0)]) (Or.inl rfl) dX3_init_9 rfl fx_X3_11 (by decide) ((upE_ne (by decide)).trans hE) (Nat.le_of_ble_eq_true rfl) rfl rfl ?_
  refine k_aload_n (q := 13) (i := 0) dX3_init_12 rfl rfl rfl ?_
  refine k_iconst (q := 14) dX3_init_13 rfl ?_
  refine k_newaN (t := 0) (N := 3) (nz := 3) (q := 16) (n := 36) (n' := 37) (kc' := 2) (ks' := 67) dX3_init_14 rfl (by decide) rfl (by decide) (by decide) (by decide) rfl rfl rfl ?_
  refine k_putG (q := 19) (n := 37) (fs := [.ref (G.2.2.2 + 35), .null, .null, .null, .int (iZ 0)]) (Or.inl rfl) dX3_init_16 rfl fx_X3_15 (by decide) ((upE_ne (by decide)).trans upE_eq) (Nat.le_of_ble_eq_true rfl) rfl rfl ?_
  refine k_aload_n (q := 20) (i := 0) dX3_init_19 rfl rfl rfl ?_
  refine k_iconst (q := 21) dX3_init_20 rfl ?_
  refine k_newaN (t := 0) (N := 3) (nz := 3) (q := 23) (n := 37) (n' := 38) (kc' := 3) (ks' := 70) dX3_init_21 rfl (by decide) rfl (by decide) (by decide) (by decide) rfl rfl rfl ?_
  refine k_putG (q := 26) (n := 38) (fs := [.ref (G.2.2.2 + 35), .ref (G.2.2.2 + 36), .null, .null, .int (iZ 0)]) (Or.inl rfl) dX3_init_23 rfl fx_X3_18 (by decide) ((upE_ne (by decide)).trans upE_eq) (Nat.le_of_ble_eq_true rfl) rfl rfl ?_
  refine k_aload_n (q := 27) (i := 0) dX3_init_26 rfl rfl rfl ?_
  refine k_bipush (q := 29) dX3_init_27 rfl (by decide) ?_
  refine k_newaN (t := 1) (N := 64) (nz := 64) (q := 31) (n := 38) (n' := 39) (kc' := 4) (ks' := 134) dX3_init_29 rfl (by decide) rfl (by decide) (by decide) (by decide) rfl rfl rfl ?_
  refine k_putG (q := 34) (n := 39) (fs := [.ref (G.2.2.2 + 35), .ref (G.2.2.2 + 36), .ref (G.2.2.2 + 37), .null, .int (iZ 0)]) (Or.inl rfl) dX3_init_31 rfl fx_X3_21 (by decide) ((upE_ne (by decide)).trans upE_eq) (Nat.le_of_ble_eq_true rfl) rfl rfl ?_
  exact k_rv dX3_init_34 rfl ⟨rfl, congrArg (fun f => ((39, f, 0) : Wn)) (mix_ext (m := 4) (fun j hj => by simp (disch := omega) only [upE_ne, mixE_out']) (fun j hj => by simp (disch := omega) only [upE_ne, mixE_out']) (fun i hi => by
    match i, hi with
    | 0, _ => exact upE_eq
    | 1, _ => exact ((upE_ne (by decide)).trans ((upE_ne (by decide)).trans ((upE_ne (by decide)).trans ((upE_ne (by decide)).trans ((upE_ne (by decide)).trans ((upE_ne (by decide)).trans ((upE_ne (by decide)).trans upE_eq)))))))
    | 2, _ => exact ((upE_ne (by decide)).trans ((upE_ne (by decide)).trans ((upE_ne (by decide)).trans ((upE_ne (by decide)).trans ((upE_ne (by decide)).trans upE_eq)))))
    | 3, _ => exact ((upE_ne (by decide)).trans ((upE_ne (by decide)).trans ((upE_ne (by decide)).trans upE_eq)))
    | 4, _ => exact ((upE_ne (by decide)).trans upE_eq)
    | _ + 5, h => exact absurd h (by omega)))⟩
set_option maxHeartbeats 4000000 in
theorem i_X9_23 {G : Gx} {E : Nat → va_E} (hE : E 23 = .inr (9, [.int (iZ 0), .int (iZ 0), .int (iZ 0), .int (iZ 0), .int (iZ 0), .int (iZ 0), .int (iZ 0), .int (iZ 0), .null, .null, .null, .null, .null, .null, .null, .null, .null, .null, .null])) : CKn G 2 15 221 mX9_init [.ref (G.2.2.2 + 23)] (24, E, 0) (nM G E 23 15) := by
  refine k_entry om_X9_init (Nat.le_of_ble_eq_true rfl) (L := [some (.ref (G.2.2.2 + 23))]) rfl ?_
  refine k_aload_n (q := 1) (i := 0) dX9_init_0 rfl rfl rfl ?_
  refine k_objInit (q := 4) dX9_init_1 rfl oi_X9 (Nat.le_of_ble_eq_true rfl) (by decide) (by decide) ?_
  refine k_aload_n (q := 5) (i := 0) dX9_init_4 rfl rfl rfl ?_
  refine k_bipush (q := 7) dX9_init_5 rfl (by decide) ?_
  refine k_putG (q := 10) (n := 24) (fs := [.int (iZ 0), .int (iZ 0), .int (iZ 0), .int (iZ 0), .int (iZ 0), .int (iZ 0), .int (iZ 0), .int (iZ 0), .null, .null, .null, .null, .null, .null, .null, .null, .null, .null, .null]) (Or.inl rfl) dX9_init_7 rfl fx_X9_9 (by decide) hE (Nat.le_of_ble_eq_true rfl) rfl rfl ?_
  refine k_aload_n (q := 11) (i := 0) dX9_init_10 rfl rfl rfl ?_
  refine k_iconst (q := 12) dX9_init_11 rfl ?_
  refine k_putG (q := 15) (n := 24) (fs := [.int (iZ 20), .int (iZ 0), .int (iZ 0), .int (iZ 0), .int (iZ 0), .int (iZ 0), .int (iZ 0), .int (iZ 0), .null, .null, .null, .null, .null, .null, .null, .null, .null, .null, .null]) (Or.inl rfl) dX9_init_12 rfl fx_X9_15 (by decide) upE_eq (Nat.le_of_ble_eq_true rfl) rfl rfl ?_
  refine k_aload_n (q := 16) (i := 0) dX9_init_15 rfl rfl rfl ?_
  refine k_iconst (q := 17) dX9_init_16 rfl ?_
  refine k_newaN (t := 0) (N := 4) (nz := 4) (q := 19) (n := 24) (n' := 25) (kc' := 1) (ks' := 4) dX9_init_17 rfl (by decide) rfl (by decide) (by decide) (by decide) rfl rfl rfl ?_
  refine k_putG (q := 22) (n := 25) (fs := [.int (iZ 20), .int (iZ 0), .int (iZ 0), .int (iZ 0), .int (iZ 0), .int (iZ (-1)), .int (iZ 0), .int (iZ 0), .null, .null, .null, .null, .null, .null, .null, .null, .null, .null, .null]) (Or.inl rfl) dX9_init_19 rfl fx_X9_18 (by decide) ((upE_ne (by decide)).trans upE_eq) (Nat.le_of_ble_eq_true rfl) rfl rfl ?_
  refine k_aload_n (q := 23) (i := 0) dX9_init_22 rfl rfl rfl ?_
  refine k_iconst (q := 24) dX9_init_23 rfl ?_
  refine k_newaN (t := 0) (N := 4) (nz := 4) (q := 26) (n := 25) (n' := 26) (kc' := 2) (ks' := 8) dX9_init_24 rfl (by decide) rfl (by decide) (by decide) (by decide) rfl rfl rfl ?_
  refine k_putG (q := 29) (n := 26) (fs := [.int (iZ 20), .int (iZ 0), .int (iZ 0), .int (iZ 0), .int (iZ 0), .int (iZ (-1)), .int (iZ 0), .int (iZ 0), .ref (G.2.2.2 + 24), .null, .null, .null, .null, .null, .null, .null, .null, .null, .null]) (Or.inl rfl) dX9_init_26 rfl fx_X9_22 (by decide) ((upE_ne (by decide)).trans upE_eq) (Nat.le_of_ble_eq_true rfl) rfl rfl ?_
  refine k_aload_n (q := 30) (i := 0) dX9_init_29 rfl rfl rfl ?_
  refine k_iconst (q := 31) dX9_init_30 rfl ?_
  refine k_newaN (t := 0) (N := 4) (nz := 4) (q := 33) (n := 26) (n' := 27) (kc' := 3) (ks' := 12) dX9_init_31 rfl (by decide) rfl (by decide) (by decide) (by decide) rfl rfl rfl ?_
  refine k_putG (q := 36) (n := 27) (fs := [.int (iZ 20), .int (iZ 0), .int (iZ 0), .int (iZ 0), .int (iZ 0), .int (iZ (-1)), .int (iZ 0), .int (iZ 0), .ref (G.2.2.2 + 24), .ref (G.2.2.2 + 25), .null, .null, .null, .null, .null, .null, .null, .null, .null]) (Or.inl rfl) dX9_init_33 rfl fx_X9_25 (by decide) ((upE_ne (by decide)).trans upE_eq) (Nat.le_of_ble_eq_true rfl) rfl rfl ?_
  refine k_aload_n (q := 37) (i := 0) dX9_init_36 rfl rfl rfl ?_
  refine k_bipush (q := 39) dX9_init_37 rfl (by decide) ?_
  refine k_newaN (t := 0) (N := 6) (nz := 6) (q := 41) (n := 27) (n' := 28) (kc' := 4) (ks' := 18) dX9_init_39 rfl (by decide) rfl (by decide) (by decide) (by decide) rfl rfl rfl ?_
  refine k_putG (q := 44) (n := 28) (fs := [.int (iZ 20), .int (iZ 0), .int (iZ 0), .int (iZ 0), .int (iZ 0), .int (iZ (-1)), .int (iZ 0), .int (iZ 0), .ref (G.2.2.2 + 24), .ref (G.2.2.2 + 25), .ref (G.2.2.2 + 26), .null, .null, .null, .null, .null, .null, .null, .null]) (Or.inl rfl) dX9_init_41 rfl fx_X9_28 (by decide) ((upE_ne (by decide)).trans upE_eq) (Nat.le_of_ble_eq_true rfl) rfl rfl ?_
  refine k_aload_n (q := 45) (i := 0) dX9_init_44 rfl rfl rfl ?_
  refine k_bipush (q := 47) dX9_init_45 rfl (by decide) ?_
  refine k_newaN (t := 0) (N := 6) (nz := 6) (q := 49) (n := 28) (n' := 29) (kc' := 5) (ks' := 24) dX9_init_47 rfl (by decide) rfl (by decide) (by decide) (by decide) rfl rfl rfl ?_
  refine k_putG (q := 52) (n := 29) (fs := [.int (iZ 20), .int (iZ 0), .int (iZ 0), .int (iZ 0), .int (iZ 0), .int (iZ (-1)), .int (iZ 0), .int (iZ 0), .ref (G.2.2.2 + 24), .ref (G.2.2.2 + 25), .ref (G.2.2.2 + 26), .ref (G.2.2.2 + 27), .null, .null, .null, .null, .null, .null, .null]) (Or.inl rfl) dX9_init_49 rfl fx_X9_31 (by decide) ((upE_ne (by decide)).trans upE_eq) (Nat.le_of_ble_eq_true rfl) rfl rfl ?_
  refine k_aload_n (q := 53) (i := 0) dX9_init_52 rfl rfl rfl ?_
  refine k_bipush (q := 55) dX9_init_53 rfl (by decide) ?_
  refine k_newaN (t := 0) (N := 6) (nz := 6) (q := 57) (n := 29) (n' := 30) (kc' := 6) (ks' := 30) dX9_init_55 rfl (by decide) rfl (by decide) (by decide) (by decide) rfl rfl rfl ?_
  refine k_putG (q := 60) (n := 30) (fs := [.int (iZ 20), .int (iZ 0), .int (iZ 0), .int (iZ 0), .int (iZ 0), .int (iZ (-1)), .int (iZ 0), .int (iZ 0), .ref (G.2.2.2 + 24), .ref (G.2.2.2 + 25), .ref (G.2.2.2 + 26), .ref (G.2.2.2 + 27), .ref (G.2.2.2 + 28), .null, .null, .null, .null, .null, .null]) (Or.inl rfl) dX9_init_57 rfl fx_X9_34 (by decide) ((upE_ne (by decide)).trans upE_eq) (Nat.le_of_ble_eq_true rfl) rfl rfl ?_
  refine k_aload_n (q := 61) (i := 0) dX9_init_60 rfl rfl rfl ?_
  refine k_bipush (q := 63) dX9_init_61 rfl (by decide) ?_
  refine k_newaN (t := 0) (N := 12) (nz := 12) (q := 65) (n := 30) (n' := 31) (kc' := 7) (ks' := 42) dX9_init_63 rfl (by decide) rfl (by decide) (by decide) (by decide) rfl rfl rfl ?_
  refine k_putG (q := 68) (n := 31) (fs := [.int (iZ 20), .int (iZ 0), .int (iZ 0), .int (iZ 0), .int (iZ 0), .int (iZ (-1)), .int (iZ 0), .int (iZ 0), .ref (G.2.2.2 + 24), .ref (G.2.2.2 + 25), .ref (G.2.2.2 + 26), .ref (G.2.2.2 + 27), .ref (G.2.2.2 + 28), .ref (G.2.2.2 + 29), .null, .null, .null, .null, .null]) (Or.inl rfl) dX9_init_65 rfl fx_X9_37 (by decide) ((upE_ne (by decide)).trans upE_eq) (Nat.le_of_ble_eq_true rfl) rfl rfl ?_
  refine k_aload_n (q := 69) (i := 0) dX9_init_68 rfl rfl rfl ?_
  refine k_bipush (q := 71) dX9_init_69 rfl (by decide) ?_
  refine k_newaN (t := 0) (N := 12) (nz := 12) (q := 73) (n := 31) (n' := 32) (kc' := 8) (ks' := 54) dX9_init_71 rfl (by decide) rfl (by decide) (by decide) (by decide) rfl rfl rfl ?_
  refine k_putG (q := 76) (n := 32) (fs := [.int (iZ 20), .int (iZ 0), .int (iZ 0), .int (iZ 0), .int (iZ 0), .int (iZ (-1)), .int (iZ 0), .int (iZ 0), .ref (G.2.2.2 + 24), .ref (G.2.2.2 + 25), .ref (G.2.2.2 + 26), .ref (G.2.2.2 + 27), .ref (G.2.2.2 + 28), .ref (G.2.2.2 + 29), .ref (G.2.2.2 + 30), .null, .null, .null, .null]) (Or.inl rfl) dX9_init_73 rfl fx_X9_40 (by decide) ((upE_ne (by decide)).trans upE_eq) (Nat.le_of_ble_eq_true rfl) rfl rfl ?_
  refine k_aload_n (q := 77) (i := 0) dX9_init_76 rfl rfl rfl ?_
  refine k_bipush (q := 79) dX9_init_77 rfl (by decide) ?_
  refine k_newaN (t := 0) (N := 12) (nz := 12) (q := 81) (n := 32) (n' := 33) (kc' := 9) (ks' := 66) dX9_init_79 rfl (by decide) rfl (by decide) (by decide) (by decide) rfl rfl rfl ?_
  refine k_putG (q := 84) (n := 33) (fs := [.int (iZ 20), .int (iZ 0), .int (iZ 0), .int (iZ 0), .int (iZ 0), .int (iZ (-1)), .int (iZ 0), .int (iZ 0), .ref (G.2.2.2 + 24), .ref (G.2.2.2 + 25), .ref (G.2.2.2 + 26), .ref (G.2.2.2 + 27), .ref (G.2.2.2 + 28), .ref (G.2.2.2 + 29), .ref (G.2.2.2 + 30), .ref (G.2.2.2 + 31), .null, .null, .null]) (Or.inl rfl) dX9_init_81 rfl fx_X9_43 (by decide) ((upE_ne (by decide)).trans upE_eq) (Nat.le_of_ble_eq_true rfl) rfl rfl ?_
  refine k_aload_n (q := 85) (i := 0) dX9_init_84 rfl rfl rfl ?_
  refine k_bipush (q := 87) dX9_init_85 rfl (by decide) ?_
  refine k_newaN (t := 0) (N := 16) (nz := 16) (q := 89) (n := 33) (n' := 34) (kc' := 10) (ks' := 82) dX9_init_87 rfl (by decide) rfl (by decide) (by decide) (by decide) rfl rfl rfl ?_
  refine k_putG (q := 92) (n := 34) (fs := [.int (iZ 20), .int (iZ 0), .int (iZ 0), .int (iZ 0), .int (iZ 0), .int (iZ (-1)), .int (iZ 0), .int (iZ 0), .ref (G.2.2.2 + 24), .ref (G.2.2.2 + 25), .ref (G.2.2.2 + 26), .ref (G.2.2.2 + 27), .ref (G.2.2.2 + 28), .ref (G.2.2.2 + 29), .ref (G.2.2.2 + 30), .ref (G.2.2.2 + 31), .ref (G.2.2.2 + 32), .null, .null]) (Or.inl rfl) dX9_init_89 rfl fx_X9_46 (by decide) ((upE_ne (by decide)).trans upE_eq) (Nat.le_of_ble_eq_true rfl) rfl rfl ?_
  refine k_aload_n (q := 93) (i := 0) dX9_init_92 rfl rfl rfl ?_
  refine k_newN (q := 96) (n := 34) (n' := 35) (kc' := 11) (ks' := 87) dX9_init_93 rfl fn_X9_49 (by decide) (by decide) rfl rfl rfl ?_
  refine k_dup (q := 97) dX9_init_96 rfl rfl ?_
  refine k_callN (q := 100) (vs := []) (b := 34) (kc' := 15) (ks' := 221) om_X3_init rfl rfl im_X3 ml_X9_51 dX9_init_97 rfl rfl rfl (Nat.le_of_ble_eq_true rfl) (by decide) (by decide) (by decide) (by decide) (i_X3_34 upE_eq) rfl rfl ?_
  refine k_putG (q := 103) (n := 39) (fs := [.int (iZ 20), .int (iZ 0), .int (iZ 0), .int (iZ 0), .int (iZ 0), .int (iZ (-1)), .int (iZ 0), .int (iZ 0), .ref (G.2.2.2 + 24), .ref (G.2.2.2 + 25), .ref (G.2.2.2 + 26), .ref (G.2.2.2 + 27), .ref (G.2.2.2 + 28), .ref (G.2.2.2 + 29), .ref (G.2.2.2 + 30), .ref (G.2.2.2 + 31), .ref (G.2.2.2 + 32), .ref (G.2.2.2 + 33), .null]) (Or.inl rfl) dX9_init_100 rfl fx_X9_52 (by decide) ((mixE_out (by decide)).trans ((upE_ne (by decide)).trans upE_eq)) (Nat.le_of_ble_eq_true rfl) rfl rfl ?_
  exact k_rv dX9_init_103 rfl ⟨rfl, congrArg (fun f => ((39, f, 0) : Wn)) (mix_ext (m := 15) (fun j hj => by simp (disch := omega) only [upE_ne, mixE_out']) (fun j hj => by simp (disch := omega) only [upE_ne, mixE_out']) (fun i hi => by
    match i, hi with
    | 0, _ => exact upE_eq
    | 1, _ => exact ((upE_ne (by decide)).trans ((mixE_out (by decide)).trans ((upE_ne (by decide)).trans ((upE_ne (by decide)).trans ((upE_ne (by decide)).trans ((upE_ne (by decide)).trans ((upE_ne (by decide)).trans ((upE_ne (by decide)).trans ((upE_ne (by decide)).trans ((upE_ne (by decide)).trans ((upE_ne (by decide)).trans ((upE_ne (by decide)).trans ((upE_ne (by decide)).trans ((upE_ne (by decide)).trans ((upE_ne (by decide)).trans ((upE_ne (by decide)).trans ((upE_ne (by decide)).trans ((upE_ne (by decide)).trans ((upE_ne (by decide)).trans ((upE_ne (by decide)).trans ((upE_ne (by decide)).trans ((upE_ne (by decide)).trans upE_eq))))))))))))))))))))))
    | 2, _ => exact ((upE_ne (by decide)).trans ((mixE_out (by decide)).trans ((upE_ne (by decide)).trans ((upE_ne (by decide)).trans ((upE_ne (by decide)).trans ((upE_ne (by decide)).trans ((upE_ne (by decide)).trans ((upE_ne (by decide)).trans ((upE_ne (by decide)).trans ((upE_ne (by decide)).trans ((upE_ne (by decide)).trans ((upE_ne (by decide)).trans ((upE_ne (by decide)).trans ((upE_ne (by decide)).trans ((upE_ne (by decide)).trans ((upE_ne (by decide)).trans ((upE_ne (by decide)).trans ((upE_ne (by decide)).trans ((upE_ne (by decide)).trans ((upE_ne (by decide)).trans upE_eq))))))))))))))))))))
    | 3, _ => exact ((upE_ne (by decide)).trans ((mixE_out (by decide)).trans ((upE_ne (by decide)).trans ((upE_ne (by decide)).trans ((upE_ne (by decide)).trans ((upE_ne (by decide)).trans ((upE_ne (by decide)).trans ((upE_ne (by decide)).trans ((upE_ne (by decide)).trans ((upE_ne (by decide)).trans ((upE_ne (by decide)).trans ((upE_ne (by decide)).trans ((upE_ne (by decide)).trans ((upE_ne (by decide)).trans ((upE_ne (by decide)).trans ((upE_ne (by decide)).trans ((upE_ne (by decide)).trans ((upE_ne (by decide)).trans upE_eq))))))))))))))))))
    | 4, _ => exact ((upE_ne (by decide)).trans ((mixE_out (by decide)).trans ((upE_ne (by decide)).trans ((upE_ne (by decide)).trans ((upE_ne (by decide)).trans ((upE_ne (by decide)).trans ((upE_ne (by decide)).trans ((upE_ne (by decide)).trans ((upE_ne (by decide)).trans ((upE_ne (by decide)).trans ((upE_ne (by decide)).trans ((upE_ne (by decide)).trans ((upE_ne (by decide)).trans ((upE_ne (by decide)).trans ((upE_ne (by decide)).trans ((upE_ne (by decide)).trans upE_eq))))))))))))))))
    | 5, _ => exact ((upE_ne (by decide)).trans ((mixE_out (by decide)).trans ((upE_ne (by decide)).trans ((upE_ne (by decide)).trans ((upE_ne (by decide)).trans ((upE_ne (by decide)).trans ((upE_ne (by decide)).trans ((upE_ne (by decide)).trans ((upE_ne (by decide)).trans ((upE_ne (by decide)).trans ((upE_ne (by decide)).trans ((upE_ne (by decide)).trans ((upE_ne (by decide)).trans ((upE_ne (by decide)).trans upE_eq))))))))))))))
    | 6, _ => exact ((upE_ne (by decide)).trans ((mixE_out (by decide)).trans ((upE_ne (by decide)).trans ((upE_ne (by decide)).trans ((upE_ne (by decide)).trans ((upE_ne (by decide)).trans ((upE_ne (by decide)).trans ((upE_ne (by decide)).trans ((upE_ne (by decide)).trans ((upE_ne (by decide)).trans ((upE_ne (by decide)).trans ((upE_ne (by decide)).trans upE_eq))))))))))))
    | 7, _ => exact ((upE_ne (by decide)).trans ((mixE_out (by decide)).trans ((upE_ne (by decide)).trans ((upE_ne (by decide)).trans ((upE_ne (by decide)).trans ((upE_ne (by decide)).trans ((upE_ne (by decide)).trans ((upE_ne (by decide)).trans ((upE_ne (by decide)).trans ((upE_ne (by decide)).trans upE_eq))))))))))
    | 8, _ => exact ((upE_ne (by decide)).trans ((mixE_out (by decide)).trans ((upE_ne (by decide)).trans ((upE_ne (by decide)).trans ((upE_ne (by decide)).trans ((upE_ne (by decide)).trans ((upE_ne (by decide)).trans ((upE_ne (by decide)).trans upE_eq))))))))
    | 9, _ => exact ((upE_ne (by decide)).trans ((mixE_out (by decide)).trans ((upE_ne (by decide)).trans ((upE_ne (by decide)).trans ((upE_ne (by decide)).trans ((upE_ne (by decide)).trans upE_eq))))))
    | 10, _ => exact ((upE_ne (by decide)).trans ((mixE_out (by decide)).trans ((upE_ne (by decide)).trans ((upE_ne (by decide)).trans upE_eq))))
    | 11, _ => exact ((upE_ne (by decide)).trans (mixE_in (by decide) (by decide)))
    | 12, _ => exact ((upE_ne (by decide)).trans (mixE_in (by decide) (by decide)))
    | 13, _ => exact ((upE_ne (by decide)).trans (mixE_in (by decide) (by decide)))
    | 14, _ => exact ((upE_ne (by decide)).trans (mixE_in (by decide) (by decide)))
    | 15, _ => exact ((upE_ne (by decide)).trans (mixE_in (by decide) (by decide)))
    | _ + 16, h => exact absurd h (by omega)))⟩
set_option maxHeartbeats 4000000 in
theorem i_X5_18 {G : Gx} {E : Nat → va_E} (hE : E 18 = .inr (5, [.null, .null, .null, .int (iZ 0), .int (iZ 0)])) : CKn G 7 20 347 mX5_init [.ref (G.2.2.2 + 18), .ref (G.2.2.2 + 1)] (19, E, 0) (nM G E 18 20) := by
  refine k_entry om_X5_init (Nat.le_of_ble_eq_true rfl) (L := [some (.ref (G.2.2.2 + 18)), some (.ref (G.2.2.2 + 1))]) rfl ?_
  refine k_aload_n (q := 1) (i := 0) dX5_init_0 rfl rfl rfl ?_
  refine k_objInit (q := 4) dX5_init_1 rfl oi_X5 (Nat.le_of_ble_eq_true rfl) (by decide) (by decide) ?_
  refine k_aload_n (q := 5) (i := 0) dX5_init_4 rfl rfl rfl ?_
  refine k_newN (q := 8) (n := 19) (n' := 20) (kc' := 1) (ks' := 9) dX5_init_5 rfl fn_X5_9 (by decide) (by decide) rfl rfl rfl ?_
  refine k_dup (q := 9) dX5_init_8 rfl rfl ?_
  refine k_aload_n (q := 10) (i := 1) dX5_init_9 rfl rfl rfl ?_
  refine k_callN (q := 13) (vs := [.ref (G.2.2.2 + 1)]) (b := 19) (kc' := 2) (ks' := 30) om_X8_init rfl rfl im_X8 ml_X5_11 dX5_init_10 rfl rfl rfl (Nat.le_of_ble_eq_true rfl) (by decide) (by decide) (by decide) (by decide) (i_X8_19 upE_eq) rfl rfl ?_
  refine k_putG (q := 16) (n := 21) (fs := [.null, .null, .null, .int (iZ 0), .int (iZ 0)]) (Or.inl rfl) dX5_init_13 rfl fx_X5_14 (by decide) ((mixE_out (by decide)).trans ((upE_ne (by decide)).trans hE)) (Nat.le_of_ble_eq_true rfl) rfl rfl ?_
  refine k_aload_n (q := 17) (i := 0) dX5_init_16 rfl rfl rfl ?_
  refine k_newN (q := 20) (n := 21) (n' := 22) (kc' := 3) (ks' := 35) dX5_init_17 rfl fn_X5_20 (by decide) (by decide) rfl rfl rfl ?_
  refine k_dup (q := 21) dX5_init_20 rfl rfl ?_
  refine k_aload_n (q := 22) (i := 0) dX5_init_21 rfl rfl rfl ?_
  refine k_get (q := 25) (n := 22) (fs := [.ref (G.2.2.2 + 19), .null, .null, .int (iZ 0), .int (iZ 0)]) dX5_init_22 rfl fg_X5_14 (by decide) ((upE_ne (by decide)).trans upE_eq) rfl ?_
  refine k_callN (q := 28) (vs := [.ref (G.2.2.2 + 19)]) (b := 21) (kc' := 4) (ks' := 107) om_X7_init rfl rfl im_X7 ml_X5_22 dX5_init_25 rfl rfl rfl (Nat.le_of_ble_eq_true rfl) (by decide) (by decide) (by decide) (by decide) (i_X7_21 upE_eq) rfl rfl ?_
  refine k_putG (q := 31) (n := 23) (fs := [.ref (G.2.2.2 + 19), .null, .null, .int (iZ 0), .int (iZ 0)]) (Or.inl rfl) dX5_init_28 rfl fx_X5_25 (by decide) ((mixE_out (by decide)).trans ((upE_ne (by decide)).trans upE_eq)) (Nat.le_of_ble_eq_true rfl) rfl rfl ?_
  refine k_aload_n (q := 32) (i := 0) dX5_init_31 rfl rfl rfl ?_
  refine k_newN (q := 35) (n := 23) (n' := 24) (kc' := 5) (ks' := 126) dX5_init_32 rfl fn_X5_29 (by decide) (by decide) rfl rfl rfl ?_
  refine k_dup (q := 36) dX5_init_35 rfl rfl ?_
  refine k_callN (q := 39) (vs := []) (b := 23) (kc' := 20) (ks' := 347) om_X9_init rfl rfl im_X9 ml_X5_31 dX5_init_36 rfl rfl rfl (Nat.le_of_ble_eq_true rfl) (by decide) (by decide) (by decide) (by decide) (i_X9_23 upE_eq) rfl rfl ?_
  refine k_putG (q := 42) (n := 39) (fs := [.ref (G.2.2.2 + 19), .ref (G.2.2.2 + 21), .null, .int (iZ 0), .int (iZ 0)]) (Or.inl rfl) dX5_init_39 rfl fx_X5_32 (by decide) ((mixE_out (by decide)).trans ((upE_ne (by decide)).trans upE_eq)) (Nat.le_of_ble_eq_true rfl) rfl rfl ?_
  exact k_rv dX5_init_42 rfl ⟨rfl, congrArg (fun f => ((39, f, 0) : Wn)) (mix_ext (m := 20) (fun j hj => by simp (disch := omega) only [upE_ne, mixE_out']) (fun j hj => by simp (disch := omega) only [upE_ne, mixE_out']) (fun i hi => by
    match i, hi with
    | 0, _ => exact upE_eq
    | 1, _ => exact ((upE_ne (by decide)).trans ((mixE_out (by decide)).trans ((upE_ne (by decide)).trans ((upE_ne (by decide)).trans ((mixE_out (by decide)).trans ((upE_ne (by decide)).trans ((upE_ne (by decide)).trans (mixE_in (by decide) (by decide)))))))))
    | 2, _ => exact ((upE_ne (by decide)).trans ((mixE_out (by decide)).trans ((upE_ne (by decide)).trans ((upE_ne (by decide)).trans ((mixE_out (by decide)).trans ((upE_ne (by decide)).trans ((upE_ne (by decide)).trans (mixE_in (by decide) (by decide)))))))))
    | 3, _ => exact ((upE_ne (by decide)).trans ((mixE_out (by decide)).trans ((upE_ne (by decide)).trans ((upE_ne (by decide)).trans (mixE_in (by decide) (by decide))))))
    | 4, _ => exact ((upE_ne (by decide)).trans ((mixE_out (by decide)).trans ((upE_ne (by decide)).trans ((upE_ne (by decide)).trans (mixE_in (by decide) (by decide))))))
    | 5, _ => exact ((upE_ne (by decide)).trans (mixE_in (by decide) (by decide)))
    | 6, _ => exact ((upE_ne (by decide)).trans (mixE_in (by decide) (by decide)))
    | 7, _ => exact ((upE_ne (by decide)).trans (mixE_in (by decide) (by decide)))
    | 8, _ => exact ((upE_ne (by decide)).trans (mixE_in (by decide) (by decide)))
    | 9, _ => exact ((upE_ne (by decide)).trans (mixE_in (by decide) (by decide)))
    | 10, _ => exact ((upE_ne (by decide)).trans (mixE_in (by decide) (by decide)))
    | 11, _ => exact ((upE_ne (by decide)).trans (mixE_in (by decide) (by decide)))
    | 12, _ => exact ((upE_ne (by decide)).trans (mixE_in (by decide) (by decide)))
    | 13, _ => exact ((upE_ne (by decide)).trans (mixE_in (by decide) (by decide)))
    | 14, _ => exact ((upE_ne (by decide)).trans (mixE_in (by decide) (by decide)))
    | 15, _ => exact ((upE_ne (by decide)).trans (mixE_in (by decide) (by decide)))
    | 16, _ => exact ((upE_ne (by decide)).trans (mixE_in (by decide) (by decide)))
    | 17, _ => exact ((upE_ne (by decide)).trans (mixE_in (by decide) (by decide)))
    | 18, _ => exact ((upE_ne (by decide)).trans (mixE_in (by decide) (by decide)))
    | 19, _ => exact ((upE_ne (by decide)).trans (mixE_in (by decide) (by decide)))
    | 20, _ => exact ((upE_ne (by decide)).trans (mixE_in (by decide) (by decide)))
    | _ + 21, h => exact absurd h (by omega)))⟩
set_option maxHeartbeats 4000000 in
theorem i_X2_39 {G : Gx} {E : Nat → va_E} (hE : E 39 = .inr (2, [.null, .null, .null, .null, .null, .int (iZ 0), .int (iZ 0), .long (lZ 0), .int (iZ 0), .int (iZ 0), .int (iZ 0)])) : CKn G 1 4 44 mX2_init [.ref (G.2.2.2 + 39), .ref (G.2.2.2 + 2)] (40, E, 0) (nM G E 39 4) := by
  refine k_entry om_X2_init (Nat.le_of_ble_eq_true rfl) (L := [some (.ref (G.2.2.2 + 39)), some (.ref (G.2.2.2 + 2))]) rfl ?_
  refine k_aload_n (q := 1) (i := 0) dX2_init_0 rfl rfl rfl ?_
  refine k_objInit (q := 4) dX2_init_1 rfl oi_X2 (Nat.le_of_ble_eq_true rfl) (by decide) (by decide) ?_
  refine k_aload_n (q := 5) (i := 0) dX2_init_4 rfl rfl rfl ?_
  refine k_aload_n (q := 6) (i := 1) dX2_init_5 rfl rfl rfl ?_
  refine k_putG (q := 9) (n := 40) (fs := [.null, .null, .null, .null, .null, .int (iZ 0), .int (iZ 0), .long (lZ 0), .int (iZ 0), .int (iZ 0), .int (iZ 0)]) (Or.inl rfl) dX2_init_6 rfl fx_X2_9 (by decide) hE (Nat.le_of_ble_eq_true rfl) rfl rfl ?_
  refine k_aload_n (q := 10) (i := 0) dX2_init_9 rfl rfl rfl ?_
  refine k_bipush (q := 12) dX2_init_10 rfl (by decide) ?_
  refine k_newaN (t := 0) (N := 16) (nz := 16) (q := 14) (n := 40) (n' := 41) (kc' := 1) (ks' := 16) dX2_init_12 rfl (by decide) rfl (by decide) (by decide) (by decide) rfl rfl rfl ?_
  refine k_putG (q := 17) (n := 41) (fs := [.ref (G.2.2.2 + 2), .null, .null, .null, .null, .int (iZ 0), .int (iZ 0), .long (lZ 0), .int (iZ 0), .int (iZ 0), .int (iZ 0)]) (Or.inl rfl) dX2_init_14 rfl fx_X2_15 (by decide) ((upE_ne (by decide)).trans upE_eq) (Nat.le_of_ble_eq_true rfl) rfl rfl ?_
  refine k_aload_n (q := 18) (i := 0) dX2_init_17 rfl rfl rfl ?_
  refine k_bipush (q := 20) dX2_init_18 rfl (by decide) ?_
  refine k_newaN (t := 0) (N := 16) (nz := 16) (q := 22) (n := 41) (n' := 42) (kc' := 2) (ks' := 32) dX2_init_20 rfl (by decide) rfl (by decide) (by decide) (by decide) rfl rfl rfl ?_
  refine k_putG (q := 25) (n := 42) (fs := [.ref (G.2.2.2 + 2), .ref (G.2.2.2 + 40), .null, .null, .null, .int (iZ 0), .int (iZ 0), .long (lZ 0), .int (iZ 0), .int (iZ 0), .int (iZ 0)]) (Or.inl rfl) dX2_init_22 rfl fx_X2_19 (by decide) ((upE_ne (by decide)).trans upE_eq) (Nat.le_of_ble_eq_true rfl) rfl rfl ?_
  refine k_aload_n (q := 26) (i := 0) dX2_init_25 rfl rfl rfl ?_
  refine k_bipush (q := 28) dX2_init_26 rfl (by decide) ?_
  refine k_newaN (t := 0) (N := 6) (nz := 6) (q := 30) (n := 42) (n' := 43) (kc' := 3) (ks' := 38) dX2_init_28 rfl (by decide) rfl (by decide) (by decide) (by decide) rfl rfl rfl ?_
  refine k_putG (q := 33) (n := 43) (fs := [.ref (G.2.2.2 + 2), .ref (G.2.2.2 + 40), .ref (G.2.2.2 + 41), .null, .null, .int (iZ 0), .int (iZ 0), .long (lZ 0), .int (iZ 0), .int (iZ 0), .int (iZ 0)]) (Or.inl rfl) dX2_init_30 rfl fx_X2_22 (by decide) ((upE_ne (by decide)).trans upE_eq) (Nat.le_of_ble_eq_true rfl) rfl rfl ?_
  refine k_aload_n (q := 34) (i := 0) dX2_init_33 rfl rfl rfl ?_
  refine k_bipush (q := 36) dX2_init_34 rfl (by decide) ?_
  refine k_newaN (t := 0) (N := 6) (nz := 6) (q := 38) (n := 43) (n' := 44) (kc' := 4) (ks' := 44) dX2_init_36 rfl (by decide) rfl (by decide) (by decide) (by decide) rfl rfl rfl ?_
  refine k_putG (q := 41) (n := 44) (fs := [.ref (G.2.2.2 + 2), .ref (G.2.2.2 + 40), .ref (G.2.2.2 + 41), .ref (G.2.2.2 + 42), .null, .int (iZ 0), .int (iZ 0), .long (lZ 0), .int (iZ 0), .int (iZ 0), .int (iZ 0)]) (Or.inl rfl) dX2_init_38 rfl fx_X2_25 (by decide) ((upE_ne (by decide)).trans upE_eq) (Nat.le_of_ble_eq_true rfl) rfl rfl ?_
  refine k_aload_n (q := 42) (i := 0) dX2_init_41 rfl rfl rfl ?_
  refine k_iconst (q := 43) dX2_init_42 rfl ?_
  refine k_putG (q := 46) (n := 44) (fs := [.ref (G.2.2.2 + 2), .ref (G.2.2.2 + 40), .ref (G.2.2.2 + 41), .ref (G.2.2.2 + 42), .ref (G.2.2.2 + 43), .int (iZ 0), .int (iZ 0), .long (lZ 0), .int (iZ 0), .int (iZ 0), .int (iZ 0)]) (Or.inl rfl) dX2_init_43 rfl fx_X2_28 (by decide) upE_eq (Nat.le_of_ble_eq_true rfl) rfl rfl ?_
  exact k_rv dX2_init_46 rfl ⟨rfl, congrArg (fun f => ((44, f, 0) : Wn)) (mix_ext (m := 4) (fun j hj => by simp (disch := omega) only [upE_ne, mixE_out']) (fun j hj => by simp (disch := omega) only [upE_ne, mixE_out']) (fun i hi => by
    match i, hi with
    | 0, _ => exact upE_eq
    | 1, _ => exact ((upE_ne (by decide)).trans ((upE_ne (by decide)).trans ((upE_ne (by decide)).trans ((upE_ne (by decide)).trans ((upE_ne (by decide)).trans ((upE_ne (by decide)).trans ((upE_ne (by decide)).trans ((upE_ne (by decide)).trans upE_eq))))))))
    | 2, _ => exact ((upE_ne (by decide)).trans ((upE_ne (by decide)).trans ((upE_ne (by decide)).trans ((upE_ne (by decide)).trans ((upE_ne (by decide)).trans ((upE_ne (by decide)).trans upE_eq))))))
    | 3, _ => exact ((upE_ne (by decide)).trans ((upE_ne (by decide)).trans ((upE_ne (by decide)).trans ((upE_ne (by decide)).trans upE_eq))))
    | 4, _ => exact ((upE_ne (by decide)).trans ((upE_ne (by decide)).trans upE_eq))
    | _ + 5, h => exact absurd h (by omega)))⟩
set_option maxHeartbeats 4000000 in
theorem i_X2_44 {G : Gx} {E : Nat → va_E} (hE : E 44 = .inr (2, [.null, .null, .null, .null, .null, .int (iZ 0), .int (iZ 0), .long (lZ 0), .int (iZ 0), .int (iZ 0), .int (iZ 0)])) : CKn G 1 4 44 mX2_init [.ref (G.2.2.2 + 44), .ref (G.2.2.2 + 2)] (45, E, 0) (nM G E 44 4) := by
  refine k_entry om_X2_init (Nat.le_of_ble_eq_true rfl) (L := [some (.ref (G.2.2.2 + 44)), some (.ref (G.2.2.2 + 2))]) rfl ?_
  refine k_aload_n (q := 1) (i := 0) dX2_init_0 rfl rfl rfl ?_
  refine k_objInit (q := 4) dX2_init_1 rfl oi_X2 (Nat.le_of_ble_eq_true rfl) (by decide) (by decide) ?_
  refine k_aload_n (q := 5) (i := 0) dX2_init_4 rfl rfl rfl ?_
  refine k_aload_n (q := 6) (i := 1) dX2_init_5 rfl rfl rfl ?_
  refine k_putG (q := 9) (n := 45) (fs := [.null, .null, .null, .null, .null, .int (iZ 0), .int (iZ 0), .long (lZ 0), .int (iZ 0), .int (iZ 0), .int (iZ 0)]) (Or.inl rfl) dX2_init_6 rfl fx_X2_9 (by decide) hE (Nat.le_of_ble_eq_true rfl) rfl rfl ?_
  refine k_aload_n (q := 10) (i := 0) dX2_init_9 rfl rfl rfl ?_
  refine k_bipush (q := 12) dX2_init_10 rfl (by decide) ?_
  refine k_newaN (t := 0) (N := 16) (nz := 16) (q := 14) (n := 45) (n' := 46) (kc' := 1) (ks' := 16) dX2_init_12 rfl (by decide) rfl (by decide) (by decide) (by decide) rfl rfl rfl ?_
  refine k_putG (q := 17) (n := 46) (fs := [.ref (G.2.2.2 + 2), .null, .null, .null, .null, .int (iZ 0), .int (iZ 0), .long (lZ 0), .int (iZ 0), .int (iZ 0), .int (iZ 0)]) (Or.inl rfl) dX2_init_14 rfl fx_X2_15 (by decide) ((upE_ne (by decide)).trans upE_eq) (Nat.le_of_ble_eq_true rfl) rfl rfl ?_
  refine k_aload_n (q := 18) (i := 0) dX2_init_17 rfl rfl rfl ?_
  refine k_bipush (q := 20) dX2_init_18 rfl (by decide) ?_
  refine k_newaN (t := 0) (N := 16) (nz := 16) (q := 22) (n := 46) (n' := 47) (kc' := 2) (ks' := 32) dX2_init_20 rfl (by decide) rfl (by decide) (by decide) (by decide) rfl rfl rfl ?_
  refine k_putG (q := 25) (n := 47) (fs := [.ref (G.2.2.2 + 2), .ref (G.2.2.2 + 45), .null, .null, .null, .int (iZ 0), .int (iZ 0), .long (lZ 0), .int (iZ 0), .int (iZ 0), .int (iZ 0)]) (Or.inl rfl) dX2_init_22 rfl fx_X2_19 (by decide) ((upE_ne (by decide)).trans upE_eq) (Nat.le_of_ble_eq_true rfl) rfl rfl ?_
  refine k_aload_n (q := 26) (i := 0) dX2_init_25 rfl rfl rfl ?_
  refine k_bipush (q := 28) dX2_init_26 rfl (by decide) ?_
  refine k_newaN (t := 0) (N := 6) (nz := 6) (q := 30) (n := 47) (n' := 48) (kc' := 3) (ks' := 38) dX2_init_28 rfl (by decide) rfl (by decide) (by decide) (by decide) rfl rfl rfl ?_
  refine k_putG (q := 33) (n := 48) (fs := [.ref (G.2.2.2 + 2), .ref (G.2.2.2 + 45), .ref (G.2.2.2 + 46), .null, .null, .int (iZ 0), .int (iZ 0), .long (lZ 0), .int (iZ 0), .int (iZ 0), .int (iZ 0)]) (Or.inl rfl) dX2_init_30 rfl fx_X2_22 (by decide) ((upE_ne (by decide)).trans upE_eq) (Nat.le_of_ble_eq_true rfl) rfl rfl ?_
  refine k_aload_n (q := 34) (i := 0) dX2_init_33 rfl rfl rfl ?_
  refine k_bipush (q := 36) dX2_init_34 rfl (by decide) ?_
  refine k_newaN (t := 0) (N := 6) (nz := 6) (q := 38) (n := 48) (n' := 49) (kc' := 4) (ks' := 44) dX2_init_36 rfl (by decide) rfl (by decide) (by decide) (by decide) rfl rfl rfl ?_
  refine k_putG (q := 41) (n := 49) (fs := [.ref (G.2.2.2 + 2), .ref (G.2.2.2 + 45), .ref (G.2.2.2 + 46), .ref (G.2.2.2 + 47), .null, .int (iZ 0), .int (iZ 0), .long (lZ 0), .int (iZ 0), .int (iZ 0), .int (iZ 0)]) (Or.inl rfl) dX2_init_38 rfl fx_X2_25 (by decide) ((upE_ne (by decide)).trans upE_eq) (Nat.le_of_ble_eq_true rfl) rfl rfl ?_
  refine k_aload_n (q := 42) (i := 0) dX2_init_41 rfl rfl rfl ?_
  refine k_iconst (q := 43) dX2_init_42 rfl ?_
  refine k_putG (q := 46) (n := 49) (fs := [.ref (G.2.2.2 + 2), .ref (G.2.2.2 + 45), .ref (G.2.2.2 + 46), .ref (G.2.2.2 + 47), .ref (G.2.2.2 + 48), .int (iZ 0), .int (iZ 0), .long (lZ 0), .int (iZ 0), .int (iZ 0), .int (iZ 0)]) (Or.inl rfl) dX2_init_43 rfl fx_X2_28 (by decide) upE_eq (Nat.le_of_ble_eq_true rfl) rfl rfl ?_
  exact k_rv dX2_init_46 rfl ⟨rfl, congrArg (fun f => ((49, f, 0) : Wn)) (mix_ext (m := 4) (fun j hj => by simp (disch := omega) only [upE_ne, mixE_out']) (fun j hj => by simp (disch := omega) only [upE_ne, mixE_out']) (fun i hi => by
    match i, hi with
    | 0, _ => exact upE_eq
    | 1, _ => exact ((upE_ne (by decide)).trans ((upE_ne (by decide)).trans ((upE_ne (by decide)).trans ((upE_ne (by decide)).trans ((upE_ne (by decide)).trans ((upE_ne (by decide)).trans ((upE_ne (by decide)).trans ((upE_ne (by decide)).trans upE_eq))))))))
    | 2, _ => exact ((upE_ne (by decide)).trans ((upE_ne (by decide)).trans ((upE_ne (by decide)).trans ((upE_ne (by decide)).trans ((upE_ne (by decide)).trans ((upE_ne (by decide)).trans upE_eq))))))
    | 3, _ => exact ((upE_ne (by decide)).trans ((upE_ne (by decide)).trans ((upE_ne (by decide)).trans ((upE_ne (by decide)).trans upE_eq))))
    | 4, _ => exact ((upE_ne (by decide)).trans ((upE_ne (by decide)).trans upE_eq))
    | _ + 5, h => exact absurd h (by omega)))⟩
set_option maxHeartbeats 4000000 in
theorem i_X2_49 {G : Gx} {E : Nat → va_E} (hE : E 49 = .inr (2, [.null, .null, .null, .null, .null, .int (iZ 0), .int (iZ 0), .long (lZ 0), .int (iZ 0), .int (iZ 0), .int (iZ 0)])) : CKn G 1 4 44 mX2_init [.ref (G.2.2.2 + 49), .ref (G.2.2.2 + 2)] (50, E, 0) (nM G E 49 4) := by
  refine k_entry om_X2_init (Nat.le_of_ble_eq_true rfl) (L := [some (.ref (G.2.2.2 + 49)), some (.ref (G.2.2.2 + 2))]) rfl ?_
  refine k_aload_n (q := 1) (i := 0) dX2_init_0 rfl rfl rfl ?_
  refine k_objInit (q := 4) dX2_init_1 rfl oi_X2 (Nat.le_of_ble_eq_true rfl) (by decide) (by decide) ?_
  refine k_aload_n (q := 5) (i := 0) dX2_init_4 rfl rfl rfl ?_
  refine k_aload_n (q := 6) (i := 1) dX2_init_5 rfl rfl rfl ?_
  refine k_putG (q := 9) (n := 50) (fs := [.null, .null, .null, .null, .null, .int (iZ 0), .int (iZ 0), .long (lZ 0), .int (iZ 0), .int (iZ 0), .int (iZ 0)]) (Or.inl rfl) dX2_init_6 rfl fx_X2_9 (by decide) hE (Nat.le_of_ble_eq_true rfl) rfl rfl ?_
  refine k_aload_n (q := 10) (i := 0) dX2_init_9 rfl rfl rfl ?_
  refine k_bipush (q := 12) dX2_init_10 rfl (by decide) ?_
  refine k_newaN (t := 0) (N := 16) (nz := 16) (q := 14) (n := 50) (n' := 51) (kc' := 1) (ks' := 16) dX2_init_12 rfl (by decide) rfl (by decide) (by decide) (by decide) rfl rfl rfl ?_
  refine k_putG (q := 17) (n := 51) (fs := [.ref (G.2.2.2 + 2), .null, .null, .null, .null, .int (iZ 0), .int (iZ 0), .long (lZ 0), .int (iZ 0), .int (iZ 0), .int (iZ 0)]) (Or.inl rfl) dX2_init_14 rfl fx_X2_15 (by decide) ((upE_ne (by decide)).trans upE_eq) (Nat.le_of_ble_eq_true rfl) rfl rfl ?_
  refine k_aload_n (q := 18) (i := 0) dX2_init_17 rfl rfl rfl ?_
  refine k_bipush (q := 20) dX2_init_18 rfl (by decide) ?_
  refine k_newaN (t := 0) (N := 16) (nz := 16) (q := 22) (n := 51) (n' := 52) (kc' := 2) (ks' := 32) dX2_init_20 rfl (by decide) rfl (by decide) (by decide) (by decide) rfl rfl rfl ?_
  refine k_putG (q := 25) (n := 52) (fs := [.ref (G.2.2.2 + 2), .ref (G.2.2.2 + 50), .null, .null, .null, .int (iZ 0), .int (iZ 0), .long (lZ 0), .int (iZ 0), .int (iZ 0), .int (iZ 0)]) (Or.inl rfl) dX2_init_22 rfl fx_X2_19 (by decide) ((upE_ne (by decide)).trans upE_eq) (Nat.le_of_ble_eq_true rfl) rfl rfl ?_
  refine k_aload_n (q := 26) (i := 0) dX2_init_25 rfl rfl rfl ?_
  refine k_bipush (q := 28) dX2_init_26 rfl (by decide) ?_
  refine k_newaN (t := 0) (N := 6) (nz := 6) (q := 30) (n := 52) (n' := 53) (kc' := 3) (ks' := 38) dX2_init_28 rfl (by decide) rfl (by decide) (by decide) (by decide) rfl rfl rfl ?_
  refine k_putG (q := 33) (n := 53) (fs := [.ref (G.2.2.2 + 2), .ref (G.2.2.2 + 50), .ref (G.2.2.2 + 51), .null, .null, .int (iZ 0), .int (iZ 0), .long (lZ 0), .int (iZ 0), .int (iZ 0), .int (iZ 0)]) (Or.inl rfl) dX2_init_30 rfl fx_X2_22 (by decide) ((upE_ne (by decide)).trans upE_eq) (Nat.le_of_ble_eq_true rfl) rfl rfl ?_
  refine k_aload_n (q := 34) (i := 0) dX2_init_33 rfl rfl rfl ?_
  refine k_bipush (q := 36) dX2_init_34 rfl (by decide) ?_
  refine k_newaN (t := 0) (N := 6) (nz := 6) (q := 38) (n := 53) (n' := 54) (kc' := 4) (ks' := 44) dX2_init_36 rfl (by decide) rfl (by decide) (by decide) (by decide) rfl rfl rfl ?_
  refine k_putG (q := 41) (n := 54) (fs := [.ref (G.2.2.2 + 2), .ref (G.2.2.2 + 50), .ref (G.2.2.2 + 51), .ref (G.2.2.2 + 52), .null, .int (iZ 0), .int (iZ 0), .long (lZ 0), .int (iZ 0), .int (iZ 0), .int (iZ 0)]) (Or.inl rfl) dX2_init_38 rfl fx_X2_25 (by decide) ((upE_ne (by decide)).trans upE_eq) (Nat.le_of_ble_eq_true rfl) rfl rfl ?_
  refine k_aload_n (q := 42) (i := 0) dX2_init_41 rfl rfl rfl ?_
  refine k_iconst (q := 43) dX2_init_42 rfl ?_
  refine k_putG (q := 46) (n := 54) (fs := [.ref (G.2.2.2 + 2), .ref (G.2.2.2 + 50), .ref (G.2.2.2 + 51), .ref (G.2.2.2 + 52), .ref (G.2.2.2 + 53), .int (iZ 0), .int (iZ 0), .long (lZ 0), .int (iZ 0), .int (iZ 0), .int (iZ 0)]) (Or.inl rfl) dX2_init_43 rfl fx_X2_28 (by decide) upE_eq (Nat.le_of_ble_eq_true rfl) rfl rfl ?_
  exact k_rv dX2_init_46 rfl ⟨rfl, congrArg (fun f => ((54, f, 0) : Wn)) (mix_ext (m := 4) (fun j hj => by simp (disch := omega) only [upE_ne, mixE_out']) (fun j hj => by simp (disch := omega) only [upE_ne, mixE_out']) (fun i hi => by
    match i, hi with
    | 0, _ => exact upE_eq
    | 1, _ => exact ((upE_ne (by decide)).trans ((upE_ne (by decide)).trans ((upE_ne (by decide)).trans ((upE_ne (by decide)).trans ((upE_ne (by decide)).trans ((upE_ne (by decide)).trans ((upE_ne (by decide)).trans ((upE_ne (by decide)).trans upE_eq))))))))
    | 2, _ => exact ((upE_ne (by decide)).trans ((upE_ne (by decide)).trans ((upE_ne (by decide)).trans ((upE_ne (by decide)).trans ((upE_ne (by decide)).trans ((upE_ne (by decide)).trans upE_eq))))))
    | 3, _ => exact ((upE_ne (by decide)).trans ((upE_ne (by decide)).trans ((upE_ne (by decide)).trans ((upE_ne (by decide)).trans upE_eq))))
    | 4, _ => exact ((upE_ne (by decide)).trans ((upE_ne (by decide)).trans upE_eq))
    | _ + 5, h => exact absurd h (by omega)))⟩
set_option maxHeartbeats 4000000 in
theorem i_X10_54 {G : Gx} {E : Nat → va_E} (hE : E 54 = .inr (10, [.null, .null])) : CKn G 1 1 7 mX10_init [.ref (G.2.2.2 + 54), .ref (G.2.2.2 + 2)] (55, E, 0) (nM G E 54 1) := by
  refine k_entry om_X10_init (Nat.le_of_ble_eq_true rfl) (L := [some (.ref (G.2.2.2 + 54)), some (.ref (G.2.2.2 + 2))]) rfl ?_
  refine k_aload_n (q := 1) (i := 0) dX10_init_0 rfl rfl rfl ?_
  refine k_objInit (q := 4) dX10_init_1 rfl oi_X10 (Nat.le_of_ble_eq_true rfl) (by decide) (by decide) ?_
  refine k_aload_n (q := 5) (i := 0) dX10_init_4 rfl rfl rfl ?_
  refine k_aload_n (q := 6) (i := 1) dX10_init_5 rfl rfl rfl ?_
  refine k_putG (q := 9) (n := 55) (fs := [.null, .null]) (Or.inl rfl) dX10_init_6 rfl fx_X10_9 (by decide) hE (Nat.le_of_ble_eq_true rfl) rfl rfl ?_
  refine k_aload_n (q := 10) (i := 0) dX10_init_9 rfl rfl rfl ?_
  refine k_bipush (q := 12) dX10_init_10 rfl (by decide) ?_
  refine k_newaN (t := 1) (N := 7) (nz := 7) (q := 14) (n := 55) (n' := 56) (kc' := 1) (ks' := 7) dX10_init_12 rfl (by decide) rfl (by decide) (by decide) (by decide) rfl rfl rfl ?_
  refine k_putG (q := 17) (n := 56) (fs := [.ref (G.2.2.2 + 2), .null]) (Or.inl rfl) dX10_init_14 rfl fx_X10_17 (by decide) ((upE_ne (by decide)).trans upE_eq) (Nat.le_of_ble_eq_true rfl) rfl rfl ?_
  exact k_rv dX10_init_17 rfl ⟨rfl, congrArg (fun f => ((56, f, 0) : Wn)) (mix_ext (m := 1) (fun j hj => by simp (disch := omega) only [upE_ne, mixE_out']) (fun j hj => by simp (disch := omega) only [upE_ne, mixE_out']) (fun i hi => by
    match i, hi with
    | 0, _ => exact upE_eq
    | 1, _ => exact ((upE_ne (by decide)).trans upE_eq)
    | _ + 2, h => exact absurd h (by omega)))⟩
set_option maxHeartbeats 4000000 in
theorem i_X0_56 {G : Gx} {E : Nat → va_E} (hE : E 56 = .inr (0, [.null, .null, .null, .null, .null, .int (iZ 0), .int (iZ 0)])) : CKn G 1 5 100 mX0_init [.ref (G.2.2.2 + 56)] (57, E, 0) (nM G E 56 5) := by
  refine k_entry om_X0_init (Nat.le_of_ble_eq_true rfl) (L := [some (.ref (G.2.2.2 + 56))]) rfl ?_
  refine k_aload_n (q := 1) (i := 0) dX0_init_0 rfl rfl rfl ?_
  refine k_objInit (q := 4) dX0_init_1 rfl oi_X0 (Nat.le_of_ble_eq_true rfl) (by decide) (by decide) ?_
  refine k_aload_n (q := 5) (i := 0) dX0_init_4 rfl rfl rfl ?_
  refine k_bipush (q := 7) dX0_init_5 rfl (by decide) ?_
  refine k_newaN (t := 0) (N := 20) (nz := 20) (q := 9) (n := 57) (n' := 58) (kc' := 1) (ks' := 20) dX0_init_7 rfl (by decide) rfl (by decide) (by decide) (by decide) rfl rfl rfl ?_
  refine k_putG (q := 12) (n := 58) (fs := [.null, .null, .null, .null, .null, .int (iZ 0), .int (iZ 0)]) (Or.inl rfl) dX0_init_9 rfl fx_X0_11 (by decide) ((upE_ne (by decide)).trans hE) (Nat.le_of_ble_eq_true rfl) rfl rfl ?_
  refine k_aload_n (q := 13) (i := 0) dX0_init_12 rfl rfl rfl ?_
  refine k_bipush (q := 15) dX0_init_13 rfl (by decide) ?_
  refine k_newaN (t := 0) (N := 20) (nz := 20) (q := 17) (n := 58) (n' := 59) (kc' := 2) (ks' := 40) dX0_init_15 rfl (by decide) rfl (by decide) (by decide) (by decide) rfl rfl rfl ?_
  refine k_putG (q := 20) (n := 59) (fs := [.ref (G.2.2.2 + 57), .null, .null, .null, .null, .int (iZ 0), .int (iZ 0)]) (Or.inl rfl) dX0_init_17 rfl fx_X0_15 (by decide) ((upE_ne (by decide)).trans upE_eq) (Nat.le_of_ble_eq_true rfl) rfl rfl ?_
  refine k_aload_n (q := 21) (i := 0) dX0_init_20 rfl rfl rfl ?_
  refine k_bipush (q := 23) dX0_init_21 rfl (by decide) ?_
  refine k_newaN (t := 0) (N := 20) (nz := 20) (q := 25) (n := 59) (n' := 60) (kc' := 3) (ks' := 60) dX0_init_23 rfl (by decide) rfl (by decide) (by decide) (by decide) rfl rfl rfl ?_
  refine k_putG (q := 28) (n := 60) (fs := [.ref (G.2.2.2 + 57), .ref (G.2.2.2 + 58), .null, .null, .null, .int (iZ 0), .int (iZ 0)]) (Or.inl rfl) dX0_init_25 rfl fx_X0_18 (by decide) ((upE_ne (by decide)).trans upE_eq) (Nat.le_of_ble_eq_true rfl) rfl rfl ?_
  refine k_aload_n (q := 29) (i := 0) dX0_init_28 rfl rfl rfl ?_
  refine k_bipush (q := 31) dX0_init_29 rfl (by decide) ?_
  refine k_newaN (t := 0) (N := 20) (nz := 20) (q := 33) (n := 60) (n' := 61) (kc' := 4) (ks' := 80) dX0_init_31 rfl (by decide) rfl (by decide) (by decide) (by decide) rfl rfl rfl ?_
  refine k_putG (q := 36) (n := 61) (fs := [.ref (G.2.2.2 + 57), .ref (G.2.2.2 + 58), .ref (G.2.2.2 + 59), .null, .null, .int (iZ 0), .int (iZ 0)]) (Or.inl rfl) dX0_init_33 rfl fx_X0_21 (by decide) ((upE_ne (by decide)).trans upE_eq) (Nat.le_of_ble_eq_true rfl) rfl rfl ?_
  refine k_aload_n (q := 37) (i := 0) dX0_init_36 rfl rfl rfl ?_
  refine k_bipush (q := 39) dX0_init_37 rfl (by decide) ?_
  refine k_newaN (t := 0) (N := 20) (nz := 20) (q := 41) (n := 61) (n' := 62) (kc' := 5) (ks' := 100) dX0_init_39 rfl (by decide) rfl (by decide) (by decide) (by decide) rfl rfl rfl ?_
  refine k_putG (q := 44) (n := 62) (fs := [.ref (G.2.2.2 + 57), .ref (G.2.2.2 + 58), .ref (G.2.2.2 + 59), .ref (G.2.2.2 + 60), .null, .int (iZ 0), .int (iZ 0)]) (Or.inl rfl) dX0_init_41 rfl fx_X0_24 (by decide) ((upE_ne (by decide)).trans upE_eq) (Nat.le_of_ble_eq_true rfl) rfl rfl ?_
  exact k_rv dX0_init_44 rfl ⟨rfl, congrArg (fun f => ((62, f, 0) : Wn)) (mix_ext (m := 5) (fun j hj => by simp (disch := omega) only [upE_ne, mixE_out']) (fun j hj => by simp (disch := omega) only [upE_ne, mixE_out']) (fun i hi => by
    match i, hi with
    | 0, _ => exact upE_eq
    | 1, _ => exact ((upE_ne (by decide)).trans ((upE_ne (by decide)).trans ((upE_ne (by decide)).trans ((upE_ne (by decide)).trans ((upE_ne (by decide)).trans ((upE_ne (by decide)).trans ((upE_ne (by decide)).trans ((upE_ne (by decide)).trans ((upE_ne (by decide)).trans upE_eq)))))))))
    | 2, _ => exact ((upE_ne (by decide)).trans ((upE_ne (by decide)).trans ((upE_ne (by decide)).trans ((upE_ne (by decide)).trans ((upE_ne (by decide)).trans ((upE_ne (by decide)).trans ((upE_ne (by decide)).trans upE_eq)))))))
    | 3, _ => exact ((upE_ne (by decide)).trans ((upE_ne (by decide)).trans ((upE_ne (by decide)).trans ((upE_ne (by decide)).trans ((upE_ne (by decide)).trans upE_eq)))))
    | 4, _ => exact ((upE_ne (by decide)).trans ((upE_ne (by decide)).trans ((upE_ne (by decide)).trans upE_eq)))
    | 5, _ => exact ((upE_ne (by decide)).trans upE_eq)
    | _ + 6, h => exact absurd h (by omega)))⟩
set_option maxHeartbeats 4000000 in
theorem i_X6_62 {G : Gx} {E : Nat → va_E} (hE : E 62 = .inr (6, [.null, .null, .null, .null, .null, .null, .null, .int (iZ 0), .int (iZ 0)])) : CKn G 1 7 168 mX6_init [.ref (G.2.2.2 + 62)] (63, E, 0) (nM G E 62 7) := by
  refine k_entry om_X6_init (Nat.le_of_ble_eq_true rfl) (L := [some (.ref (G.2.2.2 + 62))]) rfl ?_
  refine k_aload_n (q := 1) (i := 0) dX6_init_0 rfl rfl rfl ?_
  refine k_objInit (q := 4) dX6_init_1 rfl oi_X6 (Nat.le_of_ble_eq_true rfl) (by decide) (by decide) ?_
  refine k_aload_n (q := 5) (i := 0) dX6_init_4 rfl rfl rfl ?_
  refine k_bipush (q := 7) dX6_init_5 rfl (by decide) ?_
  refine k_newaN (t := 0) (N := 24) (nz := 24) (q := 9) (n := 63) (n' := 64) (kc' := 1) (ks' := 24) dX6_init_7 rfl (by decide) rfl (by decide) (by decide) (by decide) rfl rfl rfl ?_
  refine k_putG (q := 12) (n := 64) (fs := [.null, .null, .null, .null, .null, .null, .null, .int (iZ 0), .int (iZ 0)]) (Or.inl rfl) dX6_init_9 rfl fx_X6_11 (by decide) ((upE_ne (by decide)).trans hE) (Nat.le_of_ble_eq_true rfl) rfl rfl ?_
  refine k_aload_n (q := 13) (i := 0) dX6_init_12 rfl rfl rfl ?_
  refine k_bipush (q := 15) dX6_init_13 rfl (by decide) ?_
  refine k_newaN (t := 0) (N := 24) (nz := 24) (q := 17) (n := 64) (n' := 65) (kc' := 2) (ks' := 48) dX6_init_15 rfl (by decide) rfl (by decide) (by decide) (by decide) rfl rfl rfl ?_
  refine k_putG (q := 20) (n := 65) (fs := [.ref (G.2.2.2 + 63), .null, .null, .null, .null, .null, .null, .int (iZ 0), .int (iZ 0)]) (Or.inl rfl) dX6_init_17 rfl fx_X6_15 (by decide) ((upE_ne (by decide)).trans upE_eq) (Nat.le_of_ble_eq_true rfl) rfl rfl ?_
  refine k_aload_n (q := 21) (i := 0) dX6_init_20 rfl rfl rfl ?_
  refine k_bipush (q := 23) dX6_init_21 rfl (by decide) ?_
  refine k_newaN (t := 0) (N := 24) (nz := 24) (q := 25) (n := 65) (n' := 66) (kc' := 3) (ks' := 72) dX6_init_23 rfl (by decide) rfl (by decide) (by decide) (by decide) rfl rfl rfl ?_
  refine k_putG (q := 28) (n := 66) (fs := [.ref (G.2.2.2 + 63), .ref (G.2.2.2 + 64), .null, .null, .null, .null, .null, .int (iZ 0), .int (iZ 0)]) (Or.inl rfl) dX6_init_25 rfl fx_X6_18 (by decide) ((upE_ne (by decide)).trans upE_eq) (Nat.le_of_ble_eq_true rfl) rfl rfl ?_
  refine k_aload_n (q := 29) (i := 0) dX6_init_28 rfl rfl rfl ?_
  refine k_bipush (q := 31) dX6_init_29 rfl (by decide) ?_
  refine k_newaN (t := 0) (N := 24) (nz := 24) (q := 33) (n := 66) (n' := 67) (kc' := 4) (ks' := 96) dX6_init_31 rfl (by decide) rfl (by decide) (by decide) (by decide) rfl rfl rfl ?_
  refine k_putG (q := 36) (n := 67) (fs := [.ref (G.2.2.2 + 63), .ref (G.2.2.2 + 64), .ref (G.2.2.2 + 65), .null, .null, .null, .null, .int (iZ 0), .int (iZ 0)]) (Or.inl rfl) dX6_init_33 rfl fx_X6_21 (by decide) ((upE_ne (by decide)).trans upE_eq) (Nat.le_of_ble_eq_true rfl) rfl rfl ?_
  refine k_aload_n (q := 37) (i := 0) dX6_init_36 rfl rfl rfl ?_
  refine k_bipush (q := 39) dX6_init_37 rfl (by decide) ?_
  refine k_newaN (t := 0) (N := 24) (nz := 24) (q := 41) (n := 67) (n' := 68) (kc' := 5) (ks' := 120) dX6_init_39 rfl (by decide) rfl (by decide) (by decide) (by decide) rfl rfl rfl ?_
  refine k_putG (q := 44) (n := 68) (fs := [.ref (G.2.2.2 + 63), .ref (G.2.2.2 + 64), .ref (G.2.2.2 + 65), .ref (G.2.2.2 + 66), .null, .null, .null, .int (iZ 0), .int (iZ 0)]) (Or.inl rfl) dX6_init_41 rfl fx_X6_24 (by decide) ((upE_ne (by decide)).trans upE_eq) (Nat.le_of_ble_eq_true rfl) rfl rfl ?_
  refine k_aload_n (q := 45) (i := 0) dX6_init_44 rfl rfl rfl ?_
  refine k_bipush (q := 47) dX6_init_45 rfl (by decide) ?_
  refine k_newaN (t := 3) (N := 24) (nz := 24) (q := 49) (n := 68) (n' := 69) (kc' := 6) (ks' := 144) dX6_init_47 rfl (by decide) rfl (by decide) (by decide) (by decide) rfl rfl rfl ?_
  refine k_putG (q := 52) (n := 69) (fs := [.ref (G.2.2.2 + 63), .ref (G.2.2.2 + 64), .ref (G.2.2.2 + 65), .ref (G.2.2.2 + 66), .ref (G.2.2.2 + 67), .null, .null, .int (iZ 0), .int (iZ 0)]) (Or.inl rfl) dX6_init_49 rfl fx_X6_27 (by decide) ((upE_ne (by decide)).trans upE_eq) (Nat.le_of_ble_eq_true rfl) rfl rfl ?_
  refine k_aload_n (q := 53) (i := 0) dX6_init_52 rfl rfl rfl ?_
  refine k_bipush (q := 55) dX6_init_53 rfl (by decide) ?_
  refine k_newaN (t := 3) (N := 24) (nz := 24) (q := 57) (n := 69) (n' := 70) (kc' := 7) (ks' := 168) dX6_init_55 rfl (by decide) rfl (by decide) (by decide) (by decide) rfl rfl rfl ?_
  refine k_putG (q := 60) (n := 70) (fs := [.ref (G.2.2.2 + 63), .ref (G.2.2.2 + 64), .ref (G.2.2.2 + 65), .ref (G.2.2.2 + 66), .ref (G.2.2.2 + 67), .ref (G.2.2.2 + 68), .null, .int (iZ 0), .int (iZ 0)]) (Or.inl rfl) dX6_init_57 rfl fx_X6_31 (by decide) ((upE_ne (by decide)).trans upE_eq) (Nat.le_of_ble_eq_true rfl) rfl rfl ?_
  refine k_aload_n (q := 61) (i := 0) dX6_init_60 rfl rfl rfl ?_
  refine k_iconst (q := 62) dX6_init_61 rfl ?_
  refine k_putG (q := 65) (n := 70) (fs := [.ref (G.2.2.2 + 63), .ref (G.2.2.2 + 64), .ref (G.2.2.2 + 65), .ref (G.2.2.2 + 66), .ref (G.2.2.2 + 67), .ref (G.2.2.2 + 68), .ref (G.2.2.2 + 69), .int (iZ 0), .int (iZ 0)]) (Or.inl rfl) dX6_init_62 rfl fx_X6_34 (by decide) upE_eq (Nat.le_of_ble_eq_true rfl) rfl rfl ?_
  exact k_rv dX6_init_65 rfl ⟨rfl, congrArg (fun f => ((70, f, 0) : Wn)) (mix_ext (m := 7) (fun j hj => by simp (disch := omega) only [upE_ne, mixE_out']) (fun j hj => by simp (disch := omega) only [upE_ne, mixE_out']) (fun i hi => by
    match i, hi with
    | 0, _ => exact upE_eq
    | 1, _ => exact ((upE_ne (by decide)).trans ((upE_ne (by decide)).trans ((upE_ne (by decide)).trans ((upE_ne (by decide)).trans ((upE_ne (by decide)).trans ((upE_ne (by decide)).trans ((upE_ne (by decide)).trans ((upE_ne (by decide)).trans ((upE_ne (by decide)).trans ((upE_ne (by decide)).trans ((upE_ne (by decide)).trans ((upE_ne (by decide)).trans ((upE_ne (by decide)).trans ((upE_ne (by decide)).trans upE_eq))))))))))))))
    | 2, _ => exact ((upE_ne (by decide)).trans ((upE_ne (by decide)).trans ((upE_ne (by decide)).trans ((upE_ne (by decide)).trans ((upE_ne (by decide)).trans ((upE_ne (by decide)).trans ((upE_ne (by decide)).trans ((upE_ne (by decide)).trans ((upE_ne (by decide)).trans ((upE_ne (by decide)).trans ((upE_ne (by decide)).trans ((upE_ne (by decide)).trans upE_eq))))))))))))
    | 3, _ => exact ((upE_ne (by decide)).trans ((upE_ne (by decide)).trans ((upE_ne (by decide)).trans ((upE_ne (by decide)).trans ((upE_ne (by decide)).trans ((upE_ne (by decide)).trans ((upE_ne (by decide)).trans ((upE_ne (by decide)).trans ((upE_ne (by decide)).trans ((upE_ne (by decide)).trans upE_eq))))))))))
    | 4, _ => exact ((upE_ne (by decide)).trans ((upE_ne (by decide)).trans ((upE_ne (by decide)).trans ((upE_ne (by decide)).trans ((upE_ne (by decide)).trans ((upE_ne (by decide)).trans ((upE_ne (by decide)).trans ((upE_ne (by decide)).trans upE_eq))))))))
    | 5, _ => exact ((upE_ne (by decide)).trans ((upE_ne (by decide)).trans ((upE_ne (by decide)).trans ((upE_ne (by decide)).trans ((upE_ne (by decide)).trans ((upE_ne (by decide)).trans upE_eq))))))
    | 6, _ => exact ((upE_ne (by decide)).trans ((upE_ne (by decide)).trans ((upE_ne (by decide)).trans ((upE_ne (by decide)).trans upE_eq))))
    | 7, _ => exact ((upE_ne (by decide)).trans ((upE_ne (by decide)).trans upE_eq))
    | _ + 8, h => exact absurd h (by omega)))⟩
set_option maxHeartbeats 4000000 in
theorem i_X2_71 {G : Gx} {E : Nat → va_E} (hE : E 71 = .inr (2, [.null, .null, .null, .null, .null, .int (iZ 0), .int (iZ 0), .long (lZ 0), .int (iZ 0), .int (iZ 0), .int (iZ 0)])) : CKn G 1 4 44 mX2_init [.ref (G.2.2.2 + 71), .ref (G.2.2.2 + 2)] (72, E, 0) (nM G E 71 4) := by
  refine k_entry om_X2_init (Nat.le_of_ble_eq_true rfl) (L := [some (.ref (G.2.2.2 + 71)), some (.ref (G.2.2.2 + 2))]) rfl ?_
  refine k_aload_n (q := 1) (i := 0) dX2_init_0 rfl rfl rfl ?_
  refine k_objInit (q := 4) dX2_init_1 rfl oi_X2 (Nat.le_of_ble_eq_true rfl) (by decide) (by decide) ?_
  refine k_aload_n (q := 5) (i := 0) dX2_init_4 rfl rfl rfl ?_
  refine k_aload_n (q := 6) (i := 1) dX2_init_5 rfl rfl rfl ?_
  refine k_putG (q := 9) (n := 72) (fs := [.null, .null, .null, .null, .null, .int (iZ 0), .int (iZ 0), .long (lZ 0), .int (iZ 0), .int (iZ 0), .int (iZ 0)]) (Or.inl rfl) dX2_init_6 rfl fx_X2_9 (by decide) hE (Nat.le_of_ble_eq_true rfl) rfl rfl ?_
  refine k_aload_n (q := 10) (i := 0) dX2_init_9 rfl rfl rfl ?_
  refine k_bipush (q := 12) dX2_init_10 rfl (by decide) ?_
  refine k_newaN (t := 0) (N := 16) (nz := 16) (q := 14) (n := 72) (n' := 73) (kc' := 1) (ks' := 16) dX2_init_12 rfl (by decide) rfl (by decide) (by decide) (by decide) rfl rfl rfl ?_
  refine k_putG (q := 17) (n := 73) (fs := [.ref (G.2.2.2 + 2), .null, .null, .null, .null, .int (iZ 0), .int (iZ 0), .long (lZ 0), .int (iZ 0), .int (iZ 0), .int (iZ 0)]) (Or.inl rfl) dX2_init_14 rfl fx_X2_15 (by decide) ((upE_ne (by decide)).trans upE_eq) (Nat.le_of_ble_eq_true rfl) rfl rfl ?_
  refine k_aload_n (q := 18) (i := 0) dX2_init_17 rfl rfl rfl ?_
  refine k_bipush (q := 20) dX2_init_18 rfl (by decide) ?_
  refine k_newaN (t := 0) (N := 16) (nz := 16) (q := 22) (n := 73) (n' := 74) (kc' := 2) (ks' := 32) dX2_init_20 rfl (by decide) rfl (by decide) (by decide) (by decide) rfl rfl rfl ?_
  refine k_putG (q := 25) (n := 74) (fs := [.ref (G.2.2.2 + 2), .ref (G.2.2.2 + 72), .null, .null, .null, .int (iZ 0), .int (iZ 0), .long (lZ 0), .int (iZ 0), .int (iZ 0), .int (iZ 0)]) (Or.inl rfl) dX2_init_22 rfl fx_X2_19 (by decide) ((upE_ne (by decide)).trans upE_eq) (Nat.le_of_ble_eq_true rfl) rfl rfl ?_
  refine k_aload_n (q := 26) (i := 0) dX2_init_25 rfl rfl rfl ?_
  refine k_bipush (q := 28) dX2_init_26 rfl (by decide) ?_
  refine k_newaN (t := 0) (N := 6) (nz := 6) (q := 30) (n := 74) (n' := 75) (kc' := 3) (ks' := 38) dX2_init_28 rfl (by decide) rfl (by decide) (by decide) (by decide) rfl rfl rfl ?_
  refine k_putG (q := 33) (n := 75) (fs := [.ref (G.2.2.2 + 2), .ref (G.2.2.2 + 72), .ref (G.2.2.2 + 73), .null, .null, .int (iZ 0), .int (iZ 0), .long (lZ 0), .int (iZ 0), .int (iZ 0), .int (iZ 0)]) (Or.inl rfl) dX2_init_30 rfl fx_X2_22 (by decide) ((upE_ne (by decide)).trans upE_eq) (Nat.le_of_ble_eq_true rfl) rfl rfl ?_
  refine k_aload_n (q := 34) (i := 0) dX2_init_33 rfl rfl rfl ?_
  refine k_bipush (q := 36) dX2_init_34 rfl (by decide) ?_
  refine k_newaN (t := 0) (N := 6) (nz := 6) (q := 38) (n := 75) (n' := 76) (kc' := 4) (ks' := 44) dX2_init_36 rfl (by decide) rfl (by decide) (by decide) (by decide) rfl rfl rfl ?_
  refine k_putG (q := 41) (n := 76) (fs := [.ref (G.2.2.2 + 2), .ref (G.2.2.2 + 72), .ref (G.2.2.2 + 73), .ref (G.2.2.2 + 74), .null, .int (iZ 0), .int (iZ 0), .long (lZ 0), .int (iZ 0), .int (iZ 0), .int (iZ 0)]) (Or.inl rfl) dX2_init_38 rfl fx_X2_25 (by decide) ((upE_ne (by decide)).trans upE_eq) (Nat.le_of_ble_eq_true rfl) rfl rfl ?_
  refine k_aload_n (q := 42) (i := 0) dX2_init_41 rfl rfl rfl ?_
  refine k_iconst (q := 43) dX2_init_42 rfl ?_
  refine k_putG (q := 46) (n := 76) (fs := [.ref (G.2.2.2 + 2), .ref (G.2.2.2 + 72), .ref (G.2.2.2 + 73), .ref (G.2.2.2 + 74), .ref (G.2.2.2 + 75), .int (iZ 0), .int (iZ 0), .long (lZ 0), .int (iZ 0), .int (iZ 0), .int (iZ 0)]) (Or.inl rfl) dX2_init_43 rfl fx_X2_28 (by decide) upE_eq (Nat.le_of_ble_eq_true rfl) rfl rfl ?_
  exact k_rv dX2_init_46 rfl ⟨rfl, congrArg (fun f => ((76, f, 0) : Wn)) (mix_ext (m := 4) (fun j hj => by simp (disch := omega) only [upE_ne, mixE_out']) (fun j hj => by simp (disch := omega) only [upE_ne, mixE_out']) (fun i hi => by
    match i, hi with
    | 0, _ => exact upE_eq
    | 1, _ => exact ((upE_ne (by decide)).trans ((upE_ne (by decide)).trans ((upE_ne (by decide)).trans ((upE_ne (by decide)).trans ((upE_ne (by decide)).trans ((upE_ne (by decide)).trans ((upE_ne (by decide)).trans ((upE_ne (by decide)).trans upE_eq))))))))
    | 2, _ => exact ((upE_ne (by decide)).trans ((upE_ne (by decide)).trans ((upE_ne (by decide)).trans ((upE_ne (by decide)).trans ((upE_ne (by decide)).trans ((upE_ne (by decide)).trans upE_eq))))))
    | 3, _ => exact ((upE_ne (by decide)).trans ((upE_ne (by decide)).trans ((upE_ne (by decide)).trans ((upE_ne (by decide)).trans upE_eq))))
    | 4, _ => exact ((upE_ne (by decide)).trans ((upE_ne (by decide)).trans upE_eq))
    | _ + 5, h => exact absurd h (by omega)))⟩
set_option maxHeartbeats 4000000 in
theorem i_X1_70 {G : Gx} {E : Nat → va_E} (hE : E 70 = .inr (1, [.null, .null, .null, .null, .null, .null, .int (iZ 0), .int (iZ 0)])) : CKn G 2 7 135 mX1_init [.ref (G.2.2.2 + 70), .ref (G.2.2.2 + 2), .ref (G.2.2.2 + 54), .ref (G.2.2.2 + 62)] (71, E, 0) (nM G E 70 7) := by
  refine k_entry om_X1_init (Nat.le_of_ble_eq_true rfl) (L := [some (.ref (G.2.2.2 + 70)), some (.ref (G.2.2.2 + 2)), some (.ref (G.2.2.2 + 54)), some (.ref (G.2.2.2 + 62))]) rfl ?_
  refine k_aload_n (q := 1) (i := 0) dX1_init_0 rfl rfl rfl ?_
  refine k_objInit (q := 4) dX1_init_1 rfl oi_X1 (Nat.le_of_ble_eq_true rfl) (by decide) (by decide) ?_
  refine k_aload_n (q := 5) (i := 0) dX1_init_4 rfl rfl rfl ?_
  refine k_aload_n (q := 6) (i := 1) dX1_init_5 rfl rfl rfl ?_
  refine k_putG (q := 9) (n := 71) (fs := [.null, .null, .null, .null, .null, .null, .int (iZ 0), .int (iZ 0)]) (Or.inl rfl) dX1_init_6 rfl fx_X1_9 (by decide) hE (Nat.le_of_ble_eq_true rfl) rfl rfl ?_
  refine k_aload_n (q := 10) (i := 0) dX1_init_9 rfl rfl rfl ?_
  refine k_aload_n (q := 11) (i := 2) dX1_init_10 rfl rfl rfl ?_
  refine k_putG (q := 14) (n := 71) (fs := [.null, .null, .ref (G.2.2.2 + 2), .null, .null, .null, .int (iZ 0), .int (iZ 0)]) (Or.inl rfl) dX1_init_11 rfl fx_X1_15 (by decide) upE_eq (Nat.le_of_ble_eq_true rfl) rfl rfl ?_
  refine k_aload_n (q := 15) (i := 0) dX1_init_14 rfl rfl rfl ?_
  refine k_aload_n (q := 16) (i := 3) dX1_init_15 rfl rfl rfl ?_
  refine k_putG (q := 19) (n := 71) (fs := [.ref (G.2.2.2 + 54), .null, .ref (G.2.2.2 + 2), .null, .null, .null, .int (iZ 0), .int (iZ 0)]) (Or.inl rfl) dX1_init_16 rfl fx_X1_19 (by decide) upE_eq (Nat.le_of_ble_eq_true rfl) rfl rfl ?_
  refine k_aload_n (q := 20) (i := 0) dX1_init_19 rfl rfl rfl ?_
  refine k_newN (q := 23) (n := 71) (n' := 72) (kc' := 1) (ks' := 11) dX1_init_20 rfl fn_X1_23 (by decide) (by decide) rfl rfl rfl ?_
  refine k_dup (q := 24) dX1_init_23 rfl rfl ?_
  refine k_aload_n (q := 25) (i := 1) dX1_init_24 rfl rfl rfl ?_
  refine k_callN (q := 28) (vs := [.ref (G.2.2.2 + 2)]) (b := 71) (kc' := 5) (ks' := 55) om_X2_init rfl rfl im_X2 ml_X1_25 dX1_init_25 rfl rfl rfl (Nat.le_of_ble_eq_true rfl) (by decide) (by decide) (by decide) (by decide) (i_X2_71 upE_eq) rfl rfl ?_
  refine k_putG (q := 31) (n := 76) (fs := [.ref (G.2.2.2 + 54), .ref (G.2.2.2 + 62), .ref (G.2.2.2 + 2), .null, .null, .null, .int (iZ 0), .int (iZ 0)]) (Or.inl rfl) dX1_init_28 rfl fx_X1_28 (by decide) ((mixE_out (by decide)).trans ((upE_ne (by decide)).trans upE_eq)) (Nat.le_of_ble_eq_true rfl) rfl rfl ?_
  refine k_aload_n (q := 32) (i := 0) dX1_init_31 rfl rfl rfl ?_
  refine k_bipush (q := 34) dX1_init_32 rfl (by decide) ?_
  refine k_newaN (t := 0) (N := 40) (nz := 40) (q := 36) (n := 76) (n' := 77) (kc' := 6) (ks' := 95) dX1_init_34 rfl (by decide) rfl (by decide) (by decide) (by decide) rfl rfl rfl ?_
  refine k_putG (q := 39) (n := 77) (fs := [.ref (G.2.2.2 + 54), .ref (G.2.2.2 + 62), .ref (G.2.2.2 + 2), .ref (G.2.2.2 + 71), .null, .null, .int (iZ 0), .int (iZ 0)]) (Or.inl rfl) dX1_init_36 rfl fx_X1_32 (by decide) ((upE_ne (by decide)).trans upE_eq) (Nat.le_of_ble_eq_true rfl) rfl rfl ?_
  refine k_aload_n (q := 40) (i := 0) dX1_init_39 rfl rfl rfl ?_
  refine k_bipush (q := 42) dX1_init_40 rfl (by decide) ?_
  refine k_newaN (t := 0) (N := 40) (nz := 40) (q := 44) (n := 77) (n' := 78) (kc' := 7) (ks' := 135) dX1_init_42 rfl (by decide) rfl (by decide) (by decide) (by decide) rfl rfl rfl ?_
  refine k_putG (q := 47) (n := 78) (fs := [.ref (G.2.2.2 + 54), .ref (G.2.2.2 + 62), .ref (G.2.2.2 + 2), .ref (G.2.2.2 + 71), .ref (G.2.2.2 + 76), .null, .int (iZ 0), .int (iZ 0)]) (Or.inl rfl) dX1_init_44 rfl fx_X1_36 (by decide) ((upE_ne (by decide)).trans upE_eq) (Nat.le_of_ble_eq_true rfl) rfl rfl ?_
  exact k_rv dX1_init_47 rfl ⟨rfl, congrArg (fun f => ((78, f, 0) : Wn)) (mix_ext (m := 7) (fun j hj => by simp (disch := omega) only [upE_ne, mixE_out']) (fun j hj => by simp (disch := omega) only [upE_ne, mixE_out']) (fun i hi => by
    match i, hi with
    | 0, _ => exact upE_eq
    | 1, _ => exact ((upE_ne (by decide)).trans ((upE_ne (by decide)).trans ((upE_ne (by decide)).trans ((upE_ne (by decide)).trans ((upE_ne (by decide)).trans (mixE_in (by decide) (by decide)))))))
    | 2, _ => exact ((upE_ne (by decide)).trans ((upE_ne (by decide)).trans ((upE_ne (by decide)).trans ((upE_ne (by decide)).trans ((upE_ne (by decide)).trans (mixE_in (by decide) (by decide)))))))
    | 3, _ => exact ((upE_ne (by decide)).trans ((upE_ne (by decide)).trans ((upE_ne (by decide)).trans ((upE_ne (by decide)).trans ((upE_ne (by decide)).trans (mixE_in (by decide) (by decide)))))))
    | 4, _ => exact ((upE_ne (by decide)).trans ((upE_ne (by decide)).trans ((upE_ne (by decide)).trans ((upE_ne (by decide)).trans ((upE_ne (by decide)).trans (mixE_in (by decide) (by decide)))))))
    | 5, _ => exact ((upE_ne (by decide)).trans ((upE_ne (by decide)).trans ((upE_ne (by decide)).trans ((upE_ne (by decide)).trans ((upE_ne (by decide)).trans (mixE_in (by decide) (by decide)))))))
    | 6, _ => exact ((upE_ne (by decide)).trans ((upE_ne (by decide)).trans ((upE_ne (by decide)).trans upE_eq)))
    | 7, _ => exact ((upE_ne (by decide)).trans upE_eq)
    | _ + 8, h => exact absurd h (by omega)))⟩
set_option maxHeartbeats 4000000 in
theorem i_X4_78 {G : Gx} {E : Nat → va_E} (hE : E 78 = .inr (4, [.null, .null, .null, .null, .null, .int (iZ 0)])) : CKn G 1 3 36 mX4_init [.ref (G.2.2.2 + 78), .ref (G.2.2.2 + 2), .ref (G.2.2.2 + 54)] (79, E, 0) (nM G E 78 3) := by
  refine k_entry om_X4_init (Nat.le_of_ble_eq_true rfl) (L := [some (.ref (G.2.2.2 + 78)), some (.ref (G.2.2.2 + 2)), some (.ref (G.2.2.2 + 54))]) rfl ?_
  refine k_aload_n (q := 1) (i := 0) dX4_init_0 rfl rfl rfl ?_
  refine k_objInit (q := 4) dX4_init_1 rfl oi_X4 (Nat.le_of_ble_eq_true rfl) (by decide) (by decide) ?_
  refine k_aload_n (q := 5) (i := 0) dX4_init_4 rfl rfl rfl ?_
  refine k_aload_n (q := 6) (i := 1) dX4_init_5 rfl rfl rfl ?_
  refine k_putG (q := 9) (n := 79) (fs := [.null, .null, .null, .null, .null, .int (iZ 0)]) (Or.inl rfl) dX4_init_6 rfl fx_X4_9 (by decide) hE (Nat.le_of_ble_eq_true rfl) rfl rfl ?_
  refine k_aload_n (q := 10) (i := 0) dX4_init_9 rfl rfl rfl ?_
  refine k_aload_n (q := 11) (i := 2) dX4_init_10 rfl rfl rfl ?_
  refine k_putG (q := 14) (n := 79) (fs := [.ref (G.2.2.2 + 2), .null, .null, .null, .null, .int (iZ 0)]) (Or.inl rfl) dX4_init_11 rfl fx_X4_15 (by decide) upE_eq (Nat.le_of_ble_eq_true rfl) rfl rfl ?_
  refine k_aload_n (q := 15) (i := 0) dX4_init_14 rfl rfl rfl ?_
  refine k_bipush (q := 17) dX4_init_15 rfl (by decide) ?_
  refine k_newaN (t := 0) (N := 28) (nz := 28) (q := 19) (n := 79) (n' := 80) (kc' := 1) (ks' := 28) dX4_init_17 rfl (by decide) rfl (by decide) (by decide) (by decide) rfl rfl rfl ?_
  refine k_putG (q := 22) (n := 80) (fs := [.ref (G.2.2.2 + 2), .ref (G.2.2.2 + 54), .null, .null, .null, .int (iZ 0)]) (Or.inl rfl) dX4_init_19 rfl fx_X4_19 (by decide) ((upE_ne (by decide)).trans upE_eq) (Nat.le_of_ble_eq_true rfl) rfl rfl ?_
  refine k_aload_n (q := 23) (i := 0) dX4_init_22 rfl rfl rfl ?_
  refine k_iconst (q := 24) dX4_init_23 rfl ?_
  refine k_newaN (t := 0) (N := 4) (nz := 4) (q := 26) (n := 80) (n' := 81) (kc' := 2) (ks' := 32) dX4_init_24 rfl (by decide) rfl (by decide) (by decide) (by decide) rfl rfl rfl ?_
  refine k_putG (q := 29) (n := 81) (fs := [.ref (G.2.2.2 + 2), .ref (G.2.2.2 + 54), .ref (G.2.2.2 + 79), .null, .null, .int (iZ 0)]) (Or.inl rfl) dX4_init_26 rfl fx_X4_23 (by decide) ((upE_ne (by decide)).trans upE_eq) (Nat.le_of_ble_eq_true rfl) rfl rfl ?_
  refine k_aload_n (q := 30) (i := 0) dX4_init_29 rfl rfl rfl ?_
  refine k_iconst (q := 31) dX4_init_30 rfl ?_
  refine k_newaN (t := 0) (N := 4) (nz := 4) (q := 33) (n := 81) (n' := 82) (kc' := 3) (ks' := 36) dX4_init_31 rfl (by decide) rfl (by decide) (by decide) (by decide) rfl rfl rfl ?_
  refine k_putG (q := 36) (n := 82) (fs := [.ref (G.2.2.2 + 2), .ref (G.2.2.2 + 54), .ref (G.2.2.2 + 79), .ref (G.2.2.2 + 80), .null, .int (iZ 0)]) (Or.inl rfl) dX4_init_33 rfl fx_X4_26 (by decide) ((upE_ne (by decide)).trans upE_eq) (Nat.le_of_ble_eq_true rfl) rfl rfl ?_
  exact k_rv dX4_init_36 rfl ⟨rfl, congrArg (fun f => ((82, f, 0) : Wn)) (mix_ext (m := 3) (fun j hj => by simp (disch := omega) only [upE_ne, mixE_out']) (fun j hj => by simp (disch := omega) only [upE_ne, mixE_out']) (fun i hi => by
    match i, hi with
    | 0, _ => exact upE_eq
    | 1, _ => exact ((upE_ne (by decide)).trans ((upE_ne (by decide)).trans ((upE_ne (by decide)).trans ((upE_ne (by decide)).trans ((upE_ne (by decide)).trans upE_eq)))))
    | 2, _ => exact ((upE_ne (by decide)).trans ((upE_ne (by decide)).trans ((upE_ne (by decide)).trans upE_eq)))
    | 3, _ => exact ((upE_ne (by decide)).trans upE_eq)
    | _ + 4, h => exact absurd h (by omega)))⟩
set_option maxHeartbeats 4000000 in
theorem i_X11_0 {G : Gx} {E : Nat → va_E} (hE : E 0 = .inr (11, [.null, .int (iZ 0), .null, .null, .null, .null, .null, .int (iZ 0), .null, .null, .null, .null, .null])) : CKn G 8 81 1935 mX11_init [.ref (G.2.2.2 + 0)] (1, E, 0) (nM G E 0 81) := by
  refine k_entry om_X11_init (Nat.le_of_ble_eq_true rfl) (L := [some (.ref (G.2.2.2 + 0))]) rfl ?_
  refine k_aload_n (q := 1) (i := 0) dX11_init_0 rfl rfl rfl ?_
  refine k_objInit (q := 4) dX11_init_1 rfl oi_X11 (Nat.le_of_ble_eq_true rfl) (by decide) (by decide) ?_
  refine k_aload_n (q := 5) (i := 0) dX11_init_4 rfl rfl rfl ?_
  refine k_sipush (q := 8) dX11_init_5 rfl (by decide) ?_
  refine k_newaN (t := 2) (N := 700) (nz := 700) (q := 10) (n := 1) (n' := 2) (kc' := 1) (ks' := 700) dX11_init_8 rfl (by decide) rfl (by decide) (by decide) (by decide) rfl rfl rfl ?_
  refine k_putG (q := 13) (n := 2) (fs := [.null, .int (iZ 0), .null, .null, .null, .null, .null, .int (iZ 0), .null, .null, .null, .null, .null]) (Or.inl rfl) dX11_init_10 rfl fx_X11_11 (by decide) ((upE_ne (by decide)).trans hE) (Nat.le_of_ble_eq_true rfl) rfl rfl ?_
  refine k_aload_n (q := 14) (i := 0) dX11_init_13 rfl rfl rfl ?_
  refine k_newN (q := 17) (n := 2) (n' := 3) (kc' := 2) (ks' := 719) dX11_init_14 rfl fn_X11_15 (by decide) (by decide) rfl rfl rfl ?_
  refine k_dup (q := 18) dX11_init_17 rfl rfl ?_
  refine k_callN (q := 21) (vs := []) (b := 2) (kc' := 17) (ks' := 940) om_X9_init rfl rfl im_X9 ml_X11_17 dX11_init_18 rfl rfl rfl (Nat.le_of_ble_eq_true rfl) (by decide) (by decide) (by decide) (by decide) (i_X9_2 upE_eq) rfl rfl ?_
  refine k_putG (q := 24) (n := 18) (fs := [.ref (G.2.2.2 + 1), .int (iZ 0), .null, .null, .null, .null, .null, .int (iZ 0), .null, .null, .null, .null, .null]) (Or.inl rfl) dX11_init_21 rfl fx_X11_18 (by decide) ((mixE_out (by decide)).trans ((upE_ne (by decide)).trans upE_eq)) (Nat.le_of_ble_eq_true rfl) rfl rfl ?_
  refine k_aload_n (q := 25) (i := 0) dX11_init_24 rfl rfl rfl ?_
  refine k_newN (q := 28) (n := 18) (n' := 19) (kc' := 18) (ks' := 945) dX11_init_25 rfl fn_X11_22 (by decide) (by decide) rfl rfl rfl ?_
  refine k_dup (q := 29) dX11_init_28 rfl rfl ?_
  refine k_aload_n (q := 30) (i := 0) dX11_init_29 rfl rfl rfl ?_
  refine k_get (q := 33) (n := 19) (fs := [.ref (G.2.2.2 + 1), .int (iZ 0), .ref (G.2.2.2 + 2), .null, .null, .null, .null, .int (iZ 0), .null, .null, .null, .null, .null]) dX11_init_30 rfl fg_X11_11 (by decide) ((upE_ne (by decide)).trans upE_eq) rfl ?_
  refine k_callN (q := 36) (vs := [.ref (G.2.2.2 + 1)]) (b := 18) (kc' := 38) (ks' := 1292) om_X5_init rfl rfl im_X5 ml_X11_24 dX11_init_33 rfl rfl rfl (Nat.le_of_ble_eq_true rfl) (by decide) (by decide) (by decide) (by decide) (i_X5_18 upE_eq) rfl rfl ?_
  refine k_putG (q := 39) (n := 39) (fs := [.ref (G.2.2.2 + 1), .int (iZ 0), .ref (G.2.2.2 + 2), .null, .null, .null, .null, .int (iZ 0), .null, .null, .null, .null, .null]) (Or.inl rfl) dX11_init_36 rfl fx_X11_27 (by decide) ((mixE_out (by decide)).trans ((upE_ne (by decide)).trans upE_eq)) (Nat.le_of_ble_eq_true rfl) rfl rfl ?_
  refine k_aload_n (q := 40) (i := 0) dX11_init_39 rfl rfl rfl ?_
  refine k_newN (q := 43) (n := 39) (n' := 40) (kc' := 39) (ks' := 1303) dX11_init_40 rfl fn_X11_31 (by decide) (by decide) rfl rfl rfl ?_
  refine k_dup (q := 44) dX11_init_43 rfl rfl ?_
  refine k_aload_n (q := 45) (i := 0) dX11_init_44 rfl rfl rfl ?_
  refine k_get (q := 48) (n := 40) (fs := [.ref (G.2.2.2 + 1), .int (iZ 0), .ref (G.2.2.2 + 2), .ref (G.2.2.2 + 18), .null, .null, .null, .int (iZ 0), .null, .null, .null, .null, .null]) dX11_init_45 rfl fg_X11_18 (by decide) ((upE_ne (by decide)).trans upE_eq) rfl ?_
  refine k_callN (q := 51) (vs := [.ref (G.2.2.2 + 2)]) (b := 39) (kc' := 43) (ks' := 1347) om_X2_init rfl rfl im_X2 ml_X11_33 dX11_init_48 rfl rfl rfl (Nat.le_of_ble_eq_true rfl) (by decide) (by decide) (by decide) (by decide) (i_X2_39 upE_eq) rfl rfl ?_
  refine k_putG (q := 54) (n := 44) (fs := [.ref (G.2.2.2 + 1), .int (iZ 0), .ref (G.2.2.2 + 2), .ref (G.2.2.2 + 18), .null, .null, .null, .int (iZ 0), .null, .null, .null, .null, .null]) (Or.inl rfl) dX11_init_51 rfl fx_X11_36 (by decide) ((mixE_out (by decide)).trans ((upE_ne (by decide)).trans upE_eq)) (Nat.le_of_ble_eq_true rfl) rfl rfl ?_
  refine k_aload_n (q := 55) (i := 0) dX11_init_54 rfl rfl rfl ?_
  refine k_newN (q := 58) (n := 44) (n' := 45) (kc' := 44) (ks' := 1358) dX11_init_55 rfl fn_X11_31 (by decide) (by decide) rfl rfl rfl ?_
  refine k_dup (q := 59) dX11_init_58 rfl rfl ?_
  refine k_aload_n (q := 60) (i := 0) dX11_init_59 rfl rfl rfl ?_
  refine k_get (q := 63) (n := 45) (fs := [.ref (G.2.2.2 + 1), .int (iZ 0), .ref (G.2.2.2 + 2), .ref (G.2.2.2 + 18), .ref (G.2.2.2 + 39), .null, .null, .int (iZ 0), .null, .null, .null, .null, .null]) dX11_init_60 rfl fg_X11_18 (by decide) ((upE_ne (by decide)).trans upE_eq) rfl ?_
  refine k_callN (q := 66) (vs := [.ref (G.2.2.2 + 2)]) (b := 44) (kc' := 48) (ks' := 1402) om_X2_init rfl rfl im_X2 ml_X11_33 dX11_init_63 rfl rfl rfl (Nat.le_of_ble_eq_true rfl) (by decide) (by decide) (by decide) (by decide) (i_X2_44 upE_eq) rfl rfl ?_
  refine k_putG (q := 69) (n := 49) (fs := [.ref (G.2.2.2 + 1), .int (iZ 0), .ref (G.2.2.2 + 2), .ref (G.2.2.2 + 18), .ref (G.2.2.2 + 39), .null, .null, .int (iZ 0), .null, .null, .null, .null, .null]) (Or.inl rfl) dX11_init_66 rfl fx_X11_40 (by decide) ((mixE_out (by decide)).trans ((upE_ne (by decide)).trans upE_eq)) (Nat.le_of_ble_eq_true rfl) rfl rfl ?_
  refine k_aload_n (q := 70) (i := 0) dX11_init_69 rfl rfl rfl ?_
  refine k_newN (q := 73) (n := 49) (n' := 50) (kc' := 49) (ks' := 1413) dX11_init_70 rfl fn_X11_31 (by decide) (by decide) rfl rfl rfl ?_
  refine k_dup (q := 74) dX11_init_73 rfl rfl ?_
  refine k_aload_n (q := 75) (i := 0) dX11_init_74 rfl rfl rfl ?_
  refine k_get (q := 78) (n := 50) (fs := [.ref (G.2.2.2 + 1), .int (iZ 0), .ref (G.2.2.2 + 2), .ref (G.2.2.2 + 18), .ref (G.2.2.2 + 39), .ref (G.2.2.2 + 44), .null, .int (iZ 0), .null, .null, .null, .null, .null]) dX11_init_75 rfl fg_X11_18 (by decide) ((upE_ne (by decide)).trans upE_eq) rfl ?_
  refine k_callN (q := 81) (vs := [.ref (G.2.2.2 + 2)]) (b := 49) (kc' := 53) (ks' := 1457) om_X2_init rfl rfl im_X2 ml_X11_33 dX11_init_78 rfl rfl rfl (Nat.le_of_ble_eq_true rfl) (by decide) (by decide) (by decide) (by decide) (i_X2_49 upE_eq) rfl rfl ?_
  refine k_putG (q := 84) (n := 54) (fs := [.ref (G.2.2.2 + 1), .int (iZ 0), .ref (G.2.2.2 + 2), .ref (G.2.2.2 + 18), .ref (G.2.2.2 + 39), .ref (G.2.2.2 + 44), .null, .int (iZ 0), .null, .null, .null, .null, .null]) (Or.inl rfl) dX11_init_81 rfl fx_X11_43 (by decide) ((mixE_out (by decide)).trans ((upE_ne (by decide)).trans upE_eq)) (Nat.le_of_ble_eq_true rfl) rfl rfl ?_
  refine k_aload_n (q := 85) (i := 0) dX11_init_84 rfl rfl rfl ?_
  refine k_newN (q := 88) (n := 54) (n' := 55) (kc' := 54) (ks' := 1459) dX11_init_85 rfl fn_X11_46 (by decide) (by decide) rfl rfl rfl ?_
  refine k_dup (q := 89) dX11_init_88 rfl rfl ?_
  refine k_aload_n (q := 90) (i := 0) dX11_init_89 rfl rfl rfl ?_
  refine k_get (q := 93) (n := 55) (fs := [.ref (G.2.2.2 + 1), .int (iZ 0), .ref (G.2.2.2 + 2), .ref (G.2.2.2 + 18), .ref (G.2.2.2 + 39), .ref (G.2.2.2 + 44), .ref (G.2.2.2 + 49), .int (iZ 0), .null, .null, .null, .null, .null]) dX11_init_90 rfl fg_X11_18 (by decide) ((upE_ne (by decide)).trans upE_eq) rfl ?_
  refine k_callN (q := 96) (vs := [.ref (G.2.2.2 + 2)]) (b := 54) (kc' := 55) (ks' := 1466) om_X10_init rfl rfl im_X10 ml_X11_48 dX11_init_93 rfl rfl rfl (Nat.le_of_ble_eq_true rfl) (by decide) (by decide) (by decide) (by decide) (i_X10_54 upE_eq) rfl rfl ?_
  refine k_putG (q := 99) (n := 56) (fs := [.ref (G.2.2.2 + 1), .int (iZ 0), .ref (G.2.2.2 + 2), .ref (G.2.2.2 + 18), .ref (G.2.2.2 + 39), .ref (G.2.2.2 + 44), .ref (G.2.2.2 + 49), .int (iZ 0), .null, .null, .null, .null, .null]) (Or.inl rfl) dX11_init_96 rfl fx_X11_49 (by decide) ((mixE_out (by decide)).trans ((upE_ne (by decide)).trans upE_eq)) (Nat.le_of_ble_eq_true rfl) rfl rfl ?_
  refine k_aload_n (q := 100) (i := 0) dX11_init_99 rfl rfl rfl ?_
  refine k_newN (q := 103) (n := 56) (n' := 57) (kc' := 56) (ks' := 1473) dX11_init_100 rfl fn_X11_53 (by decide) (by decide) rfl rfl rfl ?_
  refine k_dup (q := 104) dX11_init_103 rfl rfl ?_
  refine k_callN (q := 107) (vs := []) (b := 56) (kc' := 61) (ks' := 1573) om_X0_init rfl rfl im_X0 ml_X11_55 dX11_init_104 rfl rfl rfl (Nat.le_of_ble_eq_true rfl) (by decide) (by decide) (by decide) (by decide) (i_X0_56 upE_eq) rfl rfl ?_
  refine k_putG (q := 110) (n := 62) (fs := [.ref (G.2.2.2 + 1), .int (iZ 0), .ref (G.2.2.2 + 2), .ref (G.2.2.2 + 18), .ref (G.2.2.2 + 39), .ref (G.2.2.2 + 44), .ref (G.2.2.2 + 49), .int (iZ 0), .ref (G.2.2.2 + 54), .null, .null, .null, .null]) (Or.inl rfl) dX11_init_107 rfl fx_X11_56 (by decide) ((mixE_out (by decide)).trans ((upE_ne (by decide)).trans upE_eq)) (Nat.le_of_ble_eq_true rfl) rfl rfl ?_
  refine k_aload_n (q := 111) (i := 0) dX11_init_110 rfl rfl rfl ?_
  refine k_newN (q := 114) (n := 62) (n' := 63) (kc' := 62) (ks' := 1582) dX11_init_111 rfl fn_X11_60 (by decide) (by decide) rfl rfl rfl ?_
  refine k_dup (q := 115) dX11_init_114 rfl rfl ?_
  refine k_callN (q := 118) (vs := []) (b := 62) (kc' := 69) (ks' := 1750) om_X6_init rfl rfl im_X6 ml_X11_62 dX11_init_115 rfl rfl rfl (Nat.le_of_ble_eq_true rfl) (by decide) (by decide) (by decide) (by decide) (i_X6_62 upE_eq) rfl rfl ?_
  refine k_putG (q := 121) (n := 70) (fs := [.ref (G.2.2.2 + 1), .int (iZ 0), .ref (G.2.2.2 + 2), .ref (G.2.2.2 + 18), .ref (G.2.2.2 + 39), .ref (G.2.2.2 + 44), .ref (G.2.2.2 + 49), .int (iZ 0), .ref (G.2.2.2 + 54), .ref (G.2.2.2 + 56), .null, .null, .null]) (Or.inl rfl) dX11_init_118 rfl fx_X11_63 (by decide) ((mixE_out (by decide)).trans ((upE_ne (by decide)).trans upE_eq)) (Nat.le_of_ble_eq_true rfl) rfl rfl ?_
  refine k_aload_n (q := 122) (i := 0) dX11_init_121 rfl rfl rfl ?_
  refine k_newN (q := 125) (n := 70) (n' := 71) (kc' := 70) (ks' := 1758) dX11_init_122 rfl fn_X11_67 (by decide) (by decide) rfl rfl rfl ?_
  refine k_dup (q := 126) dX11_init_125 rfl rfl ?_
  refine k_aload_n (q := 127) (i := 0) dX11_init_126 rfl rfl rfl ?_
  refine k_get (q := 130) (n := 71) (fs := [.ref (G.2.2.2 + 1), .int (iZ 0), .ref (G.2.2.2 + 2), .ref (G.2.2.2 + 18), .ref (G.2.2.2 + 39), .ref (G.2.2.2 + 44), .ref (G.2.2.2 + 49), .int (iZ 0), .ref (G.2.2.2 + 54), .ref (G.2.2.2 + 56), .ref (G.2.2.2 + 62), .null, .null]) dX11_init_127 rfl fg_X11_18 (by decide) ((upE_ne (by decide)).trans upE_eq) rfl ?_
  refine k_aload_n (q := 131) (i := 0) dX11_init_130 rfl rfl rfl ?_
  refine k_get (q := 134) (n := 71) (fs := [.ref (G.2.2.2 + 1), .int (iZ 0), .ref (G.2.2.2 + 2), .ref (G.2.2.2 + 18), .ref (G.2.2.2 + 39), .ref (G.2.2.2 + 44), .ref (G.2.2.2 + 49), .int (iZ 0), .ref (G.2.2.2 + 54), .ref (G.2.2.2 + 56), .ref (G.2.2.2 + 62), .null, .null]) dX11_init_131 rfl fg_X11_49 (by decide) ((upE_ne (by decide)).trans upE_eq) rfl ?_
  refine k_aload_n (q := 135) (i := 0) dX11_init_134 rfl rfl rfl ?_
  refine k_get (q := 138) (n := 71) (fs := [.ref (G.2.2.2 + 1), .int (iZ 0), .ref (G.2.2.2 + 2), .ref (G.2.2.2 + 18), .ref (G.2.2.2 + 39), .ref (G.2.2.2 + 44), .ref (G.2.2.2 + 49), .int (iZ 0), .ref (G.2.2.2 + 54), .ref (G.2.2.2 + 56), .ref (G.2.2.2 + 62), .null, .null]) dX11_init_135 rfl fg_X11_63 (by decide) ((upE_ne (by decide)).trans upE_eq) rfl ?_
  refine k_callN (q := 141) (vs := [.ref (G.2.2.2 + 2), .ref (G.2.2.2 + 54), .ref (G.2.2.2 + 62)]) (b := 70) (kc' := 77) (ks' := 1893) om_X1_init rfl rfl im_X1 ml_X11_69 dX11_init_138 rfl rfl rfl (Nat.le_of_ble_eq_true rfl) (by decide) (by decide) (by decide) (by decide) (i_X1_70 upE_eq) rfl rfl ?_
  refine k_putG (q := 144) (n := 78) (fs := [.ref (G.2.2.2 + 1), .int (iZ 0), .ref (G.2.2.2 + 2), .ref (G.2.2.2 + 18), .ref (G.2.2.2 + 39), .ref (G.2.2.2 + 44), .ref (G.2.2.2 + 49), .int (iZ 0), .ref (G.2.2.2 + 54), .ref (G.2.2.2 + 56), .ref (G.2.2.2 + 62), .null, .null]) (Or.inl rfl) dX11_init_141 rfl fx_X11_72 (by decide) ((mixE_out (by decide)).trans ((upE_ne (by decide)).trans upE_eq)) (Nat.le_of_ble_eq_true rfl) rfl rfl ?_
  refine k_aload_n (q := 145) (i := 0) dX11_init_144 rfl rfl rfl ?_
  refine k_newN (q := 148) (n := 78) (n' := 79) (kc' := 78) (ks' := 1899) dX11_init_145 rfl fn_X11_76 (by decide) (by decide) rfl rfl rfl ?_
  refine k_dup (q := 149) dX11_init_148 rfl rfl ?_
  refine k_aload_n (q := 150) (i := 0) dX11_init_149 rfl rfl rfl ?_
  refine k_get (q := 153) (n := 79) (fs := [.ref (G.2.2.2 + 1), .int (iZ 0), .ref (G.2.2.2 + 2), .ref (G.2.2.2 + 18), .ref (G.2.2.2 + 39), .ref (G.2.2.2 + 44), .ref (G.2.2.2 + 49), .int (iZ 0), .ref (G.2.2.2 + 54), .ref (G.2.2.2 + 56), .ref (G.2.2.2 + 62), .ref (G.2.2.2 + 70), .null]) dX11_init_150 rfl fg_X11_18 (by decide) ((upE_ne (by decide)).trans upE_eq) rfl ?_
  refine k_aload_n (q := 154) (i := 0) dX11_init_153 rfl rfl rfl ?_
  refine k_get (q := 157) (n := 79) (fs := [.ref (G.2.2.2 + 1), .int (iZ 0), .ref (G.2.2.2 + 2), .ref (G.2.2.2 + 18), .ref (G.2.2.2 + 39), .ref (G.2.2.2 + 44), .ref (G.2.2.2 + 49), .int (iZ 0), .ref (G.2.2.2 + 54), .ref (G.2.2.2 + 56), .ref (G.2.2.2 + 62), .ref (G.2.2.2 + 70), .null]) dX11_init_154 rfl fg_X11_49 (by decide) ((upE_ne (by decide)).trans upE_eq) rfl ?_
  refine k_callN (q := 160) (vs := [.ref (G.2.2.2 + 2), .ref (G.2.2.2 + 54)]) (b := 78) (kc' := 81) (ks' := 1935) om_X4_init rfl rfl im_X4 ml_X11_78 dX11_init_157 rfl rfl rfl (Nat.le_of_ble_eq_true rfl) (by decide) (by decide) (by decide) (by decide) (i_X4_78 upE_eq) rfl rfl ?_
  refine k_putG (q := 163) (n := 82) (fs := [.ref (G.2.2.2 + 1), .int (iZ 0), .ref (G.2.2.2 + 2), .ref (G.2.2.2 + 18), .ref (G.2.2.2 + 39), .ref (G.2.2.2 + 44), .ref (G.2.2.2 + 49), .int (iZ 0), .ref (G.2.2.2 + 54), .ref (G.2.2.2 + 56), .ref (G.2.2.2 + 62), .ref (G.2.2.2 + 70), .null]) (Or.inl rfl) dX11_init_160 rfl fx_X11_81 (by decide) ((mixE_out (by decide)).trans ((upE_ne (by decide)).trans upE_eq)) (Nat.le_of_ble_eq_true rfl) rfl rfl ?_
  exact k_rv dX11_init_163 rfl ⟨rfl, congrArg (fun f => ((82, f, 0) : Wn)) (mix_ext (m := 81) (fun j hj => by simp (disch := omega) only [upE_ne, mixE_out']) (fun j hj => by simp (disch := omega) only [upE_ne, mixE_out']) (fun i hi => by
    match i, hi with
    | 0, _ => exact upE_eq
    | 1, _ => exact ((upE_ne (by decide)).trans ((mixE_out (by decide)).trans ((upE_ne (by decide)).trans ((upE_ne (by decide)).trans ((mixE_out (by decide)).trans ((upE_ne (by decide)).trans ((upE_ne (by decide)).trans ((mixE_out (by decide)).trans ((upE_ne (by decide)).trans ((upE_ne (by decide)).trans ((mixE_out (by decide)).trans ((upE_ne (by decide)).trans ((upE_ne (by decide)).trans ((mixE_out (by decide)).trans ((upE_ne (by decide)).trans ((upE_ne (by decide)).trans ((mixE_out (by decide)).trans ((upE_ne (by decide)).trans ((upE_ne (by decide)).trans ((mixE_out (by decide)).trans ((upE_ne (by decide)).trans ((upE_ne (by decide)).trans ((mixE_out (by decide)).trans ((upE_ne (by decide)).trans ((upE_ne (by decide)).trans ((mixE_out (by decide)).trans ((upE_ne (by decide)).trans ((upE_ne (by decide)).trans ((mixE_out (by decide)).trans ((upE_ne (by decide)).trans ((upE_ne (by decide)).trans upE_eq)))))))))))))))))))))))))))))))
    | 2, _ => exact ((upE_ne (by decide)).trans ((mixE_out (by decide)).trans ((upE_ne (by decide)).trans ((upE_ne (by decide)).trans ((mixE_out (by decide)).trans ((upE_ne (by decide)).trans ((upE_ne (by decide)).trans ((mixE_out (by decide)).trans ((upE_ne (by decide)).trans ((upE_ne (by decide)).trans ((mixE_out (by decide)).trans ((upE_ne (by decide)).trans ((upE_ne (by decide)).trans ((mixE_out (by decide)).trans ((upE_ne (by decide)).trans ((upE_ne (by decide)).trans ((mixE_out (by decide)).trans ((upE_ne (by decide)).trans ((upE_ne (by decide)).trans ((mixE_out (by decide)).trans ((upE_ne (by decide)).trans ((upE_ne (by decide)).trans ((mixE_out (by decide)).trans ((upE_ne (by decide)).trans ((upE_ne (by decide)).trans ((mixE_out (by decide)).trans ((upE_ne (by decide)).trans ((upE_ne (by decide)).trans (mixE_in (by decide) (by decide))))))))))))))))))))))))))))))
    | 3, _ => exact ((upE_ne (by decide)).trans ((mixE_out (by decide)).trans ((upE_ne (by decide)).trans ((upE_ne (by decide)).trans ((mixE_out (by decide)).trans ((upE_ne (by decide)).trans ((upE_ne (by decide)).trans ((mixE_out (by decide)).trans ((upE_ne (by decide)).trans ((upE_ne (by decide)).trans ((mixE_out (by decide)).trans ((upE_ne (by decide)).trans ((upE_ne (by decide)).trans ((mixE_out (by decide)).trans ((upE_ne (by decide)).trans ((upE_ne (by decide)).trans ((mixE_out (by decide)).trans ((upE_ne (by decide)).trans ((upE_ne (by decide)).trans ((mixE_out (by decide)).trans ((upE_ne (by decide)).trans ((upE_ne (by decide)).trans ((mixE_out (by decide)).trans ((upE_ne (by decide)).trans ((upE_ne (by decide)).trans ((mixE_out (by decide)).trans ((upE_ne (by decide)).trans ((upE_ne (by decide)).trans (mixE_in (by decide) (by decide))))))))))))))))))))))))))))))
    | 4, _ => exact ((upE_ne (by decide)).trans ((mixE_out (by decide)).trans ((upE_ne (by decide)).trans ((upE_ne (by decide)).trans ((mixE_out (by decide)).trans ((upE_ne (by decide)).trans ((upE_ne (by decide)).trans ((mixE_out (by decide)).trans ((upE_ne (by decide)).trans ((upE_ne (by decide)).trans ((mixE_out (by decide)).trans ((upE_ne (by decide)).trans ((upE_ne (by decide)).trans ((mixE_out (by decide)).trans ((upE_ne (by decide)).trans ((upE_ne (by decide)).trans ((mixE_out (by decide)).trans ((upE_ne (by decide)).trans ((upE_ne (by decide)).trans ((mixE_out (by decide)).trans ((upE_ne (by decide)).trans ((upE_ne (by decide)).trans ((mixE_out (by decide)).trans ((upE_ne (by decide)).trans ((upE_ne (by decide)).trans ((mixE_out (by decide)).trans ((upE_ne (by decide)).trans ((upE_ne (by decide)).trans (mixE_in (by decide) (by decide))))))))))))))))))))))))))))))
    | 5, _ => exact ((upE_ne (by decide)).trans ((mixE_out (by decide)).trans ((upE_ne (by decide)).trans ((upE_ne (by decide)).trans ((mixE_out (by decide)).trans ((upE_ne (by decide)).trans ((upE_ne (by decide)).trans ((mixE_out (by decide)).trans ((upE_ne (by decide)).trans ((upE_ne (by decide)).trans ((mixE_out (by decide)).trans ((upE_ne (by decide)).trans ((upE_ne (by decide)).trans ((mixE_out (by decide)).trans ((upE_ne (by decide)).trans ((upE_ne (by decide)).trans ((mixE_out (by decide)).trans ((upE_ne (by decide)).trans ((upE_ne (by decide)).trans ((mixE_out (by decide)).trans ((upE_ne (by decide)).trans ((upE_ne (by decide)).trans ((mixE_out (by decide)).trans ((upE_ne (by decide)).trans ((upE_ne (by decide)).trans ((mixE_out (by decide)).trans ((upE_ne (by decide)).trans ((upE_ne (by decide)).trans (mixE_in (by decide) (by decide))))))))))))))))))))))))))))))
    | 6, _ => exact ((upE_ne (by decide)).trans ((mixE_out (by decide)).trans ((upE_ne (by decide)).trans ((upE_ne (by decide)).trans ((mixE_out (by decide)).trans ((upE_ne (by decide)).trans ((upE_ne (by decide)).trans ((mixE_out (by decide)).trans ((upE_ne (by decide)).trans ((upE_ne (by decide)).trans ((mixE_out (by decide)).trans ((upE_ne (by decide)).trans ((upE_ne (by decide)).trans ((mixE_out (by decide)).trans ((upE_ne (by decide)).trans ((upE_ne (by decide)).trans ((mixE_out (by decide)).trans ((upE_ne (by decide)).trans ((upE_ne (by decide)).trans ((mixE_out (by decide)).trans ((upE_ne (by decide)).trans ((upE_ne (by decide)).trans ((mixE_out (by decide)).trans ((upE_ne (by decide)).trans ((upE_ne (by decide)).trans ((mixE_out (by decide)).trans ((upE_ne (by decide)).trans ((upE_ne (by decide)).trans (mixE_in (by decide) (by decide))))))))))))))))))))))))))))))
    | 7, _ => exact ((upE_ne (by decide)).trans ((mixE_out (by decide)).trans ((upE_ne (by decide)).trans ((upE_ne (by decide)).trans ((mixE_out (by decide)).trans ((upE_ne (by decide)).trans ((upE_ne (by decide)).trans ((mixE_out (by decide)).trans ((upE_ne (by decide)).trans ((upE_ne (by decide)).trans ((mixE_out (by decide)).trans ((upE_ne (by decide)).trans ((upE_ne (by decide)).trans ((mixE_out (by decide)).trans ((upE_ne (by decide)).trans ((upE_ne (by decide)).trans ((mixE_out (by decide)).trans ((upE_ne (by decide)).trans ((upE_ne (by decide)).trans ((mixE_out (by decide)).trans ((upE_ne (by decide)).trans ((upE_ne (by decide)).trans ((mixE_out (by decide)).trans ((upE_ne (by decide)).trans ((upE_ne (by decide)).trans ((mixE_out (by decide)).trans ((upE_ne (by decide)).trans ((upE_ne (by decide)).trans (mixE_in (by decide) (by decide))))))))))))))))))))))))))))))
    | 8, _ => exact ((upE_ne (by decide)).trans ((mixE_out (by decide)).trans ((upE_ne (by decide)).trans ((upE_ne (by decide)).trans ((mixE_out (by decide)).trans ((upE_ne (by decide)).trans ((upE_ne (by decide)).trans ((mixE_out (by decide)).trans ((upE_ne (by decide)).trans ((upE_ne (by decide)).trans ((mixE_out (by decide)).trans ((upE_ne (by decide)).trans ((upE_ne (by decide)).trans ((mixE_out (by decide)).trans ((upE_ne (by decide)).trans ((upE_ne (by decide)).trans ((mixE_out (by decide)).trans ((upE_ne (by decide)).trans ((upE_ne (by decide)).trans ((mixE_out (by decide)).trans ((upE_ne (by decide)).trans ((upE_ne (by decide)).trans ((mixE_out (by decide)).trans ((upE_ne (by decide)).trans ((upE_ne (by decide)).trans ((mixE_out (by decide)).trans ((upE_ne (by decide)).trans ((upE_ne (by decide)).trans (mixE_in (by decide) (by decide))))))))))))))))))))))))))))))
    | 9, _ => exact ((upE_ne (by decide)).trans ((mixE_out (by decide)).trans ((upE_ne (by decide)).trans ((upE_ne (by decide)).trans ((mixE_out (by decide)).trans ((upE_ne (by decide)).trans ((upE_ne (by decide)).trans ((mixE_out (by decide)).trans ((upE_ne (by decide)).trans ((upE_ne (by decide)).trans ((mixE_out (by decide)).trans ((upE_ne (by decide)).trans ((upE_ne (by decide)).trans ((mixE_out (by decide)).trans ((upE_ne (by decide)).trans ((upE_ne (by decide)).trans ((mixE_out (by decide)).trans ((upE_ne (by decide)).trans ((upE_ne (by decide)).trans ((mixE_out (by decide)).trans ((upE_ne (by decide)).trans ((upE_ne (by decide)).trans ((mixE_out (by decide)).trans ((upE_ne (by decide)).trans ((upE_ne (by decide)).trans ((mixE_out (by decide)).trans ((upE_ne (by decide)).trans ((upE_ne (by decide)).trans (mixE_in (by decide) (by decide))))))))))))))))))))))))))))))
    | 10, _ => exact ((upE_ne (by decide)).trans ((mixE_out (by decide)).trans ((upE_ne (by decide)).trans ((upE_ne (by decide)).trans ((mixE_out (by decide)).trans ((upE_ne (by decide)).trans ((upE_ne (by decide)).trans ((mixE_out (by decide)).trans ((upE_ne (by decide)).trans ((upE_ne (by decide)).trans ((mixE_out (by decide)).trans ((upE_ne (by decide)).trans ((upE_ne (by decide)).trans ((mixE_out (by decide)).trans ((upE_ne (by decide)).trans ((upE_ne (by decide)).trans ((mixE_out (by decide)).trans ((upE_ne (by decide)).trans ((upE_ne (by decide)).trans ((mixE_out (by decide)).trans ((upE_ne (by decide)).trans ((upE_ne (by decide)).trans ((mixE_out (by decide)).trans ((upE_ne (by decide)).trans ((upE_ne (by decide)).trans ((mixE_out (by decide)).trans ((upE_ne (by decide)).trans ((upE_ne (by decide)).trans (mixE_in (by decide) (by decide))))))))))))))))))))))))))))))
    | 11, _ => exact ((upE_ne (by decide)).trans ((mixE_out (by decide)).trans ((upE_ne (by decide)).trans ((upE_ne (by decide)).trans ((mixE_out (by decide)).trans ((upE_ne (by decide)).trans ((upE_ne (by decide)).trans ((mixE_out (by decide)).trans ((upE_ne (by decide)).trans ((upE_ne (by decide)).trans ((mixE_out (by decide)).trans ((upE_ne (by decide)).trans ((upE_ne (by decide)).trans ((mixE_out (by decide)).trans ((upE_ne (by decide)).trans ((upE_ne (by decide)).trans ((mixE_out (by decide)).trans ((upE_ne (by decide)).trans ((upE_ne (by decide)).trans ((mixE_out (by decide)).trans ((upE_ne (by decide)).trans ((upE_ne (by decide)).trans ((mixE_out (by decide)).trans ((upE_ne (by decide)).trans ((upE_ne (by decide)).trans ((mixE_out (by decide)).trans ((upE_ne (by decide)).trans ((upE_ne (by decide)).trans (mixE_in (by decide) (by decide))))))))))))))))))))))))))))))
    | 12, _ => exact ((upE_ne (by decide)).trans ((mixE_out (by decide)).trans ((upE_ne (by decide)).trans ((upE_ne (by decide)).trans ((mixE_out (by decide)).trans ((upE_ne (by decide)).trans ((upE_ne (by decide)).trans ((mixE_out (by decide)).trans ((upE_ne (by decide)).trans ((upE_ne (by decide)).trans ((mixE_out (by decide)).trans ((upE_ne (by decide)).trans ((upE_ne (by decide)).trans ((mixE_out (by decide)).trans ((upE_ne (by decide)).trans ((upE_ne (by decide)).trans ((mixE_out (by decide)).trans ((upE_ne (by decide)).trans ((upE_ne (by decide)).trans ((mixE_out (by decide)).trans ((upE_ne (by decide)).trans ((upE_ne (by decide)).trans ((mixE_out (by decide)).trans ((upE_ne (by decide)).trans ((upE_ne (by decide)).trans ((mixE_out (by decide)).trans ((upE_ne (by decide)).trans ((upE_ne (by decide)).trans (mixE_in (by decide) (by decide))))))))))))))))))))))))))))))
    | 13, _ => exact ((upE_ne (by decide)).trans ((mixE_out (by decide)).trans ((upE_ne (by decide)).trans ((upE_ne (by decide)).trans ((mixE_out (by decide)).trans ((upE_ne (by decide)).trans ((upE_ne (by decide)).trans ((mixE_out (by decide)).trans ((upE_ne (by decide)).trans ((upE_ne (by decide)).trans ((mixE_out (by decide)).trans ((upE_ne (by decide)).trans ((upE_ne (by decide)).trans ((mixE_out (by decide)).trans ((upE_ne (by decide)).trans ((upE_ne (by decide)).trans ((mixE_out (by decide)).trans ((upE_ne (by decide)).trans ((upE_ne (by decide)).trans ((mixE_out (by decide)).trans ((upE_ne (by decide)).trans ((upE_ne (by decide)).trans ((mixE_out (by decide)).trans ((upE_ne (by decide)).trans ((upE_ne (by decide)).trans ((mixE_out (by decide)).trans ((upE_ne (by decide)).trans ((upE_ne (by decide)).trans (mixE_in (by decide) (by decide))))))))))))))))))))))))))))))
    | 14, _ => exact ((upE_ne (by decide)).trans ((mixE_out (by decide)).trans ((upE_ne (by decide)).trans ((upE_ne (by decide)).trans ((mixE_out (by decide)).trans ((upE_ne (by decide)).trans ((upE_ne (by decide)).trans ((mixE_out (by decide)).trans ((upE_ne (by decide)).trans ((upE_ne (by decide)).trans ((mixE_out (by decide)).trans ((upE_ne (by decide)).trans ((upE_ne (by decide)).trans ((mixE_out (by decide)).trans ((upE_ne (by decide)).trans ((upE_ne (by decide)).trans ((mixE_out (by decide)).trans ((upE_ne (by decide)).trans ((upE_ne (by decide)).trans ((mixE_out (by decide)).trans ((upE_ne (by decide)).trans ((upE_ne (by decide)).trans ((mixE_out (by decide)).trans ((upE_ne (by decide)).trans ((upE_ne (by decide)).trans ((mixE_out (by decide)).trans ((upE_ne (by decide)).trans ((upE_ne (by decide)).trans (mixE_in (by decide) (by decide))))))))))))))))))))))))))))))
    | 15, _ => exact ((upE_ne (by decide)).trans ((mixE_out (by decide)).trans ((upE_ne (by decide)).trans ((upE_ne (by decide)).trans ((mixE_out (by decide)).trans ((upE_ne (by decide)).trans ((upE_ne (by decide)).trans ((mixE_out (by decide)).trans ((upE_ne (by decide)).trans ((upE_ne (by decide)).trans ((mixE_out (by decide)).trans ((upE_ne (by decide)).trans ((upE_ne (by decide)).trans ((mixE_out (by decide)).trans ((upE_ne (by decide)).trans ((upE_ne (by decide)).trans ((mixE_out (by decide)).trans ((upE_ne (by decide)).trans ((upE_ne (by decide)).trans ((mixE_out (by decide)).trans ((upE_ne (by decide)).trans ((upE_ne (by decide)).trans ((mixE_out (by decide)).trans ((upE_ne (by decide)).trans ((upE_ne (by decide)).trans ((mixE_out (by decide)).trans ((upE_ne (by decide)).trans ((upE_ne (by decide)).trans (mixE_in (by decide) (by decide))))))))))))))))))))))))))))))
    | 16, _ => exact ((upE_ne (by decide)).trans ((mixE_out (by decide)).trans ((upE_ne (by decide)).trans ((upE_ne (by decide)).trans ((mixE_out (by decide)).trans ((upE_ne (by decide)).trans ((upE_ne (by decide)).trans ((mixE_out (by decide)).trans ((upE_ne (by decide)).trans ((upE_ne (by decide)).trans ((mixE_out (by decide)).trans ((upE_ne (by decide)).trans ((upE_ne (by decide)).trans ((mixE_out (by decide)).trans ((upE_ne (by decide)).trans ((upE_ne (by decide)).trans ((mixE_out (by decide)).trans ((upE_ne (by decide)).trans ((upE_ne (by decide)).trans ((mixE_out (by decide)).trans ((upE_ne (by decide)).trans ((upE_ne (by decide)).trans ((mixE_out (by decide)).trans ((upE_ne (by decide)).trans ((upE_ne (by decide)).trans ((mixE_out (by decide)).trans ((upE_ne (by decide)).trans ((upE_ne (by decide)).trans (mixE_in (by decide) (by decide))))))))))))))))))))))))))))))
    | 17, _ => exact ((upE_ne (by decide)).trans ((mixE_out (by decide)).trans ((upE_ne (by decide)).trans ((upE_ne (by decide)).trans ((mixE_out (by decide)).trans ((upE_ne (by decide)).trans ((upE_ne (by decide)).trans ((mixE_out (by decide)).trans ((upE_ne (by decide)).trans ((upE_ne (by decide)).trans ((mixE_out (by decide)).trans ((upE_ne (by decide)).trans ((upE_ne (by decide)).trans ((mixE_out (by decide)).trans ((upE_ne (by decide)).trans ((upE_ne (by decide)).trans ((mixE_out (by decide)).trans ((upE_ne (by decide)).trans ((upE_ne (by decide)).trans ((mixE_out (by decide)).trans ((upE_ne (by decide)).trans ((upE_ne (by decide)).trans ((mixE_out (by decide)).trans ((upE_ne (by decide)).trans ((upE_ne (by decide)).trans ((mixE_out (by decide)).trans ((upE_ne (by decide)).trans ((upE_ne (by decide)).trans (mixE_in (by decide) (by decide))))))))))))))))))))))))))))))
    | 18, _ => exact ((upE_ne (by decide)).trans ((mixE_out (by decide)).trans ((upE_ne (by decide)).trans ((upE_ne (by decide)).trans ((mixE_out (by decide)).trans ((upE_ne (by decide)).trans ((upE_ne (by decide)).trans ((mixE_out (by decide)).trans ((upE_ne (by decide)).trans ((upE_ne (by decide)).trans ((mixE_out (by decide)).trans ((upE_ne (by decide)).trans ((upE_ne (by decide)).trans ((mixE_out (by decide)).trans ((upE_ne (by decide)).trans ((upE_ne (by decide)).trans ((mixE_out (by decide)).trans ((upE_ne (by decide)).trans ((upE_ne (by decide)).trans ((mixE_out (by decide)).trans ((upE_ne (by decide)).trans ((upE_ne (by decide)).trans ((mixE_out (by decide)).trans ((upE_ne (by decide)).trans ((upE_ne (by decide)).trans (mixE_in (by decide) (by decide)))))))))))))))))))))))))))
    | 19, _ => exact ((upE_ne (by decide)).trans ((mixE_out (by decide)).trans ((upE_ne (by decide)).trans ((upE_ne (by decide)).trans ((mixE_out (by decide)).trans ((upE_ne (by decide)).trans ((upE_ne (by decide)).trans ((mixE_out (by decide)).trans ((upE_ne (by decide)).trans ((upE_ne (by decide)).trans ((mixE_out (by decide)).trans ((upE_ne (by decide)).trans ((upE_ne (by decide)).trans ((mixE_out (by decide)).trans ((upE_ne (by decide)).trans ((upE_ne (by decide)).trans ((mixE_out (by decide)).trans ((upE_ne (by decide)).trans ((upE_ne (by decide)).trans ((mixE_out (by decide)).trans ((upE_ne (by decide)).trans ((upE_ne (by decide)).trans ((mixE_out (by decide)).trans ((upE_ne (by decide)).trans ((upE_ne (by decide)).trans (mixE_in (by decide) (by decide)))))))))))))))))))))))))))
    | 20, _ => exact ((upE_ne (by decide)).trans ((mixE_out (by decide)).trans ((upE_ne (by decide)).trans ((upE_ne (by decide)).trans ((mixE_out (by decide)).trans ((upE_ne (by decide)).trans ((upE_ne (by decide)).trans ((mixE_out (by decide)).trans ((upE_ne (by decide)).trans ((upE_ne (by decide)).trans ((mixE_out (by decide)).trans ((upE_ne (by decide)).trans ((upE_ne (by decide)).trans ((mixE_out (by decide)).trans ((upE_ne (by decide)).trans ((upE_ne (by decide)).trans ((mixE_out (by decide)).trans ((upE_ne (by decide)).trans ((upE_ne (by decide)).trans ((mixE_out (by decide)).trans ((upE_ne (by decide)).trans ((upE_ne (by decide)).trans ((mixE_out (by decide)).trans ((upE_ne (by decide)).trans ((upE_ne (by decide)).trans (mixE_in (by decide) (by decide)))))))))))))))))))))))))))
    | 21, _ => exact ((upE_ne (by decide)).trans ((mixE_out (by decide)).trans ((upE_ne (by decide)).trans ((upE_ne (by decide)).trans ((mixE_out (by decide)).trans ((upE_ne (by decide)).trans ((upE_ne (by decide)).trans ((mixE_out (by decide)).trans ((upE_ne (by decide)).trans ((upE_ne (by decide)).trans ((mixE_out (by decide)).trans ((upE_ne (by decide)).trans ((upE_ne (by decide)).trans ((mixE_out (by decide)).trans ((upE_ne (by decide)).trans ((upE_ne (by decide)).trans ((mixE_out (by decide)).trans ((upE_ne (by decide)).trans ((upE_ne (by decide)).trans ((mixE_out (by decide)).trans ((upE_ne (by decide)).trans ((upE_ne (by decide)).trans ((mixE_out (by decide)).trans ((upE_ne (by decide)).trans ((upE_ne (by decide)).trans (mixE_in (by decide) (by decide)))))))))))))))))))))))))))
    | 22, _ => exact ((upE_ne (by decide)).trans ((mixE_out (by decide)).trans ((upE_ne (by decide)).trans ((upE_ne (by decide)).trans ((mixE_out (by decide)).trans ((upE_ne (by decide)).trans ((upE_ne (by decide)).trans ((mixE_out (by decide)).trans ((upE_ne (by decide)).trans ((upE_ne (by decide)).trans ((mixE_out (by decide)).trans ((upE_ne (by decide)).trans ((upE_ne (by decide)).trans ((mixE_out (by decide)).trans ((upE_ne (by decide)).trans ((upE_ne (by decide)).trans ((mixE_out (by decide)).trans ((upE_ne (by decide)).trans ((upE_ne (by decide)).trans ((mixE_out (by decide)).trans ((upE_ne (by decide)).trans ((upE_ne (by decide)).trans ((mixE_out (by decide)).trans ((upE_ne (by decide)).trans ((upE_ne (by decide)).trans (mixE_in (by decide) (by decide)))))))))))))))))))))))))))
    | 23, _ => exact ((upE_ne (by decide)).trans ((mixE_out (by decide)).trans ((upE_ne (by decide)).trans ((upE_ne (by decide)).trans ((mixE_out (by decide)).trans ((upE_ne (by decide)).trans ((upE_ne (by decide)).trans ((mixE_out (by decide)).trans ((upE_ne (by decide)).trans ((upE_ne (by decide)).trans ((mixE_out (by decide)).trans ((upE_ne (by decide)).trans ((upE_ne (by decide)).trans ((mixE_out (by decide)).trans ((upE_ne (by decide)).trans ((upE_ne (by decide)).trans ((mixE_out (by decide)).trans ((upE_ne (by decide)).trans ((upE_ne (by decide)).trans ((mixE_out (by decide)).trans ((upE_ne (by decide)).trans ((upE_ne (by decide)).trans ((mixE_out (by decide)).trans ((upE_ne (by decide)).trans ((upE_ne (by decide)).trans (mixE_in (by decide) (by decide)))))))))))))))))))))))))))
    | 24, _ => exact ((upE_ne (by decide)).trans ((mixE_out (by decide)).trans ((upE_ne (by decide)).trans ((upE_ne (by decide)).trans ((mixE_out (by decide)).trans ((upE_ne (by decide)).trans ((upE_ne (by decide)).trans ((mixE_out (by decide)).trans ((upE_ne (by decide)).trans ((upE_ne (by decide)).trans ((mixE_out (by decide)).trans ((upE_ne (by decide)).trans ((upE_ne (by decide)).trans ((mixE_out (by decide)).trans ((upE_ne (by decide)).trans ((upE_ne (by decide)).trans ((mixE_out (by decide)).trans ((upE_ne (by decide)).trans ((upE_ne (by decide)).trans ((mixE_out (by decide)).trans ((upE_ne (by decide)).trans ((upE_ne (by decide)).trans ((mixE_out (by decide)).trans ((upE_ne (by decide)).trans ((upE_ne (by decide)).trans (mixE_in (by decide) (by decide)))))))))))))))))))))))))))
    | 25, _ => exact ((upE_ne (by decide)).trans ((mixE_out (by decide)).trans ((upE_ne (by decide)).trans ((upE_ne (by decide)).trans ((mixE_out (by decide)).trans ((upE_ne (by decide)).trans ((upE_ne (by decide)).trans ((mixE_out (by decide)).trans ((upE_ne (by decide)).trans ((upE_ne (by decide)).trans ((mixE_out (by decide)).trans ((upE_ne (by decide)).trans ((upE_ne (by decide)).trans ((mixE_out (by decide)).trans ((upE_ne (by decide)).trans ((upE_ne (by decide)).trans ((mixE_out (by decide)).trans ((upE_ne (by decide)).trans ((upE_ne (by decide)).trans ((mixE_out (by decide)).trans ((upE_ne (by decide)).trans ((upE_ne (by decide)).trans ((mixE_out (by decide)).trans ((upE_ne (by decide)).trans ((upE_ne (by decide)).trans (mixE_in (by decide) (by decide)))))))))))))))))))))))))))
    | 26, _ => exact ((upE_ne (by decide)).trans ((mixE_out (by decide)).trans ((upE_ne (by decide)).trans ((upE_ne (by decide)).trans ((mixE_out (by decide)).trans ((upE_ne (by decide)).trans ((upE_ne (by decide)).trans ((mixE_out (by decide)).trans ((upE_ne (by decide)).trans ((upE_ne (by decide)).trans ((mixE_out (by decide)).trans ((upE_ne (by decide)).trans ((upE_ne (by decide)).trans ((mixE_out (by decide)).trans ((upE_ne (by decide)).trans ((upE_ne (by decide)).trans ((mixE_out (by decide)).trans ((upE_ne (by decide)).trans ((upE_ne (by decide)).trans ((mixE_out (by decide)).trans ((upE_ne (by decide)).trans ((upE_ne (by decide)).trans ((mixE_out (by decide)).trans ((upE_ne (by decide)).trans ((upE_ne (by decide)).trans (mixE_in (by decide) (by decide)))))))))))))))))))))))))))
    | 27, _ => exact ((upE_ne (by decide)).trans ((mixE_out (by decide)).trans ((upE_ne (by decide)).trans ((upE_ne (by decide)).trans ((mixE_out (by decide)).trans ((upE_ne (by decide)).trans ((upE_ne (by decide)).trans ((mixE_out (by decide)).trans ((upE_ne (by decide)).trans ((upE_ne (by decide)).trans ((mixE_out (by decide)).trans ((upE_ne (by decide)).trans ((upE_ne (by decide)).trans ((mixE_out (by decide)).trans ((upE_ne (by decide)).trans ((upE_ne (by decide)).trans ((mixE_out (by decide)).trans ((upE_ne (by decide)).trans ((upE_ne (by decide)).trans ((mixE_out (by decide)).trans ((upE_ne (by decide)).trans ((upE_ne (by decide)).trans ((mixE_out (by decide)).trans ((upE_ne (by decide)).trans ((upE_ne (by decide)).trans (mixE_in (by decide) (by decide)))))))))))))))))))))))))))
    | 28, _ => exact ((upE_ne (by decide)).trans ((mixE_out (by decide)).trans ((upE_ne (by decide)).trans ((upE_ne (by decide)).trans ((mixE_out (by decide)).trans ((upE_ne (by decide)).trans ((upE_ne (by decide)).trans ((mixE_out (by decide)).trans ((upE_ne (by decide)).trans ((upE_ne (by decide)).trans ((mixE_out (by decide)).trans ((upE_ne (by decide)).trans ((upE_ne (by decide)).trans ((mixE_out (by decide)).trans ((upE_ne (by decide)).trans ((upE_ne (by decide)).trans ((mixE_out (by decide)).trans ((upE_ne (by decide)).trans ((upE_ne (by decide)).trans ((mixE_out (by decide)).trans ((upE_ne (by decide)).trans ((upE_ne (by decide)).trans ((mixE_out (by decide)).trans ((upE_ne (by decide)).trans ((upE_ne (by decide)).trans (mixE_in (by decide) (by decide)))))))))))))))))))))))))))
    | 29, _ => exact ((upE_ne (by decide)).trans ((mixE_out (by decide)).trans ((upE_ne (by decide)).trans ((upE_ne (by decide)).trans ((mixE_out (by decide)).trans ((upE_ne (by decide)).trans ((upE_ne (by decide)).trans ((mixE_out (by decide)).trans ((upE_ne (by decide)).trans ((upE_ne (by decide)).trans ((mixE_out (by decide)).trans ((upE_ne (by decide)).trans ((upE_ne (by decide)).trans ((mixE_out (by decide)).trans ((upE_ne (by decide)).trans ((upE_ne (by decide)).trans ((mixE_out (by decide)).trans ((upE_ne (by decide)).trans ((upE_ne (by decide)).trans ((mixE_out (by decide)).trans ((upE_ne (by decide)).trans ((upE_ne (by decide)).trans ((mixE_out (by decide)).trans ((upE_ne (by decide)).trans ((upE_ne (by decide)).trans (mixE_in (by decide) (by decide)))))))))))))))))))))))))))
    | 30, _ => exact ((upE_ne (by decide)).trans ((mixE_out (by decide)).trans ((upE_ne (by decide)).trans ((upE_ne (by decide)).trans ((mixE_out (by decide)).trans ((upE_ne (by decide)).trans ((upE_ne (by decide)).trans ((mixE_out (by decide)).trans ((upE_ne (by decide)).trans ((upE_ne (by decide)).trans ((mixE_out (by decide)).trans ((upE_ne (by decide)).trans ((upE_ne (by decide)).trans ((mixE_out (by decide)).trans ((upE_ne (by decide)).trans ((upE_ne (by decide)).trans ((mixE_out (by decide)).trans ((upE_ne (by decide)).trans ((upE_ne (by decide)).trans ((mixE_out (by decide)).trans ((upE_ne (by decide)).trans ((upE_ne (by decide)).trans ((mixE_out (by decide)).trans ((upE_ne (by decide)).trans ((upE_ne (by decide)).trans (mixE_in (by decide) (by decide)))))))))))))))))))))))))))
    | 31, _ => exact ((upE_ne (by decide)).trans ((mixE_out (by decide)).trans ((upE_ne (by decide)).trans ((upE_ne (by decide)).trans ((mixE_out (by decide)).trans ((upE_ne (by decide)).trans ((upE_ne (by decide)).trans ((mixE_out (by decide)).trans ((upE_ne (by decide)).trans ((upE_ne (by decide)).trans ((mixE_out (by decide)).trans ((upE_ne (by decide)).trans ((upE_ne (by decide)).trans ((mixE_out (by decide)).trans ((upE_ne (by decide)).trans ((upE_ne (by decide)).trans ((mixE_out (by decide)).trans ((upE_ne (by decide)).trans ((upE_ne (by decide)).trans ((mixE_out (by decide)).trans ((upE_ne (by decide)).trans ((upE_ne (by decide)).trans ((mixE_out (by decide)).trans ((upE_ne (by decide)).trans ((upE_ne (by decide)).trans (mixE_in (by decide) (by decide)))))))))))))))))))))))))))
    | 32, _ => exact ((upE_ne (by decide)).trans ((mixE_out (by decide)).trans ((upE_ne (by decide)).trans ((upE_ne (by decide)).trans ((mixE_out (by decide)).trans ((upE_ne (by decide)).trans ((upE_ne (by decide)).trans ((mixE_out (by decide)).trans ((upE_ne (by decide)).trans ((upE_ne (by decide)).trans ((mixE_out (by decide)).trans ((upE_ne (by decide)).trans ((upE_ne (by decide)).trans ((mixE_out (by decide)).trans ((upE_ne (by decide)).trans ((upE_ne (by decide)).trans ((mixE_out (by decide)).trans ((upE_ne (by decide)).trans ((upE_ne (by decide)).trans ((mixE_out (by decide)).trans ((upE_ne (by decide)).trans ((upE_ne (by decide)).trans ((mixE_out (by decide)).trans ((upE_ne (by decide)).trans ((upE_ne (by decide)).trans (mixE_in (by decide) (by decide)))))))))))))))))))))))))))
    | 33, _ => exact ((upE_ne (by decide)).trans ((mixE_out (by decide)).trans ((upE_ne (by decide)).trans ((upE_ne (by decide)).trans ((mixE_out (by decide)).trans ((upE_ne (by decide)).trans ((upE_ne (by decide)).trans ((mixE_out (by decide)).trans ((upE_ne (by decide)).trans ((upE_ne (by decide)).trans ((mixE_out (by decide)).trans ((upE_ne (by decide)).trans ((upE_ne (by decide)).trans ((mixE_out (by decide)).trans ((upE_ne (by decide)).trans ((upE_ne (by decide)).trans ((mixE_out (by decide)).trans ((upE_ne (by decide)).trans ((upE_ne (by decide)).trans ((mixE_out (by decide)).trans ((upE_ne (by decide)).trans ((upE_ne (by decide)).trans ((mixE_out (by decide)).trans ((upE_ne (by decide)).trans ((upE_ne (by decide)).trans (mixE_in (by decide) (by decide)))))))))))))))))))))))))))
    | 34, _ => exact ((upE_ne (by decide)).trans ((mixE_out (by decide)).trans ((upE_ne (by decide)).trans ((upE_ne (by decide)).trans ((mixE_out (by decide)).trans ((upE_ne (by decide)).trans ((upE_ne (by decide)).trans ((mixE_out (by decide)).trans ((upE_ne (by decide)).trans ((upE_ne (by decide)).trans ((mixE_out (by decide)).trans ((upE_ne (by decide)).trans ((upE_ne (by decide)).trans ((mixE_out (by decide)).trans ((upE_ne (by decide)).trans ((upE_ne (by decide)).trans ((mixE_out (by decide)).trans ((upE_ne (by decide)).trans ((upE_ne (by decide)).trans ((mixE_out (by decide)).trans ((upE_ne (by decide)).trans ((upE_ne (by decide)).trans ((mixE_out (by decide)).trans ((upE_ne (by decide)).trans ((upE_ne (by decide)).trans (mixE_in (by decide) (by decide)))))))))))))))))))))))))))
    | 35, _ => exact ((upE_ne (by decide)).trans ((mixE_out (by decide)).trans ((upE_ne (by decide)).trans ((upE_ne (by decide)).trans ((mixE_out (by decide)).trans ((upE_ne (by decide)).trans ((upE_ne (by decide)).trans ((mixE_out (by decide)).trans ((upE_ne (by decide)).trans ((upE_ne (by decide)).trans ((mixE_out (by decide)).trans ((upE_ne (by decide)).trans ((upE_ne (by decide)).trans ((mixE_out (by decide)).trans ((upE_ne (by decide)).trans ((upE_ne (by decide)).trans ((mixE_out (by decide)).trans ((upE_ne (by decide)).trans ((upE_ne (by decide)).trans ((mixE_out (by decide)).trans ((upE_ne (by decide)).trans ((upE_ne (by decide)).trans ((mixE_out (by decide)).trans ((upE_ne (by decide)).trans ((upE_ne (by decide)).trans (mixE_in (by decide) (by decide)))))))))))))))))))))))))))
    | 36, _ => exact ((upE_ne (by decide)).trans ((mixE_out (by decide)).trans ((upE_ne (by decide)).trans ((upE_ne (by decide)).trans ((mixE_out (by decide)).trans ((upE_ne (by decide)).trans ((upE_ne (by decide)).trans ((mixE_out (by decide)).trans ((upE_ne (by decide)).trans ((upE_ne (by decide)).trans ((mixE_out (by decide)).trans ((upE_ne (by decide)).trans ((upE_ne (by decide)).trans ((mixE_out (by decide)).trans ((upE_ne (by decide)).trans ((upE_ne (by decide)).trans ((mixE_out (by decide)).trans ((upE_ne (by decide)).trans ((upE_ne (by decide)).trans ((mixE_out (by decide)).trans ((upE_ne (by decide)).trans ((upE_ne (by decide)).trans ((mixE_out (by decide)).trans ((upE_ne (by decide)).trans ((upE_ne (by decide)).trans (mixE_in (by decide) (by decide)))))))))))))))))))))))))))
    | 37, _ => exact ((upE_ne (by decide)).trans ((mixE_out (by decide)).trans ((upE_ne (by decide)).trans ((upE_ne (by decide)).trans ((mixE_out (by decide)).trans ((upE_ne (by decide)).trans ((upE_ne (by decide)).trans ((mixE_out (by decide)).trans ((upE_ne (by decide)).trans ((upE_ne (by decide)).trans ((mixE_out (by decide)).trans ((upE_ne (by decide)).trans ((upE_ne (by decide)).trans ((mixE_out (by decide)).trans ((upE_ne (by decide)).trans ((upE_ne (by decide)).trans ((mixE_out (by decide)).trans ((upE_ne (by decide)).trans ((upE_ne (by decide)).trans ((mixE_out (by decide)).trans ((upE_ne (by decide)).trans ((upE_ne (by decide)).trans ((mixE_out (by decide)).trans ((upE_ne (by decide)).trans ((upE_ne (by decide)).trans (mixE_in (by decide) (by decide)))))))))))))))))))))))))))
    | 38, _ => exact ((upE_ne (by decide)).trans ((mixE_out (by decide)).trans ((upE_ne (by decide)).trans ((upE_ne (by decide)).trans ((mixE_out (by decide)).trans ((upE_ne (by decide)).trans ((upE_ne (by decide)).trans ((mixE_out (by decide)).trans ((upE_ne (by decide)).trans ((upE_ne (by decide)).trans ((mixE_out (by decide)).trans ((upE_ne (by decide)).trans ((upE_ne (by decide)).trans ((mixE_out (by decide)).trans ((upE_ne (by decide)).trans ((upE_ne (by decide)).trans ((mixE_out (by decide)).trans ((upE_ne (by decide)).trans ((upE_ne (by decide)).trans ((mixE_out (by decide)).trans ((upE_ne (by decide)).trans ((upE_ne (by decide)).trans ((mixE_out (by decide)).trans ((upE_ne (by decide)).trans ((upE_ne (by decide)).trans (mixE_in (by decide) (by decide)))))))))))))))))))))))))))
    | 39, _ => exact ((upE_ne (by decide)).trans ((mixE_out (by decide)).trans ((upE_ne (by decide)).trans ((upE_ne (by decide)).trans ((mixE_out (by decide)).trans ((upE_ne (by decide)).trans ((upE_ne (by decide)).trans ((mixE_out (by decide)).trans ((upE_ne (by decide)).trans ((upE_ne (by decide)).trans ((mixE_out (by decide)).trans ((upE_ne (by decide)).trans ((upE_ne (by decide)).trans ((mixE_out (by decide)).trans ((upE_ne (by decide)).trans ((upE_ne (by decide)).trans ((mixE_out (by decide)).trans ((upE_ne (by decide)).trans ((upE_ne (by decide)).trans ((mixE_out (by decide)).trans ((upE_ne (by decide)).trans ((upE_ne (by decide)).trans (mixE_in (by decide) (by decide))))))))))))))))))))))))
    | 40, _ => exact ((upE_ne (by decide)).trans ((mixE_out (by decide)).trans ((upE_ne (by decide)).trans ((upE_ne (by decide)).trans ((mixE_out (by decide)).trans ((upE_ne (by decide)).trans ((upE_ne (by decide)).trans ((mixE_out (by decide)).trans ((upE_ne (by decide)).trans ((upE_ne (by decide)).trans ((mixE_out (by decide)).trans ((upE_ne (by decide)).trans ((upE_ne (by decide)).trans ((mixE_out (by decide)).trans ((upE_ne (by decide)).trans ((upE_ne (by decide)).trans ((mixE_out (by decide)).trans ((upE_ne (by decide)).trans ((upE_ne (by decide)).trans ((mixE_out (by decide)).trans ((upE_ne (by decide)).trans ((upE_ne (by decide)).trans (mixE_in (by decide) (by decide))))))))))))))))))))))))
    | 41, _ => exact ((upE_ne (by decide)).trans ((mixE_out (by decide)).trans ((upE_ne (by decide)).trans ((upE_ne (by decide)).trans ((mixE_out (by decide)).trans ((upE_ne (by decide)).trans ((upE_ne (by decide)).trans ((mixE_out (by decide)).trans ((upE_ne (by decide)).trans ((upE_ne (by decide)).trans ((mixE_out (by decide)).trans ((upE_ne (by decide)).trans ((upE_ne (by decide)).trans ((mixE_out (by decide)).trans ((upE_ne (by decide)).trans ((upE_ne (by decide)).trans ((mixE_out (by decide)).trans ((upE_ne (by decide)).trans ((upE_ne (by decide)).trans ((mixE_out (by decide)).trans ((upE_ne (by decide)).trans ((upE_ne (by decide)).trans (mixE_in (by decide) (by decide))))))))))))))))))))))))
    | 42, _ => exact ((upE_ne (by decide)).trans ((mixE_out (by decide)).trans ((upE_ne (by decide)).trans ((upE_ne (by decide)).trans ((mixE_out (by decide)).trans ((upE_ne (by decide)).trans ((upE_ne (by decide)).trans ((mixE_out (by decide)).trans ((upE_ne (by decide)).trans ((upE_ne (by decide)).trans ((mixE_out (by decide)).trans ((upE_ne (by decide)).trans ((upE_ne (by decide)).trans ((mixE_out (by decide)).trans ((upE_ne (by decide)).trans ((upE_ne (by decide)).trans ((mixE_out (by decide)).trans ((upE_ne (by decide)).trans ((upE_ne (by decide)).trans ((mixE_out (by decide)).trans ((upE_ne (by decide)).trans ((upE_ne (by decide)).trans (mixE_in (by decide) (by decide))))))))))))))))))))))))
    | 43, _ => exact ((upE_ne (by decide)).trans ((mixE_out (by decide)).trans ((upE_ne (by decide)).trans ((upE_ne (by decide)).trans ((mixE_out (by decide)).trans ((upE_ne (by decide)).trans ((upE_ne (by decide)).trans ((mixE_out (by decide)).trans ((upE_ne (by decide)).trans ((upE_ne (by decide)).trans ((mixE_out (by decide)).trans ((upE_ne (by decide)).trans ((upE_ne (by decide)).trans ((mixE_out (by decide)).trans ((upE_ne (by decide)).trans ((upE_ne (by decide)).trans ((mixE_out (by decide)).trans ((upE_ne (by decide)).trans ((upE_ne (by decide)).trans ((mixE_out (by decide)).trans ((upE_ne (by decide)).trans ((upE_ne (by decide)).trans (mixE_in (by decide) (by decide))))))))))))))))))))))))
    | 44, _ => exact ((upE_ne (by decide)).trans ((mixE_out (by decide)).trans ((upE_ne (by decide)).trans ((upE_ne (by decide)).trans ((mixE_out (by decide)).trans ((upE_ne (by decide)).trans ((upE_ne (by decide)).trans ((mixE_out (by decide)).trans ((upE_ne (by decide)).trans ((upE_ne (by decide)).trans ((mixE_out (by decide)).trans ((upE_ne (by decide)).trans ((upE_ne (by decide)).trans ((mixE_out (by decide)).trans ((upE_ne (by decide)).trans ((upE_ne (by decide)).trans ((mixE_out (by decide)).trans ((upE_ne (by decide)).trans ((upE_ne (by decide)).trans (mixE_in (by decide) (by decide)))))))))))))))))))))
    | 45, _ => exact ((upE_ne (by decide)).trans ((mixE_out (by decide)).trans ((upE_ne (by decide)).trans ((upE_ne (by decide)).trans ((mixE_out (by decide)).trans ((upE_ne (by decide)).trans ((upE_ne (by decide)).trans ((mixE_out (by decide)).trans ((upE_ne (by decide)).trans ((upE_ne (by decide)).trans ((mixE_out (by decide)).trans ((upE_ne (by decide)).trans ((upE_ne (by decide)).trans ((mixE_out (by decide)).trans ((upE_ne (by decide)).trans ((upE_ne (by decide)).trans ((mixE_out (by decide)).trans ((upE_ne (by decide)).trans ((upE_ne (by decide)).trans (mixE_in (by decide) (by decide)))))))))))))))))))))
    | 46, _ => exact ((upE_ne (by decide)).trans ((mixE_out (by decide)).trans ((upE_ne (by decide)).trans ((upE_ne (by decide)).trans ((mixE_out (by decide)).trans ((upE_ne (by decide)).trans ((upE_ne (by decide)).trans ((mixE_out (by decide)).trans ((upE_ne (by decide)).trans ((upE_ne (by decide)).trans ((mixE_out (by decide)).trans ((upE_ne (by decide)).trans ((upE_ne (by decide)).trans ((mixE_out (by decide)).trans ((upE_ne (by decide)).trans ((upE_ne (by decide)).trans ((mixE_out (by decide)).trans ((upE_ne (by decide)).trans ((upE_ne (by decide)).trans (mixE_in (by decide) (by decide)))))))))))))))))))))
    | 47, _ => exact ((upE_ne (by decide)).trans ((mixE_out (by decide)).trans ((upE_ne (by decide)).trans ((upE_ne (by decide)).trans ((mixE_out (by decide)).trans ((upE_ne (by decide)).trans ((upE_ne (by decide)).trans ((mixE_out (by decide)).trans ((upE_ne (by decide)).trans ((upE_ne (by decide)).trans ((mixE_out (by decide)).trans ((upE_ne (by decide)).trans ((upE_ne (by decide)).trans ((mixE_out (by decide)).trans ((upE_ne (by decide)).trans ((upE_ne (by decide)).trans ((mixE_out (by decide)).trans ((upE_ne (by decide)).trans ((upE_ne (by decide)).trans (mixE_in (by decide) (by decide)))))))))))))))))))))
    | 48, _ => exact ((upE_ne (by decide)).trans ((mixE_out (by decide)).trans ((upE_ne (by decide)).trans ((upE_ne (by decide)).trans ((mixE_out (by decide)).trans ((upE_ne (by decide)).trans ((upE_ne (by decide)).trans ((mixE_out (by decide)).trans ((upE_ne (by decide)).trans ((upE_ne (by decide)).trans ((mixE_out (by decide)).trans ((upE_ne (by decide)).trans ((upE_ne (by decide)).trans ((mixE_out (by decide)).trans ((upE_ne (by decide)).trans ((upE_ne (by decide)).trans ((mixE_out (by decide)).trans ((upE_ne (by decide)).trans ((upE_ne (by decide)).trans (mixE_in (by decide) (by decide)))))))))))))))))))))
    | 49, _ => exact ((upE_ne (by decide)).trans ((mixE_out (by decide)).trans ((upE_ne (by decide)).trans ((upE_ne (by decide)).trans ((mixE_out (by decide)).trans ((upE_ne (by decide)).trans ((upE_ne (by decide)).trans ((mixE_out (by decide)).trans ((upE_ne (by decide)).trans ((upE_ne (by decide)).trans ((mixE_out (by decide)).trans ((upE_ne (by decide)).trans ((upE_ne (by decide)).trans ((mixE_out (by decide)).trans ((upE_ne (by decide)).trans ((upE_ne (by decide)).trans (mixE_in (by decide) (by decide))))))))))))))))))
    | 50, _ => exact ((upE_ne (by decide)).trans ((mixE_out (by decide)).trans ((upE_ne (by decide)).trans ((upE_ne (by decide)).trans ((mixE_out (by decide)).trans ((upE_ne (by decide)).trans ((upE_ne (by decide)).trans ((mixE_out (by decide)).trans ((upE_ne (by decide)).trans ((upE_ne (by decide)).trans ((mixE_out (by decide)).trans ((upE_ne (by decide)).trans ((upE_ne (by decide)).trans ((mixE_out (by decide)).trans ((upE_ne (by decide)).trans ((upE_ne (by decide)).trans (mixE_in (by decide) (by decide))))))))))))))))))
    | 51, _ => exact ((upE_ne (by decide)).trans ((mixE_out (by decide)).trans ((upE_ne (by decide)).trans ((upE_ne (by decide)).trans ((mixE_out (by decide)).trans ((upE_ne (by decide)).trans ((upE_ne (by decide)).trans ((mixE_out (by decide)).trans ((upE_ne (by decide)).trans ((upE_ne (by decide)).trans ((mixE_out (by decide)).trans ((upE_ne (by decide)).trans ((upE_ne (by decide)).trans ((mixE_out (by decide)).trans ((upE_ne (by decide)).trans ((upE_ne (by decide)).trans (mixE_in (by decide) (by decide))))))))))))))))))
    | 52, _ => exact ((upE_ne (by decide)).trans ((mixE_out (by decide)).trans ((upE_ne (by decide)).trans ((upE_ne (by decide)).trans ((mixE_out (by decide)).trans ((upE_ne (by decide)).trans ((upE_ne (by decide)).trans ((mixE_out (by decide)).trans ((upE_ne (by decide)).trans ((upE_ne (by decide)).trans ((mixE_out (by decide)).trans ((upE_ne (by decide)).trans ((upE_ne (by decide)).trans ((mixE_out (by decide)).trans ((upE_ne (by decide)).trans ((upE_ne (by decide)).trans (mixE_in (by decide) (by decide))))))))))))))))))
    | 53, _ => exact ((upE_ne (by decide)).trans ((mixE_out (by decide)).trans ((upE_ne (by decide)).trans ((upE_ne (by decide)).trans ((mixE_out (by decide)).trans ((upE_ne (by decide)).trans ((upE_ne (by decide)).trans ((mixE_out (by decide)).trans ((upE_ne (by decide)).trans ((upE_ne (by decide)).trans ((mixE_out (by decide)).trans ((upE_ne (by decide)).trans ((upE_ne (by decide)).trans ((mixE_out (by decide)).trans ((upE_ne (by decide)).trans ((upE_ne (by decide)).trans (mixE_in (by decide) (by decide))))))))))))))))))
    | 54, _ => exact ((upE_ne (by decide)).trans ((mixE_out (by decide)).trans ((upE_ne (by decide)).trans ((upE_ne (by decide)).trans ((mixE_out (by decide)).trans ((upE_ne (by decide)).trans ((upE_ne (by decide)).trans ((mixE_out (by decide)).trans ((upE_ne (by decide)).trans ((upE_ne (by decide)).trans ((mixE_out (by decide)).trans ((upE_ne (by decide)).trans ((upE_ne (by decide)).trans (mixE_in (by decide) (by decide)))))))))))))))
    | 55, _ => exact ((upE_ne (by decide)).trans ((mixE_out (by decide)).trans ((upE_ne (by decide)).trans ((upE_ne (by decide)).trans ((mixE_out (by decide)).trans ((upE_ne (by decide)).trans ((upE_ne (by decide)).trans ((mixE_out (by decide)).trans ((upE_ne (by decide)).trans ((upE_ne (by decide)).trans ((mixE_out (by decide)).trans ((upE_ne (by decide)).trans ((upE_ne (by decide)).trans (mixE_in (by decide) (by decide)))))))))))))))
    | 56, _ => exact ((upE_ne (by decide)).trans ((mixE_out (by decide)).trans ((upE_ne (by decide)).trans ((upE_ne (by decide)).trans ((mixE_out (by decide)).trans ((upE_ne (by decide)).trans ((upE_ne (by decide)).trans ((mixE_out (by decide)).trans ((upE_ne (by decide)).trans ((upE_ne (by decide)).trans (mixE_in (by decide) (by decide))))))))))))
    | 57, _ => exact ((upE_ne (by decide)).trans ((mixE_out (by decide)).trans ((upE_ne (by decide)).trans ((upE_ne (by decide)).trans ((mixE_out (by decide)).trans ((upE_ne (by decide)).trans ((upE_ne (by decide)).trans ((mixE_out (by decide)).trans ((upE_ne (by decide)).trans ((upE_ne (by decide)).trans (mixE_in (by decide) (by decide))))))))))))
    | 58, _ => exact ((upE_ne (by decide)).trans ((mixE_out (by decide)).trans ((upE_ne (by decide)).trans ((upE_ne (by decide)).trans ((mixE_out (by decide)).trans ((upE_ne (by decide)).trans ((upE_ne (by decide)).trans ((mixE_out (by decide)).trans ((upE_ne (by decide)).trans ((upE_ne (by decide)).trans (mixE_in (by decide) (by decide))))))))))))
    | 59, _ => exact ((upE_ne (by decide)).trans ((mixE_out (by decide)).trans ((upE_ne (by decide)).trans ((upE_ne (by decide)).trans ((mixE_out (by decide)).trans ((upE_ne (by decide)).trans ((upE_ne (by decide)).trans ((mixE_out (by decide)).trans ((upE_ne (by decide)).trans ((upE_ne (by decide)).trans (mixE_in (by decide) (by decide))))))))))))
    | 60, _ => exact ((upE_ne (by decide)).trans ((mixE_out (by decide)).trans ((upE_ne (by decide)).trans ((upE_ne (by decide)).trans ((mixE_out (by decide)).trans ((upE_ne (by decide)).trans ((upE_ne (by decide)).trans ((mixE_out (by decide)).trans ((upE_ne (by decide)).trans ((upE_ne (by decide)).trans (mixE_in (by decide) (by decide))))))))))))
    | 61, _ => exact ((upE_ne (by decide)).trans ((mixE_out (by decide)).trans ((upE_ne (by decide)).trans ((upE_ne (by decide)).trans ((mixE_out (by decide)).trans ((upE_ne (by decide)).trans ((upE_ne (by decide)).trans ((mixE_out (by decide)).trans ((upE_ne (by decide)).trans ((upE_ne (by decide)).trans (mixE_in (by decide) (by decide))))))))))))
    | 62, _ => exact ((upE_ne (by decide)).trans ((mixE_out (by decide)).trans ((upE_ne (by decide)).trans ((upE_ne (by decide)).trans ((mixE_out (by decide)).trans ((upE_ne (by decide)).trans ((upE_ne (by decide)).trans (mixE_in (by decide) (by decide)))))))))
    | 63, _ => exact ((upE_ne (by decide)).trans ((mixE_out (by decide)).trans ((upE_ne (by decide)).trans ((upE_ne (by decide)).trans ((mixE_out (by decide)).trans ((upE_ne (by decide)).trans ((upE_ne (by decide)).trans (mixE_in (by decide) (by decide)))))))))
    | 64, _ => exact ((upE_ne (by decide)).trans ((mixE_out (by decide)).trans ((upE_ne (by decide)).trans ((upE_ne (by decide)).trans ((mixE_out (by decide)).trans ((upE_ne (by decide)).trans ((upE_ne (by decide)).trans (mixE_in (by decide) (by decide)))))))))
    | 65, _ => exact ((upE_ne (by decide)).trans ((mixE_out (by decide)).trans ((upE_ne (by decide)).trans ((upE_ne (by decide)).trans ((mixE_out (by decide)).trans ((upE_ne (by decide)).trans ((upE_ne (by decide)).trans (mixE_in (by decide) (by decide)))))))))
    | 66, _ => exact ((upE_ne (by decide)).trans ((mixE_out (by decide)).trans ((upE_ne (by decide)).trans ((upE_ne (by decide)).trans ((mixE_out (by decide)).trans ((upE_ne (by decide)).trans ((upE_ne (by decide)).trans (mixE_in (by decide) (by decide)))))))))
    | 67, _ => exact ((upE_ne (by decide)).trans ((mixE_out (by decide)).trans ((upE_ne (by decide)).trans ((upE_ne (by decide)).trans ((mixE_out (by decide)).trans ((upE_ne (by decide)).trans ((upE_ne (by decide)).trans (mixE_in (by decide) (by decide)))))))))
    | 68, _ => exact ((upE_ne (by decide)).trans ((mixE_out (by decide)).trans ((upE_ne (by decide)).trans ((upE_ne (by decide)).trans ((mixE_out (by decide)).trans ((upE_ne (by decide)).trans ((upE_ne (by decide)).trans (mixE_in (by decide) (by decide)))))))))
    | 69, _ => exact ((upE_ne (by decide)).trans ((mixE_out (by decide)).trans ((upE_ne (by decide)).trans ((upE_ne (by decide)).trans ((mixE_out (by decide)).trans ((upE_ne (by decide)).trans ((upE_ne (by decide)).trans (mixE_in (by decide) (by decide)))))))))
    | 70, _ => exact ((upE_ne (by decide)).trans ((mixE_out (by decide)).trans ((upE_ne (by decide)).trans ((upE_ne (by decide)).trans (mixE_in (by decide) (by decide))))))
    | 71, _ => exact ((upE_ne (by decide)).trans ((mixE_out (by decide)).trans ((upE_ne (by decide)).trans ((upE_ne (by decide)).trans (mixE_in (by decide) (by decide))))))
    | 72, _ => exact ((upE_ne (by decide)).trans ((mixE_out (by decide)).trans ((upE_ne (by decide)).trans ((upE_ne (by decide)).trans (mixE_in (by decide) (by decide))))))
    | 73, _ => exact ((upE_ne (by decide)).trans ((mixE_out (by decide)).trans ((upE_ne (by decide)).trans ((upE_ne (by decide)).trans (mixE_in (by decide) (by decide))))))
    | 74, _ => exact ((upE_ne (by decide)).trans ((mixE_out (by decide)).trans ((upE_ne (by decide)).trans ((upE_ne (by decide)).trans (mixE_in (by decide) (by decide))))))
    | 75, _ => exact ((upE_ne (by decide)).trans ((mixE_out (by decide)).trans ((upE_ne (by decide)).trans ((upE_ne (by decide)).trans (mixE_in (by decide) (by decide))))))
    | 76, _ => exact ((upE_ne (by decide)).trans ((mixE_out (by decide)).trans ((upE_ne (by decide)).trans ((upE_ne (by decide)).trans (mixE_in (by decide) (by decide))))))
    | 77, _ => exact ((upE_ne (by decide)).trans ((mixE_out (by decide)).trans ((upE_ne (by decide)).trans ((upE_ne (by decide)).trans (mixE_in (by decide) (by decide))))))
    | 78, _ => exact ((upE_ne (by decide)).trans (mixE_in (by decide) (by decide)))
    | 79, _ => exact ((upE_ne (by decide)).trans (mixE_in (by decide) (by decide)))
    | 80, _ => exact ((upE_ne (by decide)).trans (mixE_in (by decide) (by decide)))
    | 81, _ => exact ((upE_ne (by decide)).trans (mixE_in (by decide) (by decide)))
    | _ + 82, h => exact absurd h (by omega)))⟩
