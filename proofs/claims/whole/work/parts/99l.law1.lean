/-! THE CLAIM OUT OF ONE WALK OF THE LAW'S BODY. Your part is whole_start (and what it stands on); all else here is the same for every law, but numbers. -/
def R_law : String := "BeatenBoundsLaw"
def lw_P (b : Addr) (xs : List Int32) (args : Array Value) (s : State) : Prop := args = #[.ref b] ∧ s.IntsAt b xs ∧ xs.length ≤ 3072 ∧ (Jvm.Cond.and given_1 narrow_1).before args s = true
def lw_Q (_ : Array Value) (s : State) (o : Outcome) (t : State) : Prop := o = .returned (some (.int 1)) ∧ Framed s o t [] 601024 7293034
def lw_Z (below : List Frame) (a : Array Value) (s : State) : State → Prop := fun t => ∃ o, t.status = .running ∧ Ended t below o ∧ lw_Q a s o t
/-- the law's own end, with 1 on the stack, nothing written that was there before, its room as the claim has it -/
theorem lw_ret {p : Program} {l : Launch} {e : Env} {s : State} {m : MethodId} {below : List Frame} {meth : Method} {c : Code} {b : Nat} (hx : p.tables.exec = Jvm.exec) (hb : c.code = code) (hr : meth.sig.returnType = ret) (hlocks : meth.locks = false) {pc : Nat} {H : Heap} {ls : Array Slot} (hdg : decode code pc = .ok (.ireturn, 1)) : W p l e room_1 s m #[Value.ref b] below meth c H [] 601024 7293034 (lw_Z below #[Value.ref b] s) (F0 m pc ls [.int 1]) := by
  intro T hT X
  obtain ⟨fs, hret, hrun, hended, hW, hframe⟩ := X.leave (v := some (.int 1)) (hlocks := hlocks) (fun h => by rw [hr] at h; cases h)
  have hmeth' : T.vm.method? m = some meth := X.method'
  refine ⟨T.setFrames fs, ?_, .returned (some (.int 1)), hrun, hended, rfl, ⟨_, rfl⟩, hW, hframe⟩
  jvm_step X.here [X.here.top, hx, hb, hdg, hmeth', hr, ret, narrow_b1]
  (try refine ⟨rfl, ?_⟩); (try refine ⟨rfl, ?_⟩)
  first | (intro acts; rw [hret _ acts rfl rfl rfl]) | rw [hret _ _ rfl rfl rfl]
  exact Steps.refl _
/-- what holds at the law's entry: the machine, the code, the tables' words (any of lw_tbl by 'hts w (by decide +kernel)'), the script of L ints xs at the cell b, what the Statement gives of the start (any of its parts by flat_of_before) -/
def lw_At (p : Program) (s : State) (m : MethodId) (meth : Method) (c : Code) (b L : Nat) (xs : Nat → Int32) : Prop :=
  p.tables.exec = Jvm.exec ∧ c.code = code ∧ meth.sig.returnType = ret ∧ c.maxLocals = 7 ∧ s.vm.findClass R_law = some m.cls ∧ (∀ w ∈ lw_tbl, w.before #[Value.ref b] s = true) ∧ va_X b L xs s s.heap ∧ b < s.heap.size ∧ meth.locks = false ∧ (Jvm.Cond.and given_1 narrow_1).before #[Value.ref b] s = true
/-! ===== the law's own rows ===== -/
abbrev mLL (nm : String) : Mt := (⟨RL, nm, ""⟩, cL_law, 7, ret)
abbrev fS (G : Gx) (b N : Nat) (xs : Nat → Int32) : Fq := fun args s _ => args = #[Value.ref b] ∧ xK G s ∧ va_X b N xs s s.heap ∧ b < s.heap.size ∧ s.heap.size = G.2.2.2
def lQ : Qq := fun below args s => lw_Z below args s
def sX (xs : Nat → Int32) : Int → Int := fun j => (xs j.toNat).toInt
theorem sX_in (xs : Nat → Int32) (j : Int) : R32 (sX xs j) := R32_of _
section KL
variable {G : Gx} {nm : String} {b N : Nat} {xs : Nat → Int32} {ω : Wn} {kc ks : Nat} {pc q : Nat} {L : List (Option Value)} {st : List Value} {σ : Sg} {z : Nat} {E : Nat → va_E}
theorem k_sld {i : Int} (hd : decode cL_law pc = .ok (.iaload, 1)) (hq : pc + 1 = q) (h0 : 0 ≤ i) (hi : i < N) (hN : N ≤ 3072) (k : K G room_1 (mLL nm) (fS G b N xs) lQ ω kc ks q L (.int (iZ (sX xs i)) :: st)) : K G room_1 (mLL nm) (fS G b N xs) lQ ω kc ks pc L (.int (iZ i) :: .ref b :: st) := by
  intro p e s m args below meth c H locs ls h1 h2 h3 h4 h5 h6 h7 h8 h9 h10 h11
  subst hq
  obtain ⟨ha, hx, hX, hb, hB⟩ := h5.2.2
  have e0 : (iZ i).toNatClampNeg = i.toNat := iZ_ix h0 (by omega)
  refine va_sld h1 h2 hX hb (fun q => by have : G.2.2.2 ≤ b := q; omega) h10 (iZ_in h0 hi (by omega)) hd ?_
  rw [e0, ← iZ_of (xs i.toNat)]
  exact k p e s m args below meth c H locs ls h1 h2 h3 h4 h5 h6 h7 h8 h9 h10 h11
theorem k_slenL (hd : decode cL_law pc = .ok (.arraylength, 1)) (hq : pc + 1 = q) (k : K G room_1 (mLL nm) (fS G b N xs) lQ ω kc ks q L (.int (iZ N) :: st)) : K G room_1 (mLL nm) (fS G b N xs) lQ ω kc ks pc L (.ref b :: st) := by
  intro p e s m args below meth c H locs ls h1 h2 h3 h4 h5 h6 h7 h8 h9 h10 h11
  subst hq
  obtain ⟨ha, hx, hX, hb, hB⟩ := h5.2.2
  exact va_slen h1 h2 hX hb (fun q => by have : G.2.2.2 ≤ b := q; omega) h10 hd (k p e s m args below meth c H locs ls h1 h2 h3 h4 h5 h6 h7 h8 h9 h10 h11)
theorem k_lend (hd : decode cL_law pc = .ok (.ireturn, 1)) (hc : kc ≤ 601024) (hs : ks ≤ 7293034) : K G room_1 (mLL nm) (fS G b N xs) lQ ω kc ks pc L [.int (iZ 1)] := by
  intro p e s m args below meth c H locs ls h1 h2 h3 h4 h5 h6 h7 h8 h9 h10 h11
  obtain ⟨rfl, hx, hX, hb, hB⟩ := h5.2.2
  refine va_forget (fun q hq => by rw [hB]; exact h10.2.2 q hq) ?_
  exact W.widen (k := 601024) (n := 7293034) hc hs (lw_ret h1 h2 h4 h5.1 hd)
theorem k_lpar {rest : List Value} {f : Nat → Int64} {p x : Int} (hlt : G.1.stackTraces = false) (hE : fE G σ E) (hf : E 120 = .inl (G.2.2.1 1, 1, .inr (.inl f))) (hT : TI σ) (hI : LI σ 39) (hp : R32 p) (hx : R32 x) (hd : decode cL_law pc = .ok (.invokestatic 39, 3)) (hq : pc + 3 = q) (hr : (rest.map fun v => v.category).sum ≤ 8) (hc : kc + 1 ≤ 601024) (hs : ks + 6 ≤ 7293034)
    (k : ∀ (r : Option Value) (ω' : Wn), lpP G σ p x E r ω' → K G room_1 (mLL nm) (fS G b N xs) lQ ω' (kc + 1) (ks + 6) q L (r.toList ++ rest)) : K G room_1 (mLL nm) (fS G b N xs) lQ (121, E, z) kc ks pc L (.ref (G.2.2.2 + 120) :: .int (iZ x) :: .int (iZ p) :: .ref (G.2.2.2 + 0) :: rest) := by
  intro P e s m args below meth c H locs ls h1 h2 h3 h4 h5 h6 h7 h8 h9 h10 h11
  subst hq
  obtain ⟨ha, hxk, hX, hb, hB⟩ := h5.2.2
  have cw : vx_CSW room_1 s args RL 39 yL_parish cL_parish 5 (some .int) hhP (cwP :: lw_good) (nR 8 1 6) 1 6 4 := by
    refine ⟨⟨rfl, rfl, by decide, by decide, pay_in h7 (gi_gd cwP_in), List.mem_cons_self⟩, h7 _ cwP_in, h7 _ (lwk lk_1 0 rfl rfl), ⟨by decide +kernel, by decide +kernel⟩, fun sig h => ?_, h7 _ ml_L_39, h7 _ stP_in⟩
    have h2 : (parseMethodDescriptor yL_parish.desc).map (fun d => d.parameters.length) = some 4 := by decide +kernel
    rw [h] at h2
    exact (Option.some.inj h2).symm
  have hrun := vx_runSW (As := [.ref (G.2.2.2 + 0), .int (iZ p), .int (iZ x), .ref (G.2.2.2 + 120)]) (rest := rest) (e := e) (below := below) (meth := meth) (locs := locs) (cells := kc) (slots := ks) (g := F0 m pc ls (.ref (G.2.2.2 + 120) :: .int (iZ x) :: .int (iZ p) :: .ref (G.2.2.2 + 0) :: rest)) (H := H) ⟨h1, h2, h3, h6, h7⟩ (n_L_parish (z := z) hlt hE hf hT hI hp hx) cw
    ⟨fun a U g mk qq => by obtain ⟨q0, qP, qK, qX⟩ := qq; exact ⟨q0, qP, nK.same (u := U) (U := U.calling g mk a) rfl rfl qK, xK.same (u := U) (U := U.calling g mk a) rfl rfl qX⟩, fun U hU hW => ⟨rfl, by show nP G (121, E, z) U.heap; rw [hU]; exact h9, nK.call h8 h10 hU hW, hxk.call h10 hU hW⟩⟩ rfl rfl h11.1 rfl (lv_room hr) hd ⟨hc, hs⟩
  intro X hX2 S
  obtain ⟨v, st₀, t, T', Ls, e0, S', hL, e1, e2, ⟨⟨r, ω', hv, hpo, hP'⟩, hz, hkp⟩, go⟩ := hrun X hX2 S
  cases hv
  rw [e0] at hz hkp
  obtain ⟨t2, a1, b1⟩ := k v ω' hpo P e s m args below meth c T'.heap (locs ++ Ls) ls h1 h2 h3 h4 h5 h6 h7 h8 (by rw [e1]; exact hP')
    ⟨Nat.le_trans h10.1 (by rw [e1]; exact hz), fun a g1 g2 => by rw [e1, hkp a (Nat.lt_of_lt_of_le g1 h10.1) g2]; exact h10.2.1 a g1 g2, fun a ha => (List.mem_append.mp ha).elim (h10.2.2 a) (hL a)⟩ h11 T' rfl S'
  exact ⟨t2, go t2 a1, b1⟩
end KL
