/-! ===== parish, which may throw ===== -/
theorem fW_self {G : Gx} {σ : Sg} {E : Nat → va_E} (h : fE G σ E) : fW G σ E = E := by
  funext j
  unfold fW
  cases hc : lay[j]? with
  | none => rfl
  | some c => exact (h j c hc).symm
abbrev fP (G : Gx) : Fq := fun _ s c => xK G s ∧ ∀ x ∈ c.exceptionTable.toList, False
def xX (G : Gx) (PX : String → Prop) (n : Nat) (E : Nat → va_E) : String → State → State → Prop := fun Ec st t => PX Ec ∧ (∃ z', nP G (n, E, z') t.heap) ∧ va_F (nA G) st t
def xQ (G : Gx) (Post : Option Value → Wn → Prop) (PX : String → Prop) (n : Nat) (E : Nat → va_E) : Qq := fun below args s => vx_MQ below (nQ G Post) (xX G PX n E) args s 1 6 (nA G)
section KX
variable {G : Gx} {R : Room} {M : Mt} {Fx : Fq} {Q : Qq} {kc ks : Nat} {pc q : Nat} {L : List (Option Value)} {st : List Value} {σ : Sg} {n z : Nat} {E : Nat → va_E}
theorem k_getR {t idx ci j k0 : Nat} {fl : List Nat} (hn : lay.length ≤ n) (hE : fE G σ E) (hd : decode M.2.1 pc = .ok (.getfield idx, 3)) (hq : pc + 3 = q) (hf : FG M.1.cls idx ci j) (hk : lay[k0]? = some (.inr (ci, fl))) (hj : fl[j]? = some (t + 2)) (k : K G R M Fx Q (n, E, z) kc ks q L (.ref (G.2.2.2 + t) :: st)) : K G R M Fx Q (n, E, z) kc ks pc L (.ref (G.2.2.2 + k0) :: st) :=
  k_get hd hq hf (Nat.lt_of_lt_of_le (List.getElem?_eq_some_iff.mp hk).1 hn) (hE k0 _ hk) (by rw [List.getElem?_mapIdx, hj]; rfl) k
theorem k_ialF {k0 n0 : Nat} {i : Int} (hn : lay.length ≤ n) (hE : fE G σ E) (hd : decode M.2.1 pc = .ok (.iaload, 1)) (hq : pc + 1 = q) (hk : lay[k0]? = some (.inl (0, n0))) (h0 : 0 ≤ i) (hi : i < n0) (hb : n0 < 2147483648) (k : K G R M Fx Q (n, E, z) kc ks q L (.int (iZ (σ.1 k0 i)) :: st)) : K G R M Fx Q (n, E, z) kc ks pc L (.int (iZ i) :: .ref (G.2.2.2 + k0) :: st) := by
  refine k_iald (f := fun j => iZ (σ.1 k0 j)) hd hq (Nat.lt_of_lt_of_le (List.getElem?_eq_some_iff.mp hk).1 hn) (hE k0 _ hk) h0 hi hb ?_
  show K G R M Fx Q (n, E, z) kc ks q L (.int (iZ (σ.1 k0 ((i.toNat : Nat) : Int))) :: st)
  rw [Int.toNat_of_nonneg h0]
  exact k
theorem k_Vip {M' : Mt} {na idx d' ci b : Nat} {fl : List Nat} {vs rest : List Value} {v : Int} (hn' : lay.length ≤ n) (hE : fE G σ E) (ok : OkV M' na) (hl : Cond.methodLink M.1.cls idx M'.1 ∈ lw_good) (hd : decode M.2.1 pc = .ok (.invokevirtual idx, 3)) (hq : pc + 3 = q) (hC : ∃ (T : u_T) (N : Nat), vwCl[ci]? = some (M'.1.cls, T, N)) (hk : lay[b]? = some (.inr (ci, fl))) (hn : vs.length = na) (hst : st = vs.reverse ++ .ref (G.2.2.2 + b) :: rest) (hr : (rest.map fun v => v.category).sum ≤ 8) (hdd : d' + 1 ≤ R.frames) (hlo : 64 * d' + 64 ≤ R.locals) (hc : kc ≤ R.cells) (hs : ks ≤ R.slots) (con : Con G d' M' (.ref (G.2.2.2 + b) :: vs) σ (pI (pE σ v))) (k : ∀ z', K G R M Fx Q (n, E, z') kc ks q L (.int (iZ v) :: rest)) : K G R M Fx Q (n, E, z) kc ks pc L st :=
  k_callV ok hl hd hq hC hk hn hst hr hdd hlo hc hs hn' hE con (fun r σ' z' h => by obtain ⟨v', rfl, rfl, rfl⟩ := h; rw [fW_self hE]; exact k z')
theorem k_xret {Post : Option Value → Wn → Prop} {PX : String → Prop} {v : Int} {n1 : Nat} {E1 : Nat → va_E} (hd : decode M.2.1 pc = .ok (.ireturn, 1)) (hM : M.2.2.2 = some .int) (hc : kc ≤ 1) (hs : ks ≤ 6) (hp : Post (some (.int (iZ v))) (n, E, z)) : K G R M Fx (xQ G Post PX n1 E1) (n, E, z) kc ks pc L [.int (iZ v)] := by
  intro p e s m args below meth c H locs ls h1 h2 h3 h4 h5 h6 h7 h8 h9 h10 h11
  exact vx_ret (W.widen (k := 1) (n := 6) hc hs (W.iret h1 h2 (h4.trans hM) (fun t ht hW => ⟨⟨some (.int (iZ v)), (n, E, z), rfl, hp, by rw [ht]; exact h9⟩, h10.F ht⟩) h10.2.2 hd h5.1))
theorem k_throw {Post : Option Value → Wn → Prop} {PX : String → Prop} {d ik is ic ix i : Nat} {rx : ByteArray} {cls text : String} (hlt : G.1.stackTraces = false) (hcl : M.1.cls = RX11) (hd6 : 6 ≤ d) (x0 : decode rx 0 = .ok (.aload_n 0, 1)) (x1 : decode rx 1 = .ok (.aload_n 1, 1)) (x2 : decode rx 2 = .ok (.invokespecial ix, 3)) (x5 : decode rx 5 = .ok (.return_, 1)) (hcls : Bundle.fit cls = true) (hnm : ∀ n ∈ xN, Bundle.fit n = true) (hk : Cond.classLink RX11 ik cls ∈ xWs) (hini : Cond.initialized cls ∈ xWs) (hi : strT[i]? = some (RX11, is, text)) (hat : ∀ w ∈ xq_at RX11 ic cls ix rx xN, w ∈ xWs) (hgood : ∀ w ∈ Cond.classLink RX11 ik cls :: Cond.initialized cls :: xq_at RX11 ic cls ix rx xN, vx_ot w = true)
    (d0 : decode M.2.1 pc = .ok (.new ik, 3)) (d3 : decode M.2.1 (pc + 3) = .ok (.dup, 1)) (d4 : decode M.2.1 (pc + 4) = .ok (.ldc is, 2)) (d6 : decode M.2.1 (pc + 6) = .ok (.invokespecial ic, 3)) (d9 : decode M.2.1 (pc + 9) = .ok (.athrow, 1)) (hp : PX cls) : K G (nR d 1 6) M (fP G) (xQ G Post PX n E) (n, E, z) 0 0 pc L [] := by
  intro p e s m args below meth c H locs ls h1 h2 h3 h4 h5 h6 h7 h8 h9 h10 h11
  rw [hcl] at h6
  obtain ⟨hx, hex⟩ := h5.2.2
  refine xq_throw (names := xN) x0 x1 x2 x5 h1 h2 hlt h6 hcls hnm (hx.at hk) (hx.at hini) (h8.2.2.1 i _ hi) (fun w hw => hx.at (hat w hw)) hgood hx.2.2.1 hx.2.2.2 h10 (h11.1.trans h3.symm) d0 d3 d4 d6 d9 (fun x hx => absurd hx (fun q => hex x q)) (by show 2 + 3 < d; omega) (by show 0 + (13 * (2 + 1) + 43) ≤ 64 * d; omega) (Nat.le_refl _) (Nat.le_refl _) h5.1 (fun t ha hz hk => ?_) h10.2.2 (Nat.le_refl _) (Nat.le_refl _)
  have hsz : H.size = G.2.2.2 + n + z := h9.2
  refine ⟨hp, ⟨t.heap.size - (G.2.2.2 + n), ?_, by show t.heap.size = G.2.2.2 + n + (t.heap.size - (G.2.2.2 + n)); omega⟩, Nat.le_trans h10.1 hz, fun q h g => by rw [hk q (Nat.lt_of_lt_of_le h h10.1)]; exact h10.2.1 q h g⟩
  exact h9.1.kept (fun k x hx => hk x.1 ((h9.1 k x hx).lt))
end KX
def paA (σ : Sg) (p x : Int) : Int := if x = 0 then σ.1 3 p else if x = 1 then σ.1 4 p else if x = 6 then gArea (σ.1 3) (σ.1 4) (σ.1 40) p else if x = 7 then gTd (σ.1 3) (σ.1 4) (σ.1 40) (σ.1 2 2) p else σ.1 40 (4 * p + x - 2)
def paP (σ : Sg) (p x : Int) (n : Nat) (E : Nat → va_E) : Option Value → Wn → Prop := fun r ω' => (0 ≤ p ∧ p < σ.1 2 2) ∧ (0 ≤ x ∧ x ≤ 7) ∧ r = some (.int (iZ (paA σ p x))) ∧ ∃ z', ω' = (n, E, z')
def paX (σ : Sg) (p x : Int) : String → Prop := fun Ec => (Ec = xI ∧ ¬ (0 ≤ p ∧ p < σ.1 2 2)) ∨ (Ec = xJ ∧ (0 ≤ p ∧ p < σ.1 2 2) ∧ ¬ (0 ≤ x ∧ x ≤ 7))
set_option maxHeartbeats 4000000 in
theorem n_X11_parish {G : Gx} {σ : Sg} {n z : Nat} {E : Nat → va_E} {p x : Int} (hlt : G.1.stackTraces = false) (hn : lay.length ≤ n) (hE : fE G σ E) (hT : TI σ) (hI : LI σ 39) (hp : R32 p) (hx : R32 x) : vx_Met G.1 yX11_parish (.code yX11_parish cX11_parish 3 (some .int) :: lw_good) (nR 6 1 6) (va_Pc [.ref (G.2.2.2 + 0), .int (iZ p), .int (iZ x)] (fun U => nP G (n, E, z) U.heap ∧ nK G U ∧ xK G U)) (nQ G (paP σ p x n E)) (xX G (paX σ p x) n E) 1 6 (nA G) := by
  refine vx_ofW (cc := cX11_parish) (maxL := 3) (ret := some .int) (by decide +kernel) rfl ?_
  intro p' e s m args below meth c s₁ B hml hex hv
  obtain ⟨rfl, hP, hK, hX⟩ := hv
  have hts := atoms_spec (ws := .code yX11_parish cX11_parish 3 (some .int) :: lw_good) B.pre
  have hown : s.vm.findClass yX11_parish.cls = some m.cls := findClass_of_methodNamed B.named
  have hnm : meth.name = yX11_parish.name := (name_of_methodNamed B.named B.method).1
  rw [lg_entry_eq]
  have key : K G (nR 6 1 6) mX11_parish (fP G) (xQ G (paP σ p x n E) (paX σ p x) n E) (n, E, z) 0 0 0 [some (.ref (G.2.2.2 + 0)), some (.int (iZ p)), some (.int (iZ x))] [] := by
    have hnp : σ.1 2 2 ≤ 4 := hT.2.2.1.2
    refine k_aload_n (q := 1) (i := 0) dX11_parish_0 rfl rfl rfl ?_
    refine k_iload_n (q := 2) (i := 1) dX11_parish_1 rfl rfl rfl ?_
    refine k_Vip (q := 5) (vs := [_]) hn hE ok_X11_isParish ml_X11_136 dX11_parish_2 rfl ⟨_, _, rfl⟩ rfl rfl rfl (Nat.le_of_ble_eq_true rfl) (by decide) (by decide) (by decide) (by decide) (c_X11_isParish hT hp) (fun z2 => ?_)
    refine k_if_ne (q := 8) (tgt := 18) dX11_parish_5 rfl (by decide) (fun c5 => ?_) (fun c5 => ?_) (hx := by split <;> exact ⟨by decide, by decide⟩)
    · have hpp : 0 ≤ p ∧ p < σ.1 2 2 := Classical.byContradiction (fun q => c5 (if_neg q))
      refine k_iload_n (q := 19) (i := 2) dX11_parish_18 rfl rfl rfl ?_
      refine k_if_lt (q := 22) (tgt := 28) dX11_parish_19 rfl (by decide) (fun c19 => ?_) (fun c19 => ?_)
      · exact k_throw (i := 4) hlt rfl (by decide) (by decide +kernel) (by decide +kernel) (by decide +kernel) (by decide +kernel) (by decide +kernel) (by decide +kernel) (List.mem_append_left _ (by decide +kernel)) (List.mem_append_left _ (by decide +kernel)) rfl (fun w hw => xi_2 hw) xo_2 dX11_parish_28 dX11_parish_31 dX11_parish_32 dX11_parish_34 dX11_parish_37 (Or.inr ⟨rfl, hpp, by omega⟩)
      · refine k_iload_n (q := 23) (i := 2) dX11_parish_22 rfl rfl rfl ?_
        refine k_bipush (q := 25) dX11_parish_23 rfl (by decide) ?_
        refine k_icmp_le (q := 28) (tgt := 38) dX11_parish_25 rfl (by decide) (fun c25 => ?_) (fun c25 => ?_)
        · have hxx : 0 ≤ x ∧ x ≤ 7 := ⟨by omega, by omega⟩
          refine k_iload_n (q := 39) (i := 2) dX11_parish_38 rfl rfl rfl ?_
          by_cases k39_0 : x = 0
          · refine k_tabIn (tgt := 84) dX11_parish_39 (by first | assumption | exact ⟨by omega, by omega⟩) (by omega) (by omega) (by rw [k39_0]; rfl) (by decide) ?_
            refine k_aload_n (q := 85) (i := 0) dX11_parish_84 rfl rfl rfl ?_
            refine k_getR (q := 88) hn hE dX11_parish_85 rfl fg_X11_18 rfl rfl ?_
            refine k_getR (q := 91) hn hE dX11_parish_88 rfl fg_X11_151 rfl rfl ?_
            refine k_iload_n (q := 92) (i := 1) dX11_parish_91 rfl rfl rfl ?_
            refine k_ialF (q := 93) hn hE dX11_parish_92 rfl rfl hpp.1 (by show p < 4; omega) (by decide) ?_
            exact k_xret (Post := paP σ p x n E) dX11_parish_93 rfl (by decide) (by decide) ⟨hpp, hxx, by rw [show paA σ p x = σ.1 3 p by unfold paA; rw [if_pos (by omega)]], _, rfl⟩
          by_cases k39_1 : x = 1
          · refine k_tabIn (tgt := 94) dX11_parish_39 (by first | assumption | exact ⟨by omega, by omega⟩) (by omega) (by omega) (by rw [k39_1]; rfl) (by decide) ?_
            refine k_aload_n (q := 95) (i := 0) dX11_parish_94 rfl rfl rfl ?_
            refine k_getR (q := 98) hn hE dX11_parish_95 rfl fg_X11_18 rfl rfl ?_
            refine k_getR (q := 101) hn hE dX11_parish_98 rfl fg_X11_155 rfl rfl ?_
            refine k_iload_n (q := 102) (i := 1) dX11_parish_101 rfl rfl rfl ?_
            refine k_ialF (q := 103) hn hE dX11_parish_102 rfl rfl hpp.1 (by show p < 4; omega) (by decide) ?_
            exact k_xret (Post := paP σ p x n E) dX11_parish_103 rfl (by decide) (by decide) ⟨hpp, hxx, by rw [show paA σ p x = σ.1 4 p by unfold paA; rw [if_neg (by omega), if_pos (by omega)]], _, rfl⟩
          by_cases k39_2 : x = 2
          · refine k_tabIn (tgt := 122) dX11_parish_39 (by first | assumption | exact ⟨by omega, by omega⟩) (by omega) (by omega) (by rw [k39_2]; rfl) (by decide) ?_
            refine k_aload_n (q := 123) (i := 0) dX11_parish_122 rfl rfl rfl ?_
            refine k_getR (q := 126) hn hE dX11_parish_123 rfl fg_X11_36 rfl rfl ?_
            refine k_getR (q := 129) hn hE dX11_parish_126 rfl fg_X11_164 rfl rfl ?_
            refine k_iconst (q := 130) dX11_parish_129 rfl ?_
            refine k_iload_n (q := 131) (i := 1) dX11_parish_130 rfl rfl rfl ?_
            refine k_imul (q := 132) dX11_parish_131 rfl ?_
            refine k_iload_n (q := 133) (i := 2) dX11_parish_132 rfl rfl rfl ?_
            refine k_iadd (q := 134) dX11_parish_133 rfl ?_
            refine k_iconst (q := 135) dX11_parish_134 rfl ?_
            refine k_isub (q := 136) dX11_parish_135 rfl ?_
            refine k_ialF (q := 137) hn hE dX11_parish_136 rfl rfl (by omega) (by show _ < 16; omega) (by decide) ?_
            exact k_xret (Post := paP σ p x n E) dX11_parish_137 rfl (by decide) (by decide) ⟨hpp, hxx, by rw [show paA σ p x = σ.1 40 (4 * p + x - 2) by unfold paA; rw [if_neg (by omega), if_neg (by omega), if_neg (by omega), if_neg (by omega)]], _, rfl⟩
          by_cases k39_3 : x = 3
          · refine k_tabIn (tgt := 122) dX11_parish_39 (by first | assumption | exact ⟨by omega, by omega⟩) (by omega) (by omega) (by rw [k39_3]; rfl) (by decide) ?_
            refine k_aload_n (q := 123) (i := 0) dX11_parish_122 rfl rfl rfl ?_
            refine k_getR (q := 126) hn hE dX11_parish_123 rfl fg_X11_36 rfl rfl ?_
            refine k_getR (q := 129) hn hE dX11_parish_126 rfl fg_X11_164 rfl rfl ?_
            refine k_iconst (q := 130) dX11_parish_129 rfl ?_
            refine k_iload_n (q := 131) (i := 1) dX11_parish_130 rfl rfl rfl ?_
            refine k_imul (q := 132) dX11_parish_131 rfl ?_
            refine k_iload_n (q := 133) (i := 2) dX11_parish_132 rfl rfl rfl ?_
            refine k_iadd (q := 134) dX11_parish_133 rfl ?_
            refine k_iconst (q := 135) dX11_parish_134 rfl ?_
            refine k_isub (q := 136) dX11_parish_135 rfl ?_
            refine k_ialF (q := 137) hn hE dX11_parish_136 rfl rfl (by omega) (by show _ < 16; omega) (by decide) ?_
            exact k_xret (Post := paP σ p x n E) dX11_parish_137 rfl (by decide) (by decide) ⟨hpp, hxx, by rw [show paA σ p x = σ.1 40 (4 * p + x - 2) by unfold paA; rw [if_neg (by omega), if_neg (by omega), if_neg (by omega), if_neg (by omega)]], _, rfl⟩
          by_cases k39_4 : x = 4
          · refine k_tabIn (tgt := 122) dX11_parish_39 (by first | assumption | exact ⟨by omega, by omega⟩) (by omega) (by omega) (by rw [k39_4]; rfl) (by decide) ?_
            refine k_aload_n (q := 123) (i := 0) dX11_parish_122 rfl rfl rfl ?_
            refine k_getR (q := 126) hn hE dX11_parish_123 rfl fg_X11_36 rfl rfl ?_
            refine k_getR (q := 129) hn hE dX11_parish_126 rfl fg_X11_164 rfl rfl ?_
            refine k_iconst (q := 130) dX11_parish_129 rfl ?_
            refine k_iload_n (q := 131) (i := 1) dX11_parish_130 rfl rfl rfl ?_
            refine k_imul (q := 132) dX11_parish_131 rfl ?_
            refine k_iload_n (q := 133) (i := 2) dX11_parish_132 rfl rfl rfl ?_
            refine k_iadd (q := 134) dX11_parish_133 rfl ?_
            refine k_iconst (q := 135) dX11_parish_134 rfl ?_
            refine k_isub (q := 136) dX11_parish_135 rfl ?_
            refine k_ialF (q := 137) hn hE dX11_parish_136 rfl rfl (by omega) (by show _ < 16; omega) (by decide) ?_
            exact k_xret (Post := paP σ p x n E) dX11_parish_137 rfl (by decide) (by decide) ⟨hpp, hxx, by rw [show paA σ p x = σ.1 40 (4 * p + x - 2) by unfold paA; rw [if_neg (by omega), if_neg (by omega), if_neg (by omega), if_neg (by omega)]], _, rfl⟩
          by_cases k39_5 : x = 5
          · refine k_tabIn (tgt := 122) dX11_parish_39 (by first | assumption | exact ⟨by omega, by omega⟩) (by omega) (by omega) (by rw [k39_5]; rfl) (by decide) ?_
            refine k_aload_n (q := 123) (i := 0) dX11_parish_122 rfl rfl rfl ?_
            refine k_getR (q := 126) hn hE dX11_parish_123 rfl fg_X11_36 rfl rfl ?_
            refine k_getR (q := 129) hn hE dX11_parish_126 rfl fg_X11_164 rfl rfl ?_
            refine k_iconst (q := 130) dX11_parish_129 rfl ?_
            refine k_iload_n (q := 131) (i := 1) dX11_parish_130 rfl rfl rfl ?_
            refine k_imul (q := 132) dX11_parish_131 rfl ?_
            refine k_iload_n (q := 133) (i := 2) dX11_parish_132 rfl rfl rfl ?_
            refine k_iadd (q := 134) dX11_parish_133 rfl ?_
            refine k_iconst (q := 135) dX11_parish_134 rfl ?_
            refine k_isub (q := 136) dX11_parish_135 rfl ?_
            refine k_ialF (q := 137) hn hE dX11_parish_136 rfl rfl (by omega) (by show _ < 16; omega) (by decide) ?_
            exact k_xret (Post := paP σ p x n E) dX11_parish_137 rfl (by decide) (by decide) ⟨hpp, hxx, by rw [show paA σ p x = σ.1 40 (4 * p + x - 2) by unfold paA; rw [if_neg (by omega), if_neg (by omega), if_neg (by omega), if_neg (by omega)]], _, rfl⟩
          by_cases k39_6 : x = 6
          · refine k_tabIn (tgt := 104) dX11_parish_39 (by first | assumption | exact ⟨by omega, by omega⟩) (by omega) (by omega) (by rw [k39_6]; rfl) (by decide) ?_
            refine k_aload_n (q := 105) (i := 0) dX11_parish_104 rfl rfl rfl ?_
            refine k_getR (q := 108) hn hE dX11_parish_105 rfl fg_X11_36 rfl rfl ?_
            refine k_iload_n (q := 109) (i := 1) dX11_parish_108 rfl rfl rfl ?_
            refine k_Vip (q := 112) (vs := [_]) hn hE ok_X2_area ml_X11_158 dX11_parish_109 rfl ⟨_, _, rfl⟩ rfl rfl rfl (Nat.le_of_ble_eq_true rfl) (by decide) (by decide) (by decide) (by decide) (c_X2_area (Or.inl rfl) hpp.1 (by omega)) (fun z3 => ?_)
            exact k_xret (Post := paP σ p x n E) dX11_parish_112 rfl (by decide) (by decide) ⟨hpp, hxx, by rw [show paA σ p x = gArea (σ.1 3) (σ.1 4) (σ.1 40) p by unfold paA; rw [if_neg (by omega), if_neg (by omega), if_pos (by omega)]], _, rfl⟩
          have k39_7 : x = 7 := by omega
          refine k_tabIn (tgt := 113) dX11_parish_39 (by first | assumption | exact ⟨by omega, by omega⟩) (by omega) (by omega) (by rw [k39_7]; rfl) (by decide) ?_
          refine k_aload_n (q := 114) (i := 0) dX11_parish_113 rfl rfl rfl ?_
          refine k_getR (q := 117) hn hE dX11_parish_114 rfl fg_X11_36 rfl rfl ?_
          refine k_iload_n (q := 118) (i := 1) dX11_parish_117 rfl rfl rfl ?_
          refine k_Vip (q := 121) (vs := [_]) hn hE ok_X2_touched ml_X11_161 dX11_parish_118 rfl ⟨_, _, rfl⟩ rfl rfl rfl (Nat.le_of_ble_eq_true rfl) (by decide) (by decide) (by decide) (by decide) (c_X2_touched hT hI (Or.inl rfl) hpp.1 (by omega)) (fun z3 => ?_)
          exact k_xret (Post := paP σ p x n E) dX11_parish_121 rfl (by decide) (by decide) ⟨hpp, hxx, by rw [show paA σ p x = gTd (σ.1 3) (σ.1 4) (σ.1 40) (σ.1 2 2) p by unfold paA; rw [if_neg (by omega), if_neg (by omega), if_neg (by omega), if_pos (by omega)]]; rfl, _, rfl⟩
        · exact k_throw (i := 4) hlt rfl (by decide) (by decide +kernel) (by decide +kernel) (by decide +kernel) (by decide +kernel) (by decide +kernel) (by decide +kernel) (List.mem_append_left _ (by decide +kernel)) (List.mem_append_left _ (by decide +kernel)) rfl (fun w hw => xi_2 hw) xo_2 dX11_parish_28 dX11_parish_31 dX11_parish_32 dX11_parish_34 dX11_parish_37 (Or.inr ⟨rfl, hpp, by omega⟩)
    · have hnp5 : ¬ (0 ≤ p ∧ p < σ.1 2 2) := fun q => by rw [if_pos q] at c5; exact absurd c5 (by decide)
      exact k_throw (i := 3) hlt rfl (by decide) (by decide +kernel) (by decide +kernel) (by decide +kernel) (by decide +kernel) (by decide +kernel) (by decide +kernel) (List.mem_append_left _ (by decide +kernel)) (List.mem_append_left _ (by decide +kernel)) rfl (fun w hw => xi_1 hw) xo_1 dX11_parish_8 dX11_parish_11 dX11_parish_12 dX11_parish_14 dX11_parish_17 (Or.inl ⟨rfl, hnp5⟩)
  exact key p' e s m _ below meth c s.heap [] _ B.exec B.bytes hml B.returns ⟨B.notSynchronized, hnm, hX, hex⟩ hown (fun w hw => hts w (List.mem_cons_of_mem _ hw)) hK hP va_S.rf (hasL_entry [.ref (G.2.2.2 + 0), .int (iZ p), .int (iZ x)] (Nat.le_of_ble_eq_true rfl) rfl)

