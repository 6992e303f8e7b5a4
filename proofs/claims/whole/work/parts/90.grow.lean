/-! ===== a world that grows ===== -/
abbrev Wn : Type := Nat × (Nat → va_E) × Nat
def nA (G : Gx) : Nat → Prop := fun q => G.2.2.2 ≤ q
def upE (E : Nat → va_E) (k : Nat) (e : va_E) : Nat → va_E := fun j => if j = k then e else E j
theorem upE_ne {E : Nat → va_E} {k : Nat} {e : va_E} {j : Nat} (h : j ≠ k) : upE E k e j = E j := if_neg h
theorem upE_eq {E : Nat → va_E} {k : Nat} {e : va_E} : upE E k e k = e := if_pos rfl
def nW (G : Gx) (n : Nat) (E : Nat → va_E) : va_W := (List.range n).map (fun k => (G.2.2.2 + k, E k))
def nP (G : Gx) (ω : Wn) (H : Heap) : Prop := va_P G.2.1 vwCl (nW G ω.1 ω.2.1) H ∧ H.size = G.2.2.2 + ω.1 + ω.2.2
theorem nW_get {G : Gx} {n k : Nat} {E : Nat → va_E} (h : k < n) : (nW G n E)[k]? = some (G.2.2.2 + k, E k) := by
  unfold nW; rw [List.getElem?_map, List.getElem?_range h]; rfl
theorem nW_inv {G : Gx} {n k : Nat} {E : Nat → va_E} {q : Nat × va_E} (h : (nW G n E)[k]? = some q) : k < n ∧ q = (G.2.2.2 + k, E k) := by
  have hl : k < n := by
    have := (List.getElem?_eq_some_iff.mp h).1
    unfold nW at this; rw [List.length_map, List.length_range] at this; exact this
  rw [nW_get hl] at h
  exact ⟨hl, (Option.some.inj h).symm⟩
theorem nW_len {G : Gx} {n : Nat} {E : Nat → va_E} : (nW G n E).length = n := by unfold nW; rw [List.length_map, List.length_range]
theorem nW_set {G : Gx} {n k : Nat} {E : Nat → va_E} {e : va_E} (h : k < n) : (nW G n E).set k (G.2.2.2 + k, e) = nW G n (upE E k e) := by
  apply List.ext_getElem?
  intro i
  by_cases hi : i < n
  · rw [nW_get hi, List.getElem?_set]
    by_cases hk : k = i
    · subst hk
      rw [if_pos rfl, if_pos (by rw [nW_len]; exact h), upE_eq]
    · rw [if_neg hk, nW_get hi, upE_ne (fun q => hk q.symm)]
  · rw [List.getElem?_eq_none (by rw [List.length_set, nW_len]; omega), List.getElem?_eq_none (by rw [nW_len]; omega)]
theorem nW_ext {G : Gx} {n : Nat} {E E' : Nat → va_E} (h : ∀ j, j < n → E j = E' j) : nW G n E = nW G n E' := by
  apply List.ext_getElem?
  intro i
  by_cases hi : i < n
  · rw [nW_get hi, nW_get hi, h i hi]
  · rw [List.getElem?_eq_none (by rw [nW_len]; omega), List.getElem?_eq_none (by rw [nW_len]; omega)]
theorem nW_push {G : Gx} {n : Nat} {E : Nat → va_E} {e : va_E} : nW G n E ++ [(G.2.2.2 + n, e)] = nW G (n + 1) (upE E n e) := by
  unfold nW
  rw [List.range_succ, List.map_append]
  congr 1
  · apply List.map_congr_left
    intro a ha
    rw [upE_ne (Nat.ne_of_lt (List.mem_range.mp ha))]
  · show _ = [(G.2.2.2 + n, upE E n e n)]
    rw [upE_eq]
theorem nD (G : Gx) (n : Nat) (E : Nat → va_E) : va_D (nA G) (nW G n E) := by
  refine ⟨fun i j p q hp hq e => ?_, fun k q hq => ?_⟩
  · have h1 := (nW_inv hp).2; have h2 := (nW_inv hq).2
    subst h1 h2
    have : G.2.2.2 + i = G.2.2.2 + j := e
    omega
  · have h1 := (nW_inv hq).2
    subst h1
    show G.2.2.2 ≤ G.2.2.2 + k
    omega
def nS (G : Gx) (U : State) : Prop := vk_S 5 strL strB (gSA G) (gSV G) (nA G) U U.heap ∧ (∀ (i : Nat) (q : String × Nat × String), strT[i]? = some q → vk_R q.1 q.2.1 q.2.2 (gSA G i) U) ∧ va_Z "java/lang/String" "COMPACT_STRINGS" "Z" (.int 1) (nA G) U U.heap ∧ va_Zq "jdk/internal/util/Preconditions" "SIOOBE_FORMATTER" "Ljava/util/function/BiFunction;" (nA G) U U.heap
def nK (G : Gx) (U : State) : Prop := va_K G.2.1 vwCl (tysOf G.2.2.1) U ∧ nS G U
theorem nK.call {G : Gx} {s U : State} {H : Heap} {locs : List Loc} (h : nK G s) (hS : va_S (nA G) s.heap H locs) (hU : U.heap = H) (hW : s.WarmedH U.vm) : nK G U := by
  subst hU
  exact ⟨va_K.moved hW.alike h.1, vk_S.moved hW.alike (h.2.1.kept hS.2.1), fun i q e => vk_R.warm hW (h.2.2.1 i q e), va_Z.moved hW.alike (h.2.2.2.1.kept hS.2.1), va_Zq.moved hW.alike (h.2.2.2.2.kept hS.2.1)⟩
theorem nK.same {G : Gx} {u U : State} (hv : U.vm = u.vm) (hh : U.heap = u.heap) (h : nK G u) : nK G U := by
  have ha : u.vm.Alike U.vm := by rw [hv]; exact Vm.Alike.refl _
  refine ⟨va_K.moved ha h.1, ?_, fun i q e => vk_R.same hv (h.2.2.1 i q e), ?_, ?_⟩
  · rw [hh]; exact vk_S.moved ha h.2.1
  · rw [hh]; exact va_Z.moved ha h.2.2.2.1
  · rw [hh]; exact va_Zq.moved ha h.2.2.2.2
theorem gA_nA {G : Gx} (q : Nat) (h : gA G q) : nA G q := h.1
theorem va_Z.nrw {C n d : String} {v : Value} {A B : Nat → Prop} {U : State} {H : Heap} (h : va_Z C n d v A U H) (hAB : ∀ q, B q → A q) : va_Z C n d v B U H := by
  obtain ⟨cf, kf, fi, f, a, cell, h1, h2, h3, h4, h5, h6, h7, h8⟩ := h
  exact ⟨cf, kf, fi, f, a, cell, h1, h2, h3, h4, h5, h6, h7, fun q => h8 (hAB _ q)⟩
theorem nK.g {G : Gx} {U : State} (h : nK G U) : gK G U := ⟨h.1, h.2.1.narrow gA_nA, h.2.2.1, h.2.2.2.1.nrw gA_nA, by
  rcases h.2.2.2.2 with q | ⟨t, q⟩
  · exact Or.inl (q.nrw gA_nA)
  · exact Or.inr ⟨t, q.nrw gA_nA⟩⟩
theorem gi_gd {w : Cond} (hw : w ∈ lw_good) : GoodIn lw_good (w :: lw_good) := fun x hx => by
  rcases List.mem_cons.mp hx with rfl | hx
  · exact ⟨hw, good_of_word (List.mem_filter.mp hw).2⟩
  · exact ⟨hx, good_of_word (List.mem_filter.mp hx).2⟩
abbrev Fq : Type := Array Value → State → Code → Prop
abbrev Qq : Type := List Frame → Array Value → State → State → Prop
def nR (d mc ms : Nat) : Room := { frames := d, cells := mc, slots := ms, locals := 64 * d }
def nQ (G : Gx) (Post : Option Value → Wn → Prop) : Array Value → State → Outcome → State → Prop := fun _ st oc t => (∃ (r : Option Value) (ω' : Wn), oc = .returned r ∧ Post r ω' ∧ nP G ω' t.heap) ∧ va_F (nA G) st t
def K (G : Gx) (R : Room) (M : Mt) (Fx : Fq) (Q : Qq) (ω : Wn) (kc ks : Nat) (pc : Nat) (L : List (Option Value)) (st : List Value) : Prop :=
  ∀ (p : Program) (e : Env) (s : State) (m : MethodId) (args : Array Value) (below : List Frame) (meth : Method) (c : Code) (H : Heap) (locs : List Loc) (ls : Array Slot),
    p.tables.exec = Jvm.exec → c.code = M.2.1 → c.maxLocals = M.2.2.1 → meth.sig.returnType = M.2.2.2 → (meth.locks = false ∧ meth.name = M.1.name ∧ Fx args s c) → s.vm.findClass M.1.cls = some m.cls → (∀ w ∈ lw_good, w.before args s = true) → nK G s → nP G ω H → va_S (nA G) s.heap H locs → hasL ls M.2.2.1 L →
    W p G.1 e R s m args below meth c H locs kc ks (Q below args s) (F0 m pc ls st)
def CKn (G : Gx) (d mc ms : Nat) (M : Mt) (vs : List Value) (ω : Wn) (Post : Option Value → Wn → Prop) : Prop :=
  Met G.1 M.1 (.code M.1 M.2.1 M.2.2.1 M.2.2.2 :: lw_good) (nR d mc ms) (va_Pc vs (fun U => nP G ω U.heap ∧ nK G U)) (nQ G Post) mc ms (nA G)
abbrev kQ (G : Gx) (Post : Option Value → Wn → Prop) (mc ms : Nat) : Qq := fun below args s => MQ below (nQ G Post) args s mc ms (nA G)
abbrev kT : Fq := fun _ _ _ => True
def FX (own : String) (idx ci j : Nat) (ty : FieldType) (b : Bool) : Prop := ∃ (C : String) (T : u_T) (N : Nat) (ty0 : Nat → FieldType), vwCl[ci]? = some (C, T, N) ∧ j < N ∧ (∀ w ∈ u_ws C T N, w ∈ lw_good) ∧ Cond.fieldLink own idx (T j).1 (T j).2.1 (T j).2.2.1 ∈ lw_good ∧ (∀ k, k < N → parseFieldDescriptor (T k).2.2.1 = some (ty0 k)) ∧ (∀ a, a < N → ∀ b, b < N → a ≠ b → (T a).2.1 ≠ (T b).2.1) ∧ (T j).2.2.2 = b ∧ parseFieldDescriptor (T j).2.2.1 = some ty ∧ (T j).1 = own
section KR
variable {G : Gx} {R : Room} {M : Mt} {Fx : Fq} {Q : Qq} {ω : Wn} {kc ks : Nat} {pc q : Nat} {L : List (Option Value)} {st : List Value}
theorem ac_int : Cond.arrayClass .int ∈ lw_good := (lwk lk_1 68 rfl rfl)
theorem ac_long : Cond.arrayClass .long ∈ lw_good := (lwk lk_1 69 rfl rfl)
theorem ac_byte : Cond.arrayClass .byte ∈ lw_good := (lwk lk_1 67 rfl rfl)
theorem ac_boolean : Cond.arrayClass .boolean ∈ lw_good := (lwk lk_2 228 rfl rfl)
theorem oi_inst : Cond.instanceMethod Lib.objectInit ∈ lw_good := (lwk lk_1 33 rfl rfl)
theorem oi_code : Cond.code Lib.objectInit ⟨#[0xb1]⟩ 1 none ∈ lw_good := (lwk lk_1 34 rfl rfl)
theorem k_iconst {n : Int} (hd : decode M.2.1 pc = .ok (.iconst n, 1)) (hq : pc + 1 = q) (k : K G R M Fx Q ω kc ks q L (.int (iZ n) :: st)) : K G R M Fx Q ω kc ks pc L (st) := by
  intro p e s m args below meth c H locs ls h1 h2 h3 h4 h5 h6 h7 h8 h9 h10 h11
  subst hq
  exact lv_iconst h1 h2 hd rfl (k p e s m args below meth c H locs ls h1 h2 h3 h4 h5 h6 h7 h8 h9 h10 h11)
theorem k_bipush {n : Int} (hd : decode M.2.1 pc = .ok (.bipush n, 2)) (hq : pc + 2 = q) (hv : (Int8.ofInt n).toInt32 = iZ n) (k : K G R M Fx Q ω kc ks q L (.int (iZ n) :: st)) : K G R M Fx Q ω kc ks pc L (st) := by
  intro p e s m args below meth c H locs ls h1 h2 h3 h4 h5 h6 h7 h8 h9 h10 h11
  subst hq
  exact lv_bipush h1 h2 hd hv (k p e s m args below meth c H locs ls h1 h2 h3 h4 h5 h6 h7 h8 h9 h10 h11)
theorem k_sipush {n : Int} (hd : decode M.2.1 pc = .ok (.sipush n, 3)) (hq : pc + 3 = q) (hv : (Int16.ofInt n).toInt32 = iZ n) (k : K G R M Fx Q ω kc ks q L (.int (iZ n) :: st)) : K G R M Fx Q ω kc ks pc L (st) := by
  intro p e s m args below meth c H locs ls h1 h2 h3 h4 h5 h6 h7 h8 h9 h10 h11
  subst hq
  exact lv_sipush h1 h2 hd hv (k p e s m args below meth c H locs ls h1 h2 h3 h4 h5 h6 h7 h8 h9 h10 h11)
theorem k_lconst {n : Fin 2} {z : Int} (hd : decode M.2.1 pc = .ok (.lconst n, 1)) (hq : pc + 1 = q) (hv : Int64.ofNat (n : Nat) = lZ z) (k : K G R M Fx Q ω kc ks q L (.long (lZ z) :: st)) : K G R M Fx Q ω kc ks pc L (st) := by
  intro p e s m args below meth c H locs ls h1 h2 h3 h4 h5 h6 h7 h8 h9 h10 h11
  subst hq
  exact lv_lconst h1 h2 hd hv (k p e s m args below meth c H locs ls h1 h2 h3 h4 h5 h6 h7 h8 h9 h10 h11)
theorem k_ldc {i : Nat} {v : Int32} {z : Int} (hd : decode M.2.1 pc = .ok (.ldc i, 2)) (hq : pc + 2 = q) (hw : Cond.constant M.1.cls i v ∈ lw_good) (hv : v = iZ z) (k : K G R M Fx Q ω kc ks q L (.int (iZ z) :: st)) : K G R M Fx Q ω kc ks pc L (st) := by
  intro p e s m args below meth c H locs ls h1 h2 h3 h4 h5 h6 h7 h8 h9 h10 h11
  subst hq
  subst hv
  exact lv_ldc h1 h2 h6 (h7 _ hw) hd (k p e s m args below meth c H locs ls h1 h2 h3 h4 h5 h6 h7 h8 h9 h10 h11)
theorem k_ldcw {i : Nat} {v : Int32} {z : Int} (hd : decode M.2.1 pc = .ok (.ldc_w i, 3)) (hq : pc + 3 = q) (hw : Cond.constant M.1.cls i v ∈ lw_good) (hv : v = iZ z) (k : K G R M Fx Q ω kc ks q L (.int (iZ z) :: st)) : K G R M Fx Q ω kc ks pc L (st) := by
  intro p e s m args below meth c H locs ls h1 h2 h3 h4 h5 h6 h7 h8 h9 h10 h11
  subst hq
  subst hv
  exact lv_ldcw h1 h2 h6 (h7 _ hw) hd (k p e s m args below meth c H locs ls h1 h2 h3 h4 h5 h6 h7 h8 h9 h10 h11)
theorem k_ldc2 {i : Nat} {v : Int64} {z : Int} (hd : decode M.2.1 pc = .ok (.ldc2_w i, 3)) (hq : pc + 3 = q) (hw : Cond.constantLong M.1.cls i v ∈ lw_good) (hv : v = lZ z) (k : K G R M Fx Q ω kc ks q L (.long (lZ z) :: st)) : K G R M Fx Q ω kc ks pc L (st) := by
  intro p e s m args below meth c H locs ls h1 h2 h3 h4 h5 h6 h7 h8 h9 h10 h11
  subst hq
  subst hv
  exact lv_ldc2 h1 h2 h6 (h7 _ hw) hd (k p e s m args below meth c H locs ls h1 h2 h3 h4 h5 h6 h7 h8 h9 h10 h11)
theorem k_iload_n {f : Fin 4} {i : Nat} {x : Int32} (hd : decode M.2.1 pc = .ok (.iload_n f, 1)) (hq : pc + 1 = q) (hi : (f : Nat) = i) (hl : L[i]? = some (some (.int x))) (k : K G R M Fx Q ω kc ks q L (.int x :: st)) : K G R M Fx Q ω kc ks pc L (st) := by
  intro p e s m args below meth c H locs ls h1 h2 h3 h4 h5 h6 h7 h8 h9 h10 h11
  subst hq
  exact lv_iload_n h1 h2 hd hi (h11.2.2 i _ hl) (k p e s m args below meth c H locs ls h1 h2 h3 h4 h5 h6 h7 h8 h9 h10 h11)
theorem k_iload {i : Nat} {x : Int32} (hd : decode M.2.1 pc = .ok (.iload i, 2)) (hq : pc + 2 = q) (hl : L[i]? = some (some (.int x))) (k : K G R M Fx Q ω kc ks q L (.int x :: st)) : K G R M Fx Q ω kc ks pc L (st) := by
  intro p e s m args below meth c H locs ls h1 h2 h3 h4 h5 h6 h7 h8 h9 h10 h11
  subst hq
  exact lv_iload h1 h2 hd (h11.2.2 i _ hl) (k p e s m args below meth c H locs ls h1 h2 h3 h4 h5 h6 h7 h8 h9 h10 h11)
theorem k_lload_n {f : Fin 4} {i : Nat} {x : Int64} (hd : decode M.2.1 pc = .ok (.lload_n f, 1)) (hq : pc + 1 = q) (hi : (f : Nat) = i) (hl : L[i]? = some (some (.long x))) (k : K G R M Fx Q ω kc ks q L (.long x :: st)) : K G R M Fx Q ω kc ks pc L (st) := by
  intro p e s m args below meth c H locs ls h1 h2 h3 h4 h5 h6 h7 h8 h9 h10 h11
  subst hq
  exact lv_lload_n h1 h2 hd hi (h11.2.2 i _ hl) (k p e s m args below meth c H locs ls h1 h2 h3 h4 h5 h6 h7 h8 h9 h10 h11)
theorem k_lload {i : Nat} {x : Int64} (hd : decode M.2.1 pc = .ok (.lload i, 2)) (hq : pc + 2 = q) (hl : L[i]? = some (some (.long x))) (k : K G R M Fx Q ω kc ks q L (.long x :: st)) : K G R M Fx Q ω kc ks pc L (st) := by
  intro p e s m args below meth c H locs ls h1 h2 h3 h4 h5 h6 h7 h8 h9 h10 h11
  subst hq
  exact lv_lload h1 h2 hd (h11.2.2 i _ hl) (k p e s m args below meth c H locs ls h1 h2 h3 h4 h5 h6 h7 h8 h9 h10 h11)
theorem k_aload_n {f : Fin 4} {i : Nat} {x : Nat} (hd : decode M.2.1 pc = .ok (.aload_n f, 1)) (hq : pc + 1 = q) (hi : (f : Nat) = i) (hl : L[i]? = some (some (.ref x))) (k : K G R M Fx Q ω kc ks q L (.ref x :: st)) : K G R M Fx Q ω kc ks pc L (st) := by
  intro p e s m args below meth c H locs ls h1 h2 h3 h4 h5 h6 h7 h8 h9 h10 h11
  subst hq
  exact lv_aload_n h1 h2 hd hi (h11.2.2 i _ hl) (k p e s m args below meth c H locs ls h1 h2 h3 h4 h5 h6 h7 h8 h9 h10 h11)
theorem k_aload {i : Nat} {x : Nat} (hd : decode M.2.1 pc = .ok (.aload i, 2)) (hq : pc + 2 = q) (hl : L[i]? = some (some (.ref x))) (k : K G R M Fx Q ω kc ks q L (.ref x :: st)) : K G R M Fx Q ω kc ks pc L (st) := by
  intro p e s m args below meth c H locs ls h1 h2 h3 h4 h5 h6 h7 h8 h9 h10 h11
  subst hq
  exact lv_aload h1 h2 hd (h11.2.2 i _ hl) (k p e s m args below meth c H locs ls h1 h2 h3 h4 h5 h6 h7 h8 h9 h10 h11)
theorem k_istore_n {f : Fin 4} {i : Nat} {x : Int32} (hd : decode M.2.1 pc = .ok (.istore_n f, 1)) (hq : pc + 1 = q) (hi : (f : Nat) = i) (hn : i < M.2.2.1) (hok : okS L i = true) {L' : List (Option Value)} (hL : (L.set i (some (.int x))) = L') (k : K G R M Fx Q ω kc ks q L' st) : K G R M Fx Q ω kc ks pc L (.int x :: st) := by
  intro p e s m args below meth c H locs ls h1 h2 h3 h4 h5 h6 h7 h8 h9 h10 h11
  subst hq hL
  exact lv_istore_n h1 h2 hd hi (hasL_has h11) hn rfl (fun ls' h' => k p e s m args below meth c H locs ls' h1 h2 h3 h4 h5 h6 h7 h8 h9 h10 (hasL_set1 hok h'))
theorem k_istore {i : Nat} {x : Int32} (hd : decode M.2.1 pc = .ok (.istore i, 2)) (hq : pc + 2 = q) (hn : i < M.2.2.1) (hok : okS L i = true) {L' : List (Option Value)} (hL : (L.set i (some (.int x))) = L') (k : K G R M Fx Q ω kc ks q L' st) : K G R M Fx Q ω kc ks pc L (.int x :: st) := by
  intro p e s m args below meth c H locs ls h1 h2 h3 h4 h5 h6 h7 h8 h9 h10 h11
  subst hq hL
  exact lv_istore h1 h2 hd (hasL_has h11) hn rfl (fun ls' h' => k p e s m args below meth c H locs ls' h1 h2 h3 h4 h5 h6 h7 h8 h9 h10 (hasL_set1 hok h'))
theorem k_lstore_n {f : Fin 4} {i : Nat} {x : Int64} (hd : decode M.2.1 pc = .ok (.lstore_n f, 1)) (hq : pc + 1 = q) (hi : (f : Nat) = i) (hn : i + 1 < M.2.2.1) (hok : okS L i = true) {L' : List (Option Value)} (hL : ((L.set i (some (.long x))).set (i + 1) none) = L') (k : K G R M Fx Q ω kc ks q L' st) : K G R M Fx Q ω kc ks pc L (.long x :: st) := by
  intro p e s m args below meth c H locs ls h1 h2 h3 h4 h5 h6 h7 h8 h9 h10 h11
  subst hq hL
  exact lv_lstore_n h1 h2 hd hi (hasL_has h11) hn rfl (fun ls' h' => k p e s m args below meth c H locs ls' h1 h2 h3 h4 h5 h6 h7 h8 h9 h10 (hasL_set2 hok h'))
theorem k_lstore {i : Nat} {x : Int64} (hd : decode M.2.1 pc = .ok (.lstore i, 2)) (hq : pc + 2 = q) (hn : i + 1 < M.2.2.1) (hok : okS L i = true) {L' : List (Option Value)} (hL : ((L.set i (some (.long x))).set (i + 1) none) = L') (k : K G R M Fx Q ω kc ks q L' st) : K G R M Fx Q ω kc ks pc L (.long x :: st) := by
  intro p e s m args below meth c H locs ls h1 h2 h3 h4 h5 h6 h7 h8 h9 h10 h11
  subst hq hL
  exact lv_lstore h1 h2 hd (hasL_has h11) hn rfl (fun ls' h' => k p e s m args below meth c H locs ls' h1 h2 h3 h4 h5 h6 h7 h8 h9 h10 (hasL_set2 hok h'))
theorem k_astore_n {f : Fin 4} {i : Nat} {x : Nat} (hd : decode M.2.1 pc = .ok (.astore_n f, 1)) (hq : pc + 1 = q) (hi : (f : Nat) = i) (hn : i < M.2.2.1) (hok : okS L i = true) {L' : List (Option Value)} (hL : (L.set i (some (.ref x))) = L') (k : K G R M Fx Q ω kc ks q L' st) : K G R M Fx Q ω kc ks pc L (.ref x :: st) := by
  intro p e s m args below meth c H locs ls h1 h2 h3 h4 h5 h6 h7 h8 h9 h10 h11
  subst hq hL
  exact lv_astore_n h1 h2 hd hi (hasL_has h11) hn rfl (fun ls' h' => k p e s m args below meth c H locs ls' h1 h2 h3 h4 h5 h6 h7 h8 h9 h10 (hasL_set1 hok h'))
theorem k_astore {i : Nat} {x : Nat} (hd : decode M.2.1 pc = .ok (.astore i, 2)) (hq : pc + 2 = q) (hn : i < M.2.2.1) (hok : okS L i = true) {L' : List (Option Value)} (hL : (L.set i (some (.ref x))) = L') (k : K G R M Fx Q ω kc ks q L' st) : K G R M Fx Q ω kc ks pc L (.ref x :: st) := by
  intro p e s m args below meth c H locs ls h1 h2 h3 h4 h5 h6 h7 h8 h9 h10 h11
  subst hq hL
  exact lv_astore h1 h2 hd (hasL_has h11) hn rfl (fun ls' h' => k p e s m args below meth c H locs ls' h1 h2 h3 h4 h5 h6 h7 h8 h9 h10 (hasL_set1 hok h'))
theorem k_iinc {i : Nat} {n z : Int} (hd : decode M.2.1 pc = .ok (.iinc i n, 3)) (hq : pc + 3 = q) (hl : L[i]? = some (some (.int (iZ z)))) (hn : i < M.2.2.1) (hok : okS L i = true) {L' : List (Option Value)} (hL : L.set i (some (.int (iZ (z + n)))) = L') (k : K G R M Fx Q ω kc ks q L' st) : K G R M Fx Q ω kc ks pc L st := by
  intro p e s m args below meth c H locs ls h1 h2 h3 h4 h5 h6 h7 h8 h9 h10 h11
  subst hq hL
  obtain ⟨a, ha⟩ := List.getElem?_of_mem (asc_mem.mpr hl)
  exact lv_iinc (v := iZ (z + n)) h1 h2 hd (hasL_has h11) ha (iZ_add z n) hn rfl (fun ls' h' => k p e s m args below meth c H locs ls' h1 h2 h3 h4 h5 h6 h7 h8 h9 h10 (hasL_set1 hok h'))
theorem k_sub (L' : List (Option Value)) (hs : ∀ (i : Nat) (v : Value), L'[i]? = some (some v) → L[i]? = some (some v)) (k : K G R M Fx Q ω kc ks pc L' st) : K G R M Fx Q ω kc ks pc L st := by
  intro p e s m args below meth c H locs ls h1 h2 h3 h4 h5 h6 h7 h8 h9 h10 h11
  exact k p e s m args below meth c H locs ls h1 h2 h3 h4 h5 h6 h7 h8 h9 h10 (hasL_sub h11 hs)
theorem k_iadd {x y : Int} (hd : decode M.2.1 pc = .ok (.iadd, 1)) (hq : pc + 1 = q) (k : K G R M Fx Q ω kc ks q L (.int (iZ (x + y)) :: st)) : K G R M Fx Q ω kc ks pc L (.int (iZ y) :: .int (iZ x) :: st) := by
  intro p e s m args below meth c H locs ls h1 h2 h3 h4 h5 h6 h7 h8 h9 h10 h11
  subst hq
  refine lv_iadd h1 h2 hd ?_
  rw [iZ_add]
  exact k p e s m args below meth c H locs ls h1 h2 h3 h4 h5 h6 h7 h8 h9 h10 h11
theorem k_isub {x y : Int} (hd : decode M.2.1 pc = .ok (.isub, 1)) (hq : pc + 1 = q) (k : K G R M Fx Q ω kc ks q L (.int (iZ (x - y)) :: st)) : K G R M Fx Q ω kc ks pc L (.int (iZ y) :: .int (iZ x) :: st) := by
  intro p e s m args below meth c H locs ls h1 h2 h3 h4 h5 h6 h7 h8 h9 h10 h11
  subst hq
  refine lv_isub h1 h2 hd ?_
  rw [iZ_sub]
  exact k p e s m args below meth c H locs ls h1 h2 h3 h4 h5 h6 h7 h8 h9 h10 h11
theorem k_imul {x y : Int} (hd : decode M.2.1 pc = .ok (.imul, 1)) (hq : pc + 1 = q) (k : K G R M Fx Q ω kc ks q L (.int (iZ (x * y)) :: st)) : K G R M Fx Q ω kc ks pc L (.int (iZ y) :: .int (iZ x) :: st) := by
  intro p e s m args below meth c H locs ls h1 h2 h3 h4 h5 h6 h7 h8 h9 h10 h11
  subst hq
  refine lv_imul h1 h2 hd ?_
  rw [iZ_mul]
  exact k p e s m args below meth c H locs ls h1 h2 h3 h4 h5 h6 h7 h8 h9 h10 h11
theorem k_ladd {x y : Int} (hd : decode M.2.1 pc = .ok (.ladd, 1)) (hq : pc + 1 = q) (k : K G R M Fx Q ω kc ks q L (.long (lZ (x + y)) :: st)) : K G R M Fx Q ω kc ks pc L (.long (lZ y) :: .long (lZ x) :: st) := by
  intro p e s m args below meth c H locs ls h1 h2 h3 h4 h5 h6 h7 h8 h9 h10 h11
  subst hq
  refine lv_ladd h1 h2 hd ?_
  rw [lZ_add]
  exact k p e s m args below meth c H locs ls h1 h2 h3 h4 h5 h6 h7 h8 h9 h10 h11
theorem k_lsub {x y : Int} (hd : decode M.2.1 pc = .ok (.lsub, 1)) (hq : pc + 1 = q) (k : K G R M Fx Q ω kc ks q L (.long (lZ (x - y)) :: st)) : K G R M Fx Q ω kc ks pc L (.long (lZ y) :: .long (lZ x) :: st) := by
  intro p e s m args below meth c H locs ls h1 h2 h3 h4 h5 h6 h7 h8 h9 h10 h11
  subst hq
  refine lv_lsub h1 h2 hd ?_
  rw [lZ_sub]
  exact k p e s m args below meth c H locs ls h1 h2 h3 h4 h5 h6 h7 h8 h9 h10 h11
theorem k_lmul {x y : Int} (hd : decode M.2.1 pc = .ok (.lmul, 1)) (hq : pc + 1 = q) (k : K G R M Fx Q ω kc ks q L (.long (lZ (x * y)) :: st)) : K G R M Fx Q ω kc ks pc L (.long (lZ y) :: .long (lZ x) :: st) := by
  intro p e s m args below meth c H locs ls h1 h2 h3 h4 h5 h6 h7 h8 h9 h10 h11
  subst hq
  refine lv_lmul h1 h2 hd ?_
  rw [lZ_mul]
  exact k p e s m args below meth c H locs ls h1 h2 h3 h4 h5 h6 h7 h8 h9 h10 h11
theorem k_ineg {x : Int} (hd : decode M.2.1 pc = .ok (.ineg, 1)) (hq : pc + 1 = q) (k : K G R M Fx Q ω kc ks q L (.int (iZ (-x)) :: st)) : K G R M Fx Q ω kc ks pc L (.int (iZ x) :: st) := by
  intro p e s m args below meth c H locs ls h1 h2 h3 h4 h5 h6 h7 h8 h9 h10 h11
  subst hq
  refine lv_ineg h1 h2 hd ?_
  rw [iZ_neg]
  exact k p e s m args below meth c H locs ls h1 h2 h3 h4 h5 h6 h7 h8 h9 h10 h11
theorem k_lneg {x : Int} (hd : decode M.2.1 pc = .ok (.lneg, 1)) (hq : pc + 1 = q) (k : K G R M Fx Q ω kc ks q L (.long (lZ (-x)) :: st)) : K G R M Fx Q ω kc ks pc L (.long (lZ x) :: st) := by
  intro p e s m args below meth c H locs ls h1 h2 h3 h4 h5 h6 h7 h8 h9 h10 h11
  subst hq
  refine lv_lneg h1 h2 hd ?_
  rw [lZ_neg]
  exact k p e s m args below meth c H locs ls h1 h2 h3 h4 h5 h6 h7 h8 h9 h10 h11
theorem k_iand {x y z : Int} (hd : decode M.2.1 pc = .ok (.iand, 1)) (hq : pc + 1 = q) (hz : iZ x &&& iZ y = iZ z) (k : K G R M Fx Q ω kc ks q L (.int (iZ z) :: st)) : K G R M Fx Q ω kc ks pc L (.int (iZ y) :: .int (iZ x) :: st) := by
  intro p e s m args below meth c H locs ls h1 h2 h3 h4 h5 h6 h7 h8 h9 h10 h11
  subst hq
  refine lv_iand h1 h2 hd ?_
  rw [hz]
  exact k p e s m args below meth c H locs ls h1 h2 h3 h4 h5 h6 h7 h8 h9 h10 h11
theorem k_ior {x y z : Int} (hd : decode M.2.1 pc = .ok (.ior, 1)) (hq : pc + 1 = q) (hz : iZ x ||| iZ y = iZ z) (k : K G R M Fx Q ω kc ks q L (.int (iZ z) :: st)) : K G R M Fx Q ω kc ks pc L (.int (iZ y) :: .int (iZ x) :: st) := by
  intro p e s m args below meth c H locs ls h1 h2 h3 h4 h5 h6 h7 h8 h9 h10 h11
  subst hq
  refine lv_ior h1 h2 hd ?_
  rw [hz]
  exact k p e s m args below meth c H locs ls h1 h2 h3 h4 h5 h6 h7 h8 h9 h10 h11
theorem k_ixor {x y z : Int} (hd : decode M.2.1 pc = .ok (.ixor, 1)) (hq : pc + 1 = q) (hz : iZ x ^^^ iZ y = iZ z) (k : K G R M Fx Q ω kc ks q L (.int (iZ z) :: st)) : K G R M Fx Q ω kc ks pc L (.int (iZ y) :: .int (iZ x) :: st) := by
  intro p e s m args below meth c H locs ls h1 h2 h3 h4 h5 h6 h7 h8 h9 h10 h11
  subst hq
  refine lv_ixor h1 h2 hd ?_
  rw [hz]
  exact k p e s m args below meth c H locs ls h1 h2 h3 h4 h5 h6 h7 h8 h9 h10 h11
theorem k_ishl {x y z : Int} (hd : decode M.2.1 pc = .ok (.ishl, 1)) (hq : pc + 1 = q) (hz : iZ x <<< (iZ y &&& 31) = iZ z) (k : K G R M Fx Q ω kc ks q L (.int (iZ z) :: st)) : K G R M Fx Q ω kc ks pc L (.int (iZ y) :: .int (iZ x) :: st) := by
  intro p e s m args below meth c H locs ls h1 h2 h3 h4 h5 h6 h7 h8 h9 h10 h11
  subst hq
  refine lv_ishl h1 h2 hd ?_
  rw [hz]
  exact k p e s m args below meth c H locs ls h1 h2 h3 h4 h5 h6 h7 h8 h9 h10 h11
theorem k_ishr {x y z : Int} (hd : decode M.2.1 pc = .ok (.ishr, 1)) (hq : pc + 1 = q) (hz : iZ x >>> (iZ y &&& 31) = iZ z) (k : K G R M Fx Q ω kc ks q L (.int (iZ z) :: st)) : K G R M Fx Q ω kc ks pc L (.int (iZ y) :: .int (iZ x) :: st) := by
  intro p e s m args below meth c H locs ls h1 h2 h3 h4 h5 h6 h7 h8 h9 h10 h11
  subst hq
  refine lv_ishr h1 h2 hd ?_
  rw [hz]
  exact k p e s m args below meth c H locs ls h1 h2 h3 h4 h5 h6 h7 h8 h9 h10 h11
theorem k_iushr {x y z : Int} (hd : decode M.2.1 pc = .ok (.iushr, 1)) (hq : pc + 1 = q) (hz : ((iZ x).toUInt32 >>> ((iZ y).toUInt32 &&& Int32.toUInt32 31)).toInt32 = iZ z) (k : K G R M Fx Q ω kc ks q L (.int (iZ z) :: st)) : K G R M Fx Q ω kc ks pc L (.int (iZ y) :: .int (iZ x) :: st) := by
  intro p e s m args below meth c H locs ls h1 h2 h3 h4 h5 h6 h7 h8 h9 h10 h11
  subst hq
  exact lv_iushr h1 h2 hd hz (k p e s m args below meth c H locs ls h1 h2 h3 h4 h5 h6 h7 h8 h9 h10 h11)
theorem k_land {x y z : Int} (hd : decode M.2.1 pc = .ok (.land, 1)) (hq : pc + 1 = q) (hz : lZ x &&& lZ y = lZ z) (k : K G R M Fx Q ω kc ks q L (.long (lZ z) :: st)) : K G R M Fx Q ω kc ks pc L (.long (lZ y) :: .long (lZ x) :: st) := by
  intro p e s m args below meth c H locs ls h1 h2 h3 h4 h5 h6 h7 h8 h9 h10 h11
  subst hq
  refine lv_land h1 h2 hd ?_
  rw [hz]
  exact k p e s m args below meth c H locs ls h1 h2 h3 h4 h5 h6 h7 h8 h9 h10 h11
theorem k_idiv {x y z : Int} (hd : decode M.2.1 pc = .ok (.idiv, 1)) (hq : pc + 1 = q) (h0 : ¬ iZ y = 0) (hz : iZ x / iZ y = iZ z) (k : K G R M Fx Q ω kc ks q L (.int (iZ z) :: st)) : K G R M Fx Q ω kc ks pc L (.int (iZ y) :: .int (iZ x) :: st) := by
  intro p e s m args below meth c H locs ls h1 h2 h3 h4 h5 h6 h7 h8 h9 h10 h11
  subst hq
  refine lv_idiv h1 h2 hd h0 ?_
  rw [hz]
  exact k p e s m args below meth c H locs ls h1 h2 h3 h4 h5 h6 h7 h8 h9 h10 h11
theorem k_irem {x y z : Int} (hd : decode M.2.1 pc = .ok (.irem, 1)) (hq : pc + 1 = q) (h0 : ¬ iZ y = 0) (hz : iZ x - iZ x / iZ y * iZ y = iZ z) (k : K G R M Fx Q ω kc ks q L (.int (iZ z) :: st)) : K G R M Fx Q ω kc ks pc L (.int (iZ y) :: .int (iZ x) :: st) := by
  intro p e s m args below meth c H locs ls h1 h2 h3 h4 h5 h6 h7 h8 h9 h10 h11
  subst hq
  refine lv_irem h1 h2 hd h0 ?_
  rw [hz]
  exact k p e s m args below meth c H locs ls h1 h2 h3 h4 h5 h6 h7 h8 h9 h10 h11
theorem k_ldiv {x y z : Int} (hd : decode M.2.1 pc = .ok (.ldiv, 1)) (hq : pc + 1 = q) (h0 : ¬ lZ y = 0) (hz : lZ x / lZ y = lZ z) (k : K G R M Fx Q ω kc ks q L (.long (lZ z) :: st)) : K G R M Fx Q ω kc ks pc L (.long (lZ y) :: .long (lZ x) :: st) := by
  intro p e s m args below meth c H locs ls h1 h2 h3 h4 h5 h6 h7 h8 h9 h10 h11
  subst hq
  refine lv_ldiv h1 h2 hd h0 ?_
  rw [hz]
  exact k p e s m args below meth c H locs ls h1 h2 h3 h4 h5 h6 h7 h8 h9 h10 h11
theorem k_lrem {x y z : Int} (hd : decode M.2.1 pc = .ok (.lrem, 1)) (hq : pc + 1 = q) (h0 : ¬ lZ y = 0) (hz : lZ x - lZ x / lZ y * lZ y = lZ z) (k : K G R M Fx Q ω kc ks q L (.long (lZ z) :: st)) : K G R M Fx Q ω kc ks pc L (.long (lZ y) :: .long (lZ x) :: st) := by
  intro p e s m args below meth c H locs ls h1 h2 h3 h4 h5 h6 h7 h8 h9 h10 h11
  subst hq
  refine lv_lrem h1 h2 hd h0 ?_
  rw [hz]
  exact k p e s m args below meth c H locs ls h1 h2 h3 h4 h5 h6 h7 h8 h9 h10 h11
theorem k_i2l {x : Int} (hd : decode M.2.1 pc = .ok (.i2l, 1)) (hq : pc + 1 = q) (hx : R32 x) (k : K G R M Fx Q ω kc ks q L (.long (lZ x) :: st)) : K G R M Fx Q ω kc ks pc L (.int (iZ x) :: st) := by
  intro p e s m args below meth c H locs ls h1 h2 h3 h4 h5 h6 h7 h8 h9 h10 h11
  subst hq
  exact lv_i2l h1 h2 hd (iZ_i2l hx) (k p e s m args below meth c H locs ls h1 h2 h3 h4 h5 h6 h7 h8 h9 h10 h11)
theorem k_l2i {x z : Int} (hd : decode M.2.1 pc = .ok (.l2i, 1)) (hq : pc + 1 = q) (hz : (lZ x).toInt32 = iZ z) (k : K G R M Fx Q ω kc ks q L (.int (iZ z) :: st)) : K G R M Fx Q ω kc ks pc L (.long (lZ x) :: st) := by
  intro p e s m args below meth c H locs ls h1 h2 h3 h4 h5 h6 h7 h8 h9 h10 h11
  subst hq
  exact lv_l2i h1 h2 hd hz (k p e s m args below meth c H locs ls h1 h2 h3 h4 h5 h6 h7 h8 h9 h10 h11)
theorem k_i2b {x z : Int} (hd : decode M.2.1 pc = .ok (.i2b, 1)) (hq : pc + 1 = q) (hz : (iZ x).toInt8.toInt32 = iZ z) (k : K G R M Fx Q ω kc ks q L (.int (iZ z) :: st)) : K G R M Fx Q ω kc ks pc L (.int (iZ x) :: st) := by
  intro p e s m args below meth c H locs ls h1 h2 h3 h4 h5 h6 h7 h8 h9 h10 h11
  subst hq
  exact lv_i2b h1 h2 hd hz (k p e s m args below meth c H locs ls h1 h2 h3 h4 h5 h6 h7 h8 h9 h10 h11)
theorem k_i2c {x z : Int} (hd : decode M.2.1 pc = .ok (.i2c, 1)) (hq : pc + 1 = q) (hz : ((iZ x).toUInt32 % 65536).toInt32 = iZ z) (k : K G R M Fx Q ω kc ks q L (.int (iZ z) :: st)) : K G R M Fx Q ω kc ks pc L (.int (iZ x) :: st) := by
  intro p e s m args below meth c H locs ls h1 h2 h3 h4 h5 h6 h7 h8 h9 h10 h11
  subst hq
  exact lv_i2c h1 h2 hd hz (k p e s m args below meth c H locs ls h1 h2 h3 h4 h5 h6 h7 h8 h9 h10 h11)
theorem k_lcmp {x y : Int} (hd : decode M.2.1 pc = .ok (.lcmp, 1)) (hq : pc + 1 = q) (hx : R64 x) (hy : R64 y) (k : K G R M Fx Q ω kc ks q L (.int (iZ (if x > y then 1 else if x = y then 0 else -1)) :: st)) : K G R M Fx Q ω kc ks pc L (.long (lZ y) :: .long (lZ x) :: st) := by
  intro p e s m args below meth c H locs ls h1 h2 h3 h4 h5 h6 h7 h8 h9 h10 h11
  subst hq
  refine W.lcmp h1 h2 hd ?_
  have e1 : lg_cmp (lZ x) (lZ y) = iZ (if x > y then 1 else if x = y then 0 else -1) := by
    unfold lg_cmp
    have a1 : (lZ x > lZ y) ↔ x > y := lZ_lt hy hx
    have a2 : (lZ x = lZ y) ↔ x = y := lZ_eq hx hy
    by_cases q1 : x > y
    · rw [if_pos (a1.mpr q1), if_pos q1]; rfl
    · rw [if_neg (fun h => q1 (a1.mp h)), if_neg q1]
      by_cases q2 : x = y
      · rw [if_pos (a2.mpr q2), if_pos q2]; rfl
      · rw [if_neg (fun h => q2 (a2.mp h)), if_neg q2]; rfl
  rw [e1]
  exact k p e s m args below meth c H locs ls h1 h2 h3 h4 h5 h6 h7 h8 h9 h10 h11
theorem k_dup {v : Value} (hd : decode M.2.1 pc = .ok (.dup, 1)) (hq : pc + 1 = q) (hv : v.category = 1) (k : K G R M Fx Q ω kc ks q L (v :: v :: st)) : K G R M Fx Q ω kc ks pc L (v :: st) := by
  intro p e s m args below meth c H locs ls h1 h2 h3 h4 h5 h6 h7 h8 h9 h10 h11
  subst hq
  exact lv_dup h1 h2 hd hv (k p e s m args below meth c H locs ls h1 h2 h3 h4 h5 h6 h7 h8 h9 h10 h11)
theorem k_dup_x1 {v w : Value} (hd : decode M.2.1 pc = .ok (.dup_x1, 1)) (hq : pc + 1 = q) (hv : v.category = 1) (hw : w.category = 1) (k : K G R M Fx Q ω kc ks q L (v :: w :: v :: st)) : K G R M Fx Q ω kc ks pc L (v :: w :: st) := by
  intro p e s m args below meth c H locs ls h1 h2 h3 h4 h5 h6 h7 h8 h9 h10 h11
  subst hq
  exact lv_dup_x1 h1 h2 hd hv hw (k p e s m args below meth c H locs ls h1 h2 h3 h4 h5 h6 h7 h8 h9 h10 h11)
theorem k_dup2 {v w : Value} (hd : decode M.2.1 pc = .ok (.dup2, 1)) (hq : pc + 1 = q) (hv : v.category = 1) (hw : w.category = 1) (k : K G R M Fx Q ω kc ks q L (v :: w :: v :: w :: st)) : K G R M Fx Q ω kc ks pc L (v :: w :: st) := by
  intro p e s m args below meth c H locs ls h1 h2 h3 h4 h5 h6 h7 h8 h9 h10 h11
  subst hq
  exact lv_dup2_11 h1 h2 hd hv hw (k p e s m args below meth c H locs ls h1 h2 h3 h4 h5 h6 h7 h8 h9 h10 h11)
theorem k_dup2L {v : Value} (hd : decode M.2.1 pc = .ok (.dup2, 1)) (hq : pc + 1 = q) (hv : v.category = 2) (k : K G R M Fx Q ω kc ks q L (v :: v :: st)) : K G R M Fx Q ω kc ks pc L (v :: st) := by
  intro p e s m args below meth c H locs ls h1 h2 h3 h4 h5 h6 h7 h8 h9 h10 h11
  subst hq
  exact lv_dup2_2 h1 h2 hd hv (k p e s m args below meth c H locs ls h1 h2 h3 h4 h5 h6 h7 h8 h9 h10 h11)
theorem k_pop {v : Value} (hd : decode M.2.1 pc = .ok (.pop, 1)) (hq : pc + 1 = q) (hv : v.category = 1) (k : K G R M Fx Q ω kc ks q L (st)) : K G R M Fx Q ω kc ks pc L (v :: st) := by
  intro p e s m args below meth c H locs ls h1 h2 h3 h4 h5 h6 h7 h8 h9 h10 h11
  subst hq
  exact lv_pop h1 h2 hd hv (k p e s m args below meth c H locs ls h1 h2 h3 h4 h5 h6 h7 h8 h9 h10 h11)
theorem k_icmp_eq {x y off : Int} {tgt : Nat} (hd : decode M.2.1 pc = .ok (.if_icmp .eq off, 3)) (hq : pc + 3 = q) (ht : (pc : Int) + off = (tgt : Int)) (kt : x = y → K G R M Fx Q ω kc ks tgt L st) (kf : ¬ (x = y) → K G R M Fx Q ω kc ks q L st) (hx : R32 x := by first | assumption | exact ⟨by omega, by omega⟩ | decide) (hy : R32 y := by first | assumption | exact ⟨by omega, by omega⟩ | decide) : K G R M Fx Q ω kc ks pc L (.int (iZ y) :: .int (iZ x) :: st) := by
  intro p e s m args below meth c H locs ls h1 h2 h3 h4 h5 h6 h7 h8 h9 h10 h11
  subst hq
  exact lv_icmp_eq h1 h2 hd ht (fun h => kt ((iZ_eq hx hy).mp h) p e s m args below meth c H locs ls h1 h2 h3 h4 h5 h6 h7 h8 h9 h10 h11) (fun h => kf (fun w => h ((iZ_eq hx hy).mpr w)) p e s m args below meth c H locs ls h1 h2 h3 h4 h5 h6 h7 h8 h9 h10 h11)
theorem k_icmp_ne {x y off : Int} {tgt : Nat} (hd : decode M.2.1 pc = .ok (.if_icmp .ne off, 3)) (hq : pc + 3 = q) (ht : (pc : Int) + off = (tgt : Int)) (kt : ¬ x = y → K G R M Fx Q ω kc ks tgt L st) (kf : x = y → K G R M Fx Q ω kc ks q L st) (hx : R32 x := by first | assumption | exact ⟨by omega, by omega⟩ | decide) (hy : R32 y := by first | assumption | exact ⟨by omega, by omega⟩ | decide) : K G R M Fx Q ω kc ks pc L (.int (iZ y) :: .int (iZ x) :: st) := by
  intro p e s m args below meth c H locs ls h1 h2 h3 h4 h5 h6 h7 h8 h9 h10 h11
  subst hq
  exact lv_icmp_ne h1 h2 hd ht (fun h => kt (fun w => h ((iZ_eq hx hy).mpr w)) p e s m args below meth c H locs ls h1 h2 h3 h4 h5 h6 h7 h8 h9 h10 h11) (fun h => kf ((iZ_eq hx hy).mp h) p e s m args below meth c H locs ls h1 h2 h3 h4 h5 h6 h7 h8 h9 h10 h11)
theorem k_icmp_lt {x y off : Int} {tgt : Nat} (hd : decode M.2.1 pc = .ok (.if_icmp .lt off, 3)) (hq : pc + 3 = q) (ht : (pc : Int) + off = (tgt : Int)) (kt : x < y → K G R M Fx Q ω kc ks tgt L st) (kf : ¬ (x < y) → K G R M Fx Q ω kc ks q L st) (hx : R32 x := by first | assumption | exact ⟨by omega, by omega⟩ | decide) (hy : R32 y := by first | assumption | exact ⟨by omega, by omega⟩ | decide) : K G R M Fx Q ω kc ks pc L (.int (iZ y) :: .int (iZ x) :: st) := by
  intro p e s m args below meth c H locs ls h1 h2 h3 h4 h5 h6 h7 h8 h9 h10 h11
  subst hq
  exact lv_icmp_lt h1 h2 hd ht (fun h => kt ((iZ_lt hx hy).mp h) p e s m args below meth c H locs ls h1 h2 h3 h4 h5 h6 h7 h8 h9 h10 h11) (fun h => kf (fun w => h ((iZ_lt hx hy).mpr w)) p e s m args below meth c H locs ls h1 h2 h3 h4 h5 h6 h7 h8 h9 h10 h11)
theorem k_icmp_ge {x y off : Int} {tgt : Nat} (hd : decode M.2.1 pc = .ok (.if_icmp .ge off, 3)) (hq : pc + 3 = q) (ht : (pc : Int) + off = (tgt : Int)) (kt : y ≤ x → K G R M Fx Q ω kc ks tgt L st) (kf : ¬ (y ≤ x) → K G R M Fx Q ω kc ks q L st) (hx : R32 x := by first | assumption | exact ⟨by omega, by omega⟩ | decide) (hy : R32 y := by first | assumption | exact ⟨by omega, by omega⟩ | decide) : K G R M Fx Q ω kc ks pc L (.int (iZ y) :: .int (iZ x) :: st) := by
  intro p e s m args below meth c H locs ls h1 h2 h3 h4 h5 h6 h7 h8 h9 h10 h11
  subst hq
  exact lv_icmp_ge h1 h2 hd ht (fun h => kt ((iZ_le hy hx).mp h) p e s m args below meth c H locs ls h1 h2 h3 h4 h5 h6 h7 h8 h9 h10 h11) (fun h => kf (fun w => h ((iZ_le hy hx).mpr w)) p e s m args below meth c H locs ls h1 h2 h3 h4 h5 h6 h7 h8 h9 h10 h11)
theorem k_icmp_gt {x y off : Int} {tgt : Nat} (hd : decode M.2.1 pc = .ok (.if_icmp .gt off, 3)) (hq : pc + 3 = q) (ht : (pc : Int) + off = (tgt : Int)) (kt : y < x → K G R M Fx Q ω kc ks tgt L st) (kf : ¬ (y < x) → K G R M Fx Q ω kc ks q L st) (hx : R32 x := by first | assumption | exact ⟨by omega, by omega⟩ | decide) (hy : R32 y := by first | assumption | exact ⟨by omega, by omega⟩ | decide) : K G R M Fx Q ω kc ks pc L (.int (iZ y) :: .int (iZ x) :: st) := by
  intro p e s m args below meth c H locs ls h1 h2 h3 h4 h5 h6 h7 h8 h9 h10 h11
  subst hq
  exact lv_icmp_gt h1 h2 hd ht (fun h => kt ((iZ_lt hy hx).mp h) p e s m args below meth c H locs ls h1 h2 h3 h4 h5 h6 h7 h8 h9 h10 h11) (fun h => kf (fun w => h ((iZ_lt hy hx).mpr w)) p e s m args below meth c H locs ls h1 h2 h3 h4 h5 h6 h7 h8 h9 h10 h11)
theorem k_icmp_le {x y off : Int} {tgt : Nat} (hd : decode M.2.1 pc = .ok (.if_icmp .le off, 3)) (hq : pc + 3 = q) (ht : (pc : Int) + off = (tgt : Int)) (kt : x ≤ y → K G R M Fx Q ω kc ks tgt L st) (kf : ¬ (x ≤ y) → K G R M Fx Q ω kc ks q L st) (hx : R32 x := by first | assumption | exact ⟨by omega, by omega⟩ | decide) (hy : R32 y := by first | assumption | exact ⟨by omega, by omega⟩ | decide) : K G R M Fx Q ω kc ks pc L (.int (iZ y) :: .int (iZ x) :: st) := by
  intro p e s m args below meth c H locs ls h1 h2 h3 h4 h5 h6 h7 h8 h9 h10 h11
  subst hq
  exact lv_icmp_le h1 h2 hd ht (fun h => kt ((iZ_le hx hy).mp h) p e s m args below meth c H locs ls h1 h2 h3 h4 h5 h6 h7 h8 h9 h10 h11) (fun h => kf (fun w => h ((iZ_le hx hy).mpr w)) p e s m args below meth c H locs ls h1 h2 h3 h4 h5 h6 h7 h8 h9 h10 h11)
theorem k_if_eq {x off : Int} {tgt : Nat} (hd : decode M.2.1 pc = .ok (.ifCond .eq off, 3)) (hq : pc + 3 = q) (ht : (pc : Int) + off = (tgt : Int)) (kt : x = 0 → K G R M Fx Q ω kc ks tgt L st) (kf : ¬ (x = 0) → K G R M Fx Q ω kc ks q L st) (hx : R32 x := by first | assumption | exact ⟨by omega, by omega⟩ | decide) : K G R M Fx Q ω kc ks pc L (.int (iZ x) :: st) := by
  intro p e s m args below meth c H locs ls h1 h2 h3 h4 h5 h6 h7 h8 h9 h10 h11
  subst hq
  exact lv_if_eq h1 h2 hd ht (fun h => kt ((iZ_eq hx R32_0).mp h) p e s m args below meth c H locs ls h1 h2 h3 h4 h5 h6 h7 h8 h9 h10 h11) (fun h => kf (fun w => h ((iZ_eq hx R32_0).mpr w)) p e s m args below meth c H locs ls h1 h2 h3 h4 h5 h6 h7 h8 h9 h10 h11)
theorem k_if_ne {x off : Int} {tgt : Nat} (hd : decode M.2.1 pc = .ok (.ifCond .ne off, 3)) (hq : pc + 3 = q) (ht : (pc : Int) + off = (tgt : Int)) (kt : ¬ x = 0 → K G R M Fx Q ω kc ks tgt L st) (kf : x = 0 → K G R M Fx Q ω kc ks q L st) (hx : R32 x := by first | assumption | exact ⟨by omega, by omega⟩ | decide) : K G R M Fx Q ω kc ks pc L (.int (iZ x) :: st) := by
  intro p e s m args below meth c H locs ls h1 h2 h3 h4 h5 h6 h7 h8 h9 h10 h11
  subst hq
  exact lv_if_ne h1 h2 hd ht (fun h => kt (fun w => h ((iZ_eq hx R32_0).mpr w)) p e s m args below meth c H locs ls h1 h2 h3 h4 h5 h6 h7 h8 h9 h10 h11) (fun h => kf ((iZ_eq hx R32_0).mp h) p e s m args below meth c H locs ls h1 h2 h3 h4 h5 h6 h7 h8 h9 h10 h11)
theorem k_if_lt {x off : Int} {tgt : Nat} (hd : decode M.2.1 pc = .ok (.ifCond .lt off, 3)) (hq : pc + 3 = q) (ht : (pc : Int) + off = (tgt : Int)) (kt : x < 0 → K G R M Fx Q ω kc ks tgt L st) (kf : ¬ (x < 0) → K G R M Fx Q ω kc ks q L st) (hx : R32 x := by first | assumption | exact ⟨by omega, by omega⟩ | decide) : K G R M Fx Q ω kc ks pc L (.int (iZ x) :: st) := by
  intro p e s m args below meth c H locs ls h1 h2 h3 h4 h5 h6 h7 h8 h9 h10 h11
  subst hq
  exact lv_if_lt h1 h2 hd ht (fun h => kt ((iZ_lt hx R32_0).mp h) p e s m args below meth c H locs ls h1 h2 h3 h4 h5 h6 h7 h8 h9 h10 h11) (fun h => kf (fun w => h ((iZ_lt hx R32_0).mpr w)) p e s m args below meth c H locs ls h1 h2 h3 h4 h5 h6 h7 h8 h9 h10 h11)
theorem k_if_ge {x off : Int} {tgt : Nat} (hd : decode M.2.1 pc = .ok (.ifCond .ge off, 3)) (hq : pc + 3 = q) (ht : (pc : Int) + off = (tgt : Int)) (kt : 0 ≤ x → K G R M Fx Q ω kc ks tgt L st) (kf : ¬ (0 ≤ x) → K G R M Fx Q ω kc ks q L st) (hx : R32 x := by first | assumption | exact ⟨by omega, by omega⟩ | decide) : K G R M Fx Q ω kc ks pc L (.int (iZ x) :: st) := by
  intro p e s m args below meth c H locs ls h1 h2 h3 h4 h5 h6 h7 h8 h9 h10 h11
  subst hq
  exact lv_if_ge h1 h2 hd ht (fun h => kt ((iZ_le R32_0 hx).mp h) p e s m args below meth c H locs ls h1 h2 h3 h4 h5 h6 h7 h8 h9 h10 h11) (fun h => kf (fun w => h ((iZ_le R32_0 hx).mpr w)) p e s m args below meth c H locs ls h1 h2 h3 h4 h5 h6 h7 h8 h9 h10 h11)
theorem k_if_gt {x off : Int} {tgt : Nat} (hd : decode M.2.1 pc = .ok (.ifCond .gt off, 3)) (hq : pc + 3 = q) (ht : (pc : Int) + off = (tgt : Int)) (kt : 0 < x → K G R M Fx Q ω kc ks tgt L st) (kf : ¬ (0 < x) → K G R M Fx Q ω kc ks q L st) (hx : R32 x := by first | assumption | exact ⟨by omega, by omega⟩ | decide) : K G R M Fx Q ω kc ks pc L (.int (iZ x) :: st) := by
  intro p e s m args below meth c H locs ls h1 h2 h3 h4 h5 h6 h7 h8 h9 h10 h11
  subst hq
  exact lv_if_gt h1 h2 hd ht (fun h => kt ((iZ_lt R32_0 hx).mp h) p e s m args below meth c H locs ls h1 h2 h3 h4 h5 h6 h7 h8 h9 h10 h11) (fun h => kf (fun w => h ((iZ_lt R32_0 hx).mpr w)) p e s m args below meth c H locs ls h1 h2 h3 h4 h5 h6 h7 h8 h9 h10 h11)
theorem k_if_le {x off : Int} {tgt : Nat} (hd : decode M.2.1 pc = .ok (.ifCond .le off, 3)) (hq : pc + 3 = q) (ht : (pc : Int) + off = (tgt : Int)) (kt : x ≤ 0 → K G R M Fx Q ω kc ks tgt L st) (kf : ¬ (x ≤ 0) → K G R M Fx Q ω kc ks q L st) (hx : R32 x := by first | assumption | exact ⟨by omega, by omega⟩ | decide) : K G R M Fx Q ω kc ks pc L (.int (iZ x) :: st) := by
  intro p e s m args below meth c H locs ls h1 h2 h3 h4 h5 h6 h7 h8 h9 h10 h11
  subst hq
  exact lv_if_le h1 h2 hd ht (fun h => kt ((iZ_le hx R32_0).mp h) p e s m args below meth c H locs ls h1 h2 h3 h4 h5 h6 h7 h8 h9 h10 h11) (fun h => kf (fun w => h ((iZ_le hx R32_0).mpr w)) p e s m args below meth c H locs ls h1 h2 h3 h4 h5 h6 h7 h8 h9 h10 h11)
theorem k_goto {off : Int} {tgt : Nat} (hd : decode M.2.1 pc = .ok (.goto off, 3)) (ht : (pc : Int) + off = (tgt : Int)) (k : K G R M Fx Q ω kc ks tgt L st) : K G R M Fx Q ω kc ks pc L st := by
  intro p e s m args below meth c H locs ls h1 h2 h3 h4 h5 h6 h7 h8 h9 h10 h11
  exact lv_goto h1 h2 hd ht (k p e s m args below meth c H locs ls h1 h2 h3 h4 h5 h6 h7 h8 h9 h10 h11)
theorem k_tabIn {x dflt lo hi off : Int} {offs : Array Int} {len tgt : Nat} (hd : decode M.2.1 pc = .ok (.tableswitch dflt lo hi offs, len)) (hx : R32 x) (ha : lo ≤ x) (hb : x ≤ hi) (ho : offs[(x - lo).toNat]? = some off) (ht : (pc : Int) + off = (tgt : Int)) (k : K G R M Fx Q ω kc ks tgt L st) : K G R M Fx Q ω kc ks pc L (.int (iZ x) :: st) := by
  intro p e s m args below meth c H locs ls h1 h2 h3 h4 h5 h6 h7 h8 h9 h10 h11
  exact lv_tableIn h1 h2 hd (by rw [iZ_toInt hx]; omega) (by rw [iZ_toInt hx]; omega) (by rw [iZ_toInt hx]; exact ho) ht (k p e s m args below meth c H locs ls h1 h2 h3 h4 h5 h6 h7 h8 h9 h10 h11)
theorem k_tabOut {x dflt lo hi : Int} {offs : Array Int} {len tgt : Nat} (hd : decode M.2.1 pc = .ok (.tableswitch dflt lo hi offs, len)) (hx : R32 x) (ha : x < lo ∨ hi < x) (ht : (pc : Int) + dflt = (tgt : Int)) (k : K G R M Fx Q ω kc ks tgt L st) : K G R M Fx Q ω kc ks pc L (.int (iZ x) :: st) := by
  intro p e s m args below meth c H locs ls h1 h2 h3 h4 h5 h6 h7 h8 h9 h10 h11
  exact lv_tableOut h1 h2 hd (by rw [iZ_toInt hx]; exact ha) ht (k p e s m args below meth c H locs ls h1 h2 h3 h4 h5 h6 h7 h8 h9 h10 h11)
theorem k_look {x dflt off : Int} {ps : Array (Int × Int)} {len tgt : Nat} (hd : decode M.2.1 pc = .ok (.lookupswitch dflt ps, len)) (hp : (ps.toList.zip (ps.toList.drop 1)).all (fun (a, next) => a.1 < next.1) = true) (hx : R32 x) (ho : Op.lookupswitch.offset ps.toList dflt x = off) (ht : (pc : Int) + off = (tgt : Int)) (k : K G R M Fx Q ω kc ks tgt L st) : K G R M Fx Q ω kc ks pc L (.int (iZ x) :: st) := by
  intro p e s m args below meth c H locs ls h1 h2 h3 h4 h5 h6 h7 h8 h9 h10 h11
  exact lv_lookup h1 h2 hd hp (by rw [iZ_toInt hx]; exact ho) ht (k p e s m args below meth c H locs ls h1 h2 h3 h4 h5 h6 h7 h8 h9 h10 h11)
theorem k_ldcS {i idx : Nat} {tx : String} (hd : decode M.2.1 pc = .ok (.ldc idx, 2)) (hq : pc + 2 = q) (hi : strT[i]? = some (M.1.cls, idx, tx)) (k : K G R M Fx Q ω kc ks q L (.ref (gSA G i) :: st)) : K G R M Fx Q ω kc ks pc L st := by
  intro p e s m args below meth c H locs ls h1 h2 h3 h4 h5 h6 h7 h8 h9 h10 h11
  subst hq
  exact va_ldcS h1 h2 h6 (h8.2.2.1 i _ hi) hd (k p e s m args below meth c H locs ls h1 h2 h3 h4 h5 h6 h7 h8 h9 h10 h11)
theorem k_sgetV {i idx : Nat} (hi : i < 5) (hd : decode M.2.1 pc = .ok (.getfield idx, 3)) (hq : pc + 3 = q) (hl : Cond.fieldLink M.1.cls idx "java/lang/String" "value" "[B" ∈ lw_good) (k : K G R M Fx Q ω kc ks q L (.ref (gSV G i) :: st)) : K G R M Fx Q ω kc ks pc L (.ref (gSA G i) :: st) := by
  intro p e s m args below meth c H locs ls h1 h2 h3 h4 h5 h6 h7 h8 h9 h10 h11
  subst hq
  exact vk_getf h1 h2 (h8.2.1.1 i hi).2.2.1 h10 h6 (h7 _ hl) (fun _ h => h) hd (k p e s m args below meth c H locs ls h1 h2 h3 h4 h5 h6 h7 h8 h9 h10 h11)
theorem k_sgetC {i idx : Nat} (hi : i < 5) (hd : decode M.2.1 pc = .ok (.getfield idx, 3)) (hq : pc + 3 = q) (hl : Cond.fieldLink M.1.cls idx "java/lang/String" "coder" "B" ∈ lw_good) (k : K G R M Fx Q ω kc ks q L (.int (iZ 0) :: st)) : K G R M Fx Q ω kc ks pc L (.ref (gSA G i) :: st) := by
  intro p e s m args below meth c H locs ls h1 h2 h3 h4 h5 h6 h7 h8 h9 h10 h11
  subst hq
  exact vk_getf h1 h2 (h8.2.1.1 i hi).2.1 h10 h6 (h7 _ hl) (fun _ h => h) hd (k p e s m args below meth c H locs ls h1 h2 h3 h4 h5 h6 h7 h8 h9 h10 h11)
theorem k_slen {i : Nat} {nz : Int} (hi : i < 5) (hn : Int32.ofNat (strL.getD i 0) = iZ nz) (hd : decode M.2.1 pc = .ok (.arraylength, 1)) (hq : pc + 1 = q) (k : K G R M Fx Q ω kc ks q L (.int (iZ nz) :: st)) : K G R M Fx Q ω kc ks pc L (.ref (gSV G i) :: st) := by
  intro p e s m args below meth c H locs ls h1 h2 h3 h4 h5 h6 h7 h8 h9 h10 h11
  subst hq
  exact va_tlen h1 h2 (h8.2.1.1 i hi).2.2.2 h10 hn hd (k p e s m args below meth c H locs ls h1 h2 h3 h4 h5 h6 h7 h8 h9 h10 h11)
theorem k_sbald {i : Nat} {z v : Int} (hi : i < 5) (h0 : 0 ≤ z) (hz : z < strL.getD i 0) (hs : strL.getD i 0 < 2147483648) (hv : (strB.getD i []).getD z.toNat 0 = iZ v) (hd : decode M.2.1 pc = .ok (.baload, 1)) (hq : pc + 1 = q) (k : K G R M Fx Q ω kc ks q L (.int (iZ v) :: st)) : K G R M Fx Q ω kc ks pc L (.int (iZ z) :: .ref (gSV G i) :: st) := by
  intro p e s m args below meth c H locs ls h1 h2 h3 h4 h5 h6 h7 h8 h9 h10 h11
  subst hq
  exact va_tb h1 h2 (h8.2.1.1 i hi).2.2.2 h10 (iZ_in h0 hz hs) (by rw [iZ_ix h0 (by omega), hv]) hd (k p e s m args below meth c H locs ls h1 h2 h3 h4 h5 h6 h7 h8 h9 h10 h11)
theorem k_gets1 {idx : Nat} (hd : decode M.2.1 pc = .ok (.getstatic idx, 3)) (hq : pc + 3 = q) (hl : Cond.fieldLink M.1.cls idx "java/lang/String" "COMPACT_STRINGS" "Z" ∈ lw_good) (k : K G R M Fx Q ω kc ks q L (.int (iZ 1) :: st)) : K G R M Fx Q ω kc ks pc L st := by
  intro p e s m args below meth c H locs ls h1 h2 h3 h4 h5 h6 h7 h8 h9 h10 h11
  subst hq
  exact va_gets h1 h2 h8.2.2.2.1 h10 h6 (h7 _ hl) (fun _ h => h) hd (k p e s m args below meth c H locs ls h1 h2 h3 h4 h5 h6 h7 h8 h9 h10 h11)
theorem k_getsQ {idx : Nat} (hd : decode M.2.1 pc = .ok (.getstatic idx, 3)) (hq : pc + 3 = q) (hl : Cond.fieldLink M.1.cls idx "jdk/internal/util/Preconditions" "SIOOBE_FORMATTER" "Ljava/util/function/BiFunction;" ∈ lw_good) (k : ∀ v : Value, (v = .null ∨ ∃ a, v = .ref a) → K G R M Fx Q ω kc ks q L (v :: st)) : K G R M Fx Q ω kc ks pc L st := by
  intro p e s m args below meth c H locs ls h1 h2 h3 h4 h5 h6 h7 h8 h9 h10 h11
  subst hq
  rcases h8.2.2.2.2 with hz | ⟨t, hz⟩
  · exact va_gets h1 h2 hz h10 h6 (h7 _ hl) (fun _ h => h) hd (k .null (Or.inl rfl) p e s m args below meth c H locs ls h1 h2 h3 h4 h5 h6 h7 h8 h9 h10 h11)
  · exact va_gets h1 h2 hz h10 h6 (h7 _ hl) (fun _ h => h) hd (k (.ref t) (Or.inr ⟨t, rfl⟩) p e s m args below meth c H locs ls h1 h2 h3 h4 h5 h6 h7 h8 h9 h10 h11)
/-- fields and rows of a world that grows -/
theorem k_get {idx ci j k0 n z : Nat} {E : Nat → va_E} {fs : List Value} {v : Value} (hd : decode M.2.1 pc = .ok (.getfield idx, 3)) (hq : pc + 3 = q) (hf : FG M.1.cls idx ci j) (hn : k0 < n) (he : E k0 = .inr (ci, fs)) (hv : fs[j]? = some v) (k : K G R M Fx Q (n, E, z) kc ks q L (v :: st)) : K G R M Fx Q (n, E, z) kc ks pc L (.ref (G.2.2.2 + k0) :: st) := by
  intro p e s m args below meth c H locs ls h1 h2 h3 h4 h5 h6 h7 h8 h9 h10 h11
  subst hq
  obtain ⟨C, T, N, hc, hjN, hin, hlink⟩ := hf
  have hgt : (nW G n E)[k0]? = some (G.2.2.2 + k0, .inr (ci, fs)) := by rw [nW_get hn, he]
  exact va_get h1 h2 h7 hin h6 h8.1 h9.1 k0 hgt hc j hjN (h7 _ hlink) (fun _ h => h) hv hd (k p e s m args below meth c H locs ls h1 h2 h3 h4 h5 h6 h7 h8 h9 h10 h11)
theorem k_putG {idx ci j k0 n z : Nat} {E : Nat → va_E} {fs : List Value} {v : Value} {ty : FieldType} {b : Bool} (hi : M.1.name = "<init>" ∨ b = false) (hd : decode M.2.1 pc = .ok (.putfield idx, 3)) (hq : pc + 3 = q) (hf : FX M.1.cls idx ci j ty b) (hn : k0 < n) (he : E k0 = .inr (ci, fs)) (hl : j < fs.length) (hnr : narrow ty v = v) (hft : fits ty v = true) (k : K G R M Fx Q (n, upE E k0 (.inr (ci, fs.set j v)), z) kc ks q L st) : K G R M Fx Q (n, E, z) kc ks pc L (v :: .ref (G.2.2.2 + k0) :: st) := by
  intro p e s m args below meth c H locs ls h1 h2 h3 h4 h5 h6 h7 h8 h9 h10 h11
  subst hq
  obtain ⟨C, T, N, ty0, hc, hjN, hin, hlink, hty, hnm, hfin, hpd, hdecl⟩ := hf
  obtain ⟨hP, hz⟩ := h9
  have hgt : (nW G n E)[k0]? = some (G.2.2.2 + k0, .inr (ci, fs)) := by rw [nW_get hn, he]
  have hap := va_apart (own := M.1.cls) h7 hin ty0 hty hnm h8.1 hc
  obtain ⟨r, g1, cell, q1, q2, q3, q4⟩ := hP k0 _ hgt
  cases Option.some.inj (g1.symm.trans hc)
  obtain ⟨hS, hfc, kC, hkC, hkind⟩ := h8.1.1 ci _ hc
  obtain ⟨cf, kf, fi, f, hfi, hsl⟩ := hS j hjN
  have hlay := h7 _ (hin _ (u_in_lay hjN))
  have hst := (u_facts hfc hkC (u_lays h7 hin hjN) hfi).1
  have fin : ∀ (H1 : Heap) (e1 : H1[G.2.2.2 + k0]? = some (cell.setSlot f.slot v)) (e2 : H1.size = H.size) (e3 : ∀ x, x ≠ G.2.2.2 + k0 → H1[x]? = H[x]?), W p G.1 e R s m args below meth c H1 (locs ++ [⟨G.2.2.2 + k0, f.slot⟩]) kc ks (Q below args s) (F0 m (pc + 3) ls st) := by
    intro H1 e1 e2 e3
    rw [hsl] at e1 ⊢
    have hp1 := hP.set (nD G n E) hgt (e := .inr (ci, fs.set j v)) ⟨_, hc, t_OB.to (V := updV (vp_V fs) j v) ⟨_, e1, q2, q3, t_set q4 hap hjN v⟩ (fun x _ => vp_updV_set hl v x)⟩ e3
    rw [nW_set hn] at hp1
    exact k p e s m args below meth c H1 _ ls h1 h2 h3 h4 h5 h6 h7 h8 ⟨hp1, by rw [e2]; exact hz⟩ (h10.put e2 e3 ((nD G n E).2 k0 _ hgt)) h11
  unfold u_lay at hlay
  cases b with
  | false =>
    rw [if_neg (by rw [hfin]; decide)] at hlay
    have h6s := u_store hfc hkC hkind hlay hfi hpd hnr hft
    exact W.putK h1 h2 (f := f) ⟨h6, h7 _ hlink, ⟨_, _, _, hfi⟩, hst⟩ (by rw [q2]; exact h6s) q1 q3 (by rw [hsl]; exact k2_hasslot (q4 j hjN)) rfl rfl hd fin
  | true =>
    rw [if_pos hfin] at hlay
    have hcf : m.cls = cf := by
      obtain ⟨_, _, c', _, _, _, -, -, hf', -, -, -, hown2, -⟩ := Cond.laysFinal_spec hlay
      have e1 : c' = cf := by have := hfi.symm.trans hf'; simp at this; exact this.1.symm
      rw [hdecl] at hown2
      rw [← e1]; exact Option.some.inj (h6.symm.trans hown2)
    have h6s := u_fits hfc hkC hkind (Or.inr hlay) hfi hpd hnr hft
    exact W.putFinK h1 h2 h6 (h7 _ hlink) hfi hst hcf (h5.2.1.trans (hi.resolve_right (by decide))) (by rw [q2]; exact h6s) q1 q3 (by rw [hsl]; exact k2_hasslot (q4 j hjN)) rfl rfl hd fin
theorem k_iast {x : Int} {k0 n0 n z : Nat} {E : Nat → va_E} {f : Nat → Int32} {i : Int} (hd : decode M.2.1 pc = .ok (.iastore, 1)) (hq : pc + 1 = q) (hn : k0 < n) (he : E k0 = .inl (G.2.2.1 0, n0, .inl f)) (h0 : 0 ≤ i) (hi : i < n0) (hb : n0 < 2147483648) (k : K G R M Fx Q (n, upE E k0 (.inl (G.2.2.1 0, n0, .inl (upd f i.toNat (iZ x)))), z) kc ks q L st) : K G R M Fx Q (n, E, z) kc ks pc L (.int (iZ x) :: .int (iZ i) :: .ref (G.2.2.2 + k0) :: st) := by
  intro p e s m args below meth c H locs ls h1 h2 h3 h4 h5 h6 h7 h8 h9 h10 h11
  subst hq
  obtain ⟨hP, hz⟩ := h9
  have e0 : (iZ i).toNatClampNeg = i.toNat := iZ_ix h0 (by omega)
  have hgt : (nW G n E)[k0]? = some (G.2.2.2 + k0, .inl (G.2.2.1 0, n0, .inl f)) := by rw [nW_get hn, he]
  refine W.iast h1 h2 (hP k0 _ hgt) ((h8.1.2 0 _ rfl).1 n0 (fun j => .int (f j))) (fun q => by cases q) (by show ¬ (iZ i < 0 ∨ (arrV _ _ _).slots.size ≤ _); rw [arrV_size]; exact iZ_in h0 hi hb) rfl rfl hd fun H1 e1 z1 oq => ?_
  have hp1 := hP.set (nD G n E) hgt (e := .inl (G.2.2.1 0, n0, .inl (upd f i.toNat (iZ x)))) (H1 := H1) (by
    show H1[G.2.2.2 + k0]? = some (vp_cell _ _)
    rw [e1]
    rw [vp_cell_i, vp_cell_i, arrV_store]
    congr 2
    funext y
    rw [e0]
    by_cases hy : y = i.toNat
    · subst hy
      simp [updV, upd]
    · simp [updV, upd, hy]) oq
  rw [nW_set hn] at hp1
  exact k p e s m args below meth c H1 _ ls h1 h2 h3 h4 h5 h6 h7 h8 ⟨hp1, by rw [z1]; exact hz⟩ (h10.put z1 oq ((nD G n E).2 k0 _ hgt)) h11
theorem k_last {x : Int} {k0 n0 n z : Nat} {E : Nat → va_E} {f : Nat → Int64} {i : Int} (hd : decode M.2.1 pc = .ok (.lastore, 1)) (hq : pc + 1 = q) (hn : k0 < n) (he : E k0 = .inl (G.2.2.1 1, n0, .inr (.inl f))) (h0 : 0 ≤ i) (hi : i < n0) (hb : n0 < 2147483648) (k : K G R M Fx Q (n, upE E k0 (.inl (G.2.2.1 1, n0, .inr (.inl (vp_updL f i.toNat (lZ x))))), z) kc ks q L st) : K G R M Fx Q (n, E, z) kc ks pc L (.long (lZ x) :: .int (iZ i) :: .ref (G.2.2.2 + k0) :: st) := by
  intro p e s m args below meth c H locs ls h1 h2 h3 h4 h5 h6 h7 h8 h9 h10 h11
  subst hq
  obtain ⟨hP, hz⟩ := h9
  have e0 : (iZ i).toNatClampNeg = i.toNat := iZ_ix h0 (by omega)
  have hgt : (nW G n E)[k0]? = some (G.2.2.2 + k0, .inl (G.2.2.1 1, n0, .inr (.inl f))) := by rw [nW_get hn, he]
  refine W.last h1 h2 (hP k0 _ hgt) ((h8.1.2 1 _ rfl).1 n0 (fun j => .long (f j))) (fun q => by cases q) (by show ¬ (iZ i < 0 ∨ (arrV _ _ _).slots.size ≤ _); rw [arrV_size]; exact iZ_in h0 hi hb) rfl rfl hd fun H1 e1 z1 oq => ?_
  have hp1 := hP.set (nD G n E) hgt (e := .inl (G.2.2.1 1, n0, .inr (.inl (vp_updL f i.toNat (lZ x))))) (H1 := H1) (by
    show H1[G.2.2.2 + k0]? = some (vp_cell _ _)
    rw [e1]
    rw [vp_cell_l, vp_cell_l, arrV_store]
    congr 2
    funext y
    rw [e0]
    by_cases hy : y = i.toNat
    · subst hy
      simp [updV, vp_updL]
    · simp [updV, vp_updL, hy]) oq
  rw [nW_set hn] at hp1
  exact k p e s m args below meth c H1 _ ls h1 h2 h3 h4 h5 h6 h7 h8 ⟨hp1, by rw [z1]; exact hz⟩ (h10.put z1 oq ((nD G n E).2 k0 _ hgt)) h11
theorem k_lald {k0 n0 n z : Nat} {E : Nat → va_E} {f : Nat → Int64} {i : Int} (hd : decode M.2.1 pc = .ok (.laload, 1)) (hq : pc + 1 = q) (hn : k0 < n) (he : E k0 = .inl (G.2.2.1 1, n0, .inr (.inl f))) (h0 : 0 ≤ i) (hi : i < n0) (hb : n0 < 2147483648) (k : K G R M Fx Q (n, E, z) kc ks q L (.long (f i.toNat) :: st)) : K G R M Fx Q (n, E, z) kc ks pc L (.int (iZ i) :: .ref (G.2.2.2 + k0) :: st) := by
  intro p e s m args below meth c H locs ls h1 h2 h3 h4 h5 h6 h7 h8 h9 h10 h11
  subst hq
  have e0 : (iZ i).toNatClampNeg = i.toNat := iZ_ix h0 (by omega)
  have hgt : (nW G n E)[k0]? = some (G.2.2.2 + k0, .inl (G.2.2.1 1, n0, .inr (.inl f))) := by rw [nW_get hn, he]
  refine va_lald (f := f) h1 h2 h8.1 h9.1 k0 1 hgt rfl (iZ_in h0 hi hb) hd ?_
  rw [e0]
  exact k p e s m args below meth c H locs ls h1 h2 h3 h4 h5 h6 h7 h8 h9 h10 h11
theorem k_iald {k0 n0 n z : Nat} {E : Nat → va_E} {f : Nat → Int32} {i : Int} (hd : decode M.2.1 pc = .ok (.iaload, 1)) (hq : pc + 1 = q) (hn : k0 < n) (he : E k0 = .inl (G.2.2.1 0, n0, .inl f)) (h0 : 0 ≤ i) (hi : i < n0) (hb : n0 < 2147483648) (k : K G R M Fx Q (n, E, z) kc ks q L (.int (f i.toNat) :: st)) : K G R M Fx Q (n, E, z) kc ks pc L (.int (iZ i) :: .ref (G.2.2.2 + k0) :: st) := by
  intro p e s m args below meth c H locs ls h1 h2 h3 h4 h5 h6 h7 h8 h9 h10 h11
  subst hq
  have e0 : (iZ i).toNatClampNeg = i.toNat := iZ_ix h0 (by omega)
  have hgt : (nW G n E)[k0]? = some (G.2.2.2 + k0, .inl (G.2.2.1 0, n0, .inl f)) := by rw [nW_get hn, he]
  refine va_iald (f := f) h1 h2 h8.1 h9.1 k0 0 hgt rfl (iZ_in h0 hi hb) hd ?_
  rw [e0]
  exact k p e s m args below meth c H locs ls h1 h2 h3 h4 h5 h6 h7 h8 h9 h10 h11
def atC (t : Nat) : ArrayType := match t with
  | 0 => .int
  | 1 => .long
  | 2 => .byte
  | _ => .boolean
def dA (t : Nat) : (Nat → Int32) ⊕ (Nat → Int64) ⊕ (Nat → UInt32) ⊕ (Nat → UInt64) ⊕ (Nat → Option Nat) := match t with
  | 1 => .inr (.inl (fun _ => lZ 0))
  | _ => .inl (fun _ => iZ 0)
theorem k_newa {t N n : Nat} {nz : Int} {E : Nat → va_E} (hd : decode M.2.1 pc = .ok (.newarray (atC t), 2)) (hq : pc + 2 = q) (ht : t < 4) (hz : ((N : Nat) : Int) = nz) (hN : N ≤ 4000) (hc : kc + 1 ≤ R.cells) (hs : ks + N ≤ R.slots) (k : K G R M Fx Q (n + 1, upE E n (.inl (G.2.2.1 t, N, dA t)), 0) (kc + 1) (ks + N) q L (.ref (G.2.2.2 + n) :: st)) : K G R M Fx Q (n, E, 0) kc ks pc L (.int (iZ nz) :: st) := by
  intro p e s m args below meth c H locs ls h1 h2 h3 h4 h5 h6 h7 h8 h9 h10 h11
  subst hq hz
  obtain ⟨hP, hsz⟩ := h9
  have hsz : H.size = G.2.2.2 + n := hsz
  have e0 : (iZ (N : Int)).toNatClampNeg = N := by rw [iZ_ix (by omega) (by omega)]; omega
  have e1 : ¬ iZ (N : Int) < 0 := by rw [← iZ_0, iZ_lt ⟨by omega, by omega⟩ R32_0]; omega
  have key : (Cond.arrayClass (newarray.typeOf (atC t))).before args s = true ∧ N * componentBytes (newarray.typeOf (atC t)) ≤ 536870912 ∧ (∀ cA, s.vm.findClass ("[" ++ (newarray.typeOf (atC t)).toString) = some cA → cA = G.2.2.1 t) ∧ (∀ cA : ClassId, vp_cell cA (N, dA t) = arrV cA N (fun _ => defaultValue (newarray.typeOf (atC t)))) := by
    match t, ht with
    | 0, _ => exact ⟨h7 _ ac_int, by show N * 4 ≤ _; omega, fun cA h => Option.some.inj (h.symm.trans (h8.1.2 0 _ rfl).2), fun _ => rfl⟩
    | 1, _ => exact ⟨h7 _ ac_long, by show N * 8 ≤ _; omega, fun cA h => Option.some.inj (h.symm.trans (h8.1.2 1 _ rfl).2), fun _ => rfl⟩
    | 2, _ => exact ⟨h7 _ ac_byte, by show N * 1 ≤ _; omega, fun cA h => Option.some.inj (h.symm.trans (h8.1.2 2 _ rfl).2), fun _ => rfl⟩
    | 3, _ => exact ⟨h7 _ ac_boolean, by show N * 1 ≤ _; omega, fun cA h => Option.some.inj (h.symm.trans (h8.1.2 3 _ rfl).2), fun _ => rfl⟩
    | _ + 4, h => exact absurd h (by omega)
  refine va_newaK h1 h2 key.1 rfl hd rfl e1 e0 key.2.1 hc hs hsz fun H1 cA g1 g2 g3 g4 g5 => ?_
  cases key.2.2.1 cA g5
  have hp1 : va_P G.2.1 vwCl (nW G n E ++ [(G.2.2.2 + n, .inl (G.2.2.1 t, N, dA t))]) H1 := (hP.kept (fun k x hx => g3 x.1 (by have := (hP k x hx).lt; omega))).app (fun k x hx => by
    have hz : k < 1 := (List.getElem?_eq_some_iff.mp hx).1
    rw [show k = 0 by omega] at hx
    cases hx
    show H1[G.2.2.2 + n]? = some (vp_cell _ _)
    rw [key.2.2.2]
    exact g1)
  rw [nW_push] at hp1
  exact k p e s m args below meth c H1 locs ls h1 h2 h3 h4 h5 h6 h7 h8 ⟨hp1, by show H1.size = G.2.2.2 + (n + 1) + 0; omega⟩ ⟨by have := h10.1; omega, fun x y1 y2 => (g3 x (by have := h10.1; omega)).trans (h10.2.1 x y1 y2), h10.2.2⟩ h11
/-- a class's object with nothing in it -/
def FN (own : String) (idx ci : Nat) (N : Nat) (fs : List Value) : Prop := ∃ (C : String) (T : u_T) (ty0 : Nat → FieldType), vwCl[ci]? = some (C, T, N) ∧ (∀ w ∈ u_ws C T N, w ∈ lw_good) ∧ (∀ k, k < N → parseFieldDescriptor (T k).2.2.1 = some (ty0 k)) ∧ Cond.classLink own idx C ∈ lw_good ∧ Cond.instantiable C N ∈ lw_good ∧ Cond.initialized C ∈ lw_good ∧ ∀ j, j < N → defaultValue (ty0 j) = vp_V fs j
theorem k_new {idx ci N n : Nat} {fs : List Value} {E : Nat → va_E} (hd : decode M.2.1 pc = .ok (.new idx, 3)) (hq : pc + 3 = q) (hf : FN M.1.cls idx ci N fs) (hc : kc + 1 ≤ R.cells) (hs : ks + N ≤ R.slots) (k : K G R M Fx Q (n + 1, upE E n (.inr (ci, fs)), 0) (kc + 1) (ks + N) q L (.ref (G.2.2.2 + n) :: st)) : K G R M Fx Q (n, E, 0) kc ks pc L st := by
  intro p e s m args below meth c H locs ls h1 h2 h3 h4 h5 h6 h7 h8 h9 h10 h11
  subst hq
  obtain ⟨hP, hsz⟩ := h9
  have hsz : H.size = G.2.2.2 + n := hsz
  obtain ⟨C, T, ty0, hci, hin, hty, hcl, hins, hini, hfs⟩ := hf
  have hKn := h8.1.1 ci _ hci
  refine W.newcK h1 h2 h6 (h7 _ hcl) (h7 _ hins) (h7 _ hini) rfl hd hc hs hKn.2.1 hsz fun H1 kC hkC g1 g2 g3 => ?_
  have hp1 : va_P G.2.1 vwCl (nW G n E ++ [(G.2.2.2 + n, .inr (ci, fs))]) H1 := (hP.kept (fun k x hx => g3 x.1 (by have := (hP k x hx).lt; omega))).app (fun k x hx => by
    have hz : k < 1 := (List.getElem?_eq_some_iff.mp hx).1
    rw [show k = 0 by omega] at hx
    cases hx
    exact ⟨_, hci, (u_born ty0 h7 hin hKn hkC g1 hty).to hfs⟩)
  rw [nW_push] at hp1
  exact k p e s m args below meth c H1 locs ls h1 h2 h3 h4 h5 h6 h7 h8 ⟨hp1, by show H1.size = G.2.2.2 + (n + 1) + 0; omega⟩ ⟨by have := h10.1; omega, fun x y1 y2 => (g3 x (by have := h10.1; omega)).trans (h10.2.1 x y1 y2), h10.2.2⟩ h11
theorem k_objInit {idx a : Nat} (hd : decode M.2.1 pc = .ok (.invokespecial idx, 3)) (hq : pc + 3 = q) (hl : Cond.methodLink M.1.cls idx Lib.objectInit ∈ lw_good) (hr : (st.map fun v => v.category).sum ≤ 8) (hf : 1 ≤ R.frames) (hlo : 64 ≤ R.locals) (k : K G R M Fx Q ω kc ks q L st) : K G R M Fx Q ω kc ks pc L (.ref a :: st) := by
  intro p e s m args below meth c H locs ls h1 h2 h3 h4 h5 h6 h7 h8 h9 h10 h11
  subst hq
  refine W.objInit h1 h2 h6 (h7 _ hl) (h7 _ oi_inst) (h7 _ oi_code) rfl (h11.1.trans h3.symm) rfl hd hf ?_ ?_
  · have := lv_room (m := m) (pc := pc) (ls := ls) (st := st) (rest := .ref a :: st) hr
    omega
  · exact k p e s m args below meth c H locs ls h1 h2 h3 h4 h5 h6 h7 h8 h9 h10 h11
theorem k_entry {d mc ms : Nat} {Post : Option Value → Wn → Prop} {n : Nat} {vs : List Value} (ok : OkM M n) (hlen : (lg_sl vs).length ≤ M.2.2.1) (hL : (lg_sl vs ++ List.replicate (M.2.2.1 - (lg_sl vs).length) Slot.unset).map sv = L) (k : K G (nR d mc ms) M kT (kQ G Post mc ms) ω 0 0 0 L []) : CKn G d mc ms M vs ω Post := by
  refine Met.ofW (cc := M.2.1) (maxL := M.2.2.1) (ret := M.2.2.2) ok.2.2.2.2.2.2 rfl ?_
  intro p e s m args below meth c s₁ B hml hv
  obtain ⟨rfl, hP, hK⟩ := hv
  have hts := atoms_spec (ws := .code M.1 M.2.1 M.2.2.1 M.2.2.2 :: lw_good) B.pre
  have hown : s.vm.findClass M.1.cls = some m.cls := findClass_of_methodNamed B.named
  have hnm : meth.name = M.1.name := (name_of_methodNamed B.named B.method).1
  rw [lg_entry_eq]
  exact k p e s m _ below meth c s.heap [] _ B.exec B.bytes hml B.returns ⟨B.notSynchronized, hnm, trivial⟩ hown (fun w hw => hts w (List.mem_cons_of_mem _ hw)) hK hP va_S.rf (hasL_entry vs hlen hL)
theorem k_vret {mc ms : Nat} {Post : Option Value → Wn → Prop} (hd : decode M.2.1 pc = .ok (.return_, 1)) (hM : M.2.2.2 = none) (hc : kc ≤ mc) (hs : ks ≤ ms) (hp : Post none ω) : K G R M Fx (kQ G Post mc ms) ω kc ks pc L [] := by
  intro p e s m args below meth c H locs ls h1 h2 h3 h4 h5 h6 h7 h8 h9 h10 h11
  exact W.widen (k := mc) (n := ms) hc hs (W.vret h1 h2 (h4.trans hM) (fun t ht hW => ⟨⟨none, ω, rfl, hp, by rw [ht]; exact h9⟩, h10.F ht⟩) h10.2.2 hd h5.1)
theorem k_nret {mc ms : Nat} {Post : Option Value → Wn → Prop} {z : Int} {ty : FieldType} (hd : decode M.2.1 pc = .ok (.ireturn, 1)) (hM : M.2.2.2 = some ty) (hn : narrow ty (.int (iZ z)) = .int (iZ z)) (hc : kc ≤ mc) (hs : ks ≤ ms) (hp : Post (some (.int (iZ z))) ω) : K G R M Fx (kQ G Post mc ms) ω kc ks pc L [.int (iZ z)] := by
  intro p e s m args below meth c H locs ls h1 h2 h3 h4 h5 h6 h7 h8 h9 h10 h11
  exact W.widen (k := mc) (n := ms) hc hs (W.zret h1 h2 (h4.trans hM) hn (fun t ht hW => ⟨⟨some (.int (iZ z)), ω, rfl, hp, by rw [ht]; exact h9⟩, h10.F ht⟩) h10.2.2 hd h5.1)
/-- a maker, or a static method, of a world that grows is called -/
theorem k_callI {M' : Mt} {n idx d' mc' ms' b : Nat} {vs rest : List Value} {Po : Option Value → Wn → Prop} (ok : OkM M' n) (hi : M'.1.name = "<init>") (hM : M'.2.2.2 = none) (hin : Cond.instanceMethod M'.1 ∈ lw_good) (hl : Cond.methodLink M.1.cls idx M'.1 ∈ lw_good) (hd : decode M.2.1 pc = .ok (.invokespecial idx, 3)) (hq : pc + 3 = q) (hn : vs.length = n) (hst : st = vs.reverse ++ .ref b :: rest) (hr : (rest.map fun v => v.category).sum ≤ 8) (hdd : d' + 1 ≤ R.frames) (hlo : 64 * d' + 64 ≤ R.locals) (hc : kc + mc' ≤ R.cells) (hs : ks + ms' ≤ R.slots)
    (con : CKn G d' mc' ms' M' (.ref b :: vs) ω Po) (k : ∀ (r : Option Value) (ω' : Wn), Po r ω' → K G R M Fx Q ω' (kc + mc') (ks + ms') q L (r.toList ++ rest)) : K G R M Fx Q ω kc ks pc L st := by
  intro p e s m args below meth c H locs ls h1 h2 h3 h4 h5 h6 h7 h8 h9 h10 h11
  subst hq
  obtain ⟨hini, hcode, hy1, hy2, har, hmx, -⟩ := ok
  obtain ⟨y', bt, ml, rt⟩ := M'
  have hM : rt = none := hM
  subst hM
  have cb := cwI (R := R) (index := idx) (own := M.1.cls) (y := y') (bytes := bt) (maxL := ml) (ws := .code y' bt ml none :: lw_good) (rm := nR d' mc' ms') (mc := mc') (ms := ms') n h7 (gi_gd hcode) rfl rfl rfl (h7 _ hini) (h7 _ hl) (h7 _ hin) hi ⟨hy1, hy2, har⟩ ⟨hdd, by show 8 + (ml + 11) + 64 * d' ≤ R.locals; have : ml ≤ 40 := hmx; omega⟩
  have hrun := va_runI (As := vs) (rest := rest) (b := b) (e := e) (below := below) (meth := meth) (locs := locs) (cells := kc) (slots := ks) (g := F0 m pc ls st) (H := H) ⟨h1, h2, h3, h6, h7⟩ con cb
    ⟨fun a U g mk qq => by obtain ⟨q0, qP, qK⟩ := qq; exact ⟨q0, qP, nK.same (u := U) (U := U.calling g mk a) rfl rfl qK⟩, fun U hU hW => ⟨rfl, by show nP G ω U.heap; rw [hU]; exact h9, nK.call h8 h10 hU hW⟩⟩ rfl hn h11.1 hst (lv_room hr) hd ⟨hc, hs⟩
  intro X hX S
  obtain ⟨v, st₀, t, T', Ls, e0, S', hL, e1, e2, ⟨⟨r, ω', hv, hpo, hP'⟩, hz, hkp⟩, go⟩ := hrun X hX S
  cases hv
  rw [e0] at hz hkp
  obtain ⟨t2, a1, b1⟩ := k v ω' hpo p e s m args below meth c T'.heap (locs ++ Ls) ls h1 h2 h3 h4 h5 h6 h7 h8 (by rw [e1]; exact hP')
    ⟨Nat.le_trans h10.1 (by rw [e1]; exact hz), fun a g1 g2 => by rw [e1, hkp a (Nat.lt_of_lt_of_le g1 h10.1) g2]; exact h10.2.1 a g1 g2, fun a ha => by
      rcases List.mem_append.mp ha with h | h
      · exact h10.2.2 a h
      · exact hL a h⟩ h11 T' rfl S'
  exact ⟨t2, go t2 a1, b1⟩
theorem k_callS {M' : Mt} {n idx d' mc' ms' : Nat} {vs rest : List Value} {Po : Option Value → Wn → Prop} (ok : OkS M' n) (hl : Cond.methodLink M.1.cls idx M'.1 ∈ lw_good) (hd : decode M.2.1 pc = .ok (.invokestatic idx, 3)) (hq : pc + 3 = q) (hn : vs.length = n) (hst : st = vs.reverse ++ rest) (hr : (rest.map fun v => v.category).sum ≤ 8) (hdd : d' + 1 ≤ R.frames) (hlo : 64 * d' + 64 ≤ R.locals) (hc : kc + mc' ≤ R.cells) (hs : ks + ms' ≤ R.slots)
    (con : CKn G d' mc' ms' M' vs ω Po) (k : ∀ (r : Option Value) (ω' : Wn), Po r ω' → K G R M Fx Q ω' (kc + mc') (ks + ms') q L (r.toList ++ rest)) : K G R M Fx Q ω kc ks pc L st := by
  intro p e s m args below meth c H locs ls h1 h2 h3 h4 h5 h6 h7 h8 h9 h10 h11
  subst hq
  obtain ⟨⟨hini, hcode, hy1, hy2, har, hmx, -⟩, hstat⟩ := ok
  have cb : CallB R s args M.1.cls idx M'.1 M'.2.1 M'.2.2.1 M'.2.2.2 (.code M'.1 M'.2.1 M'.2.2.1 M'.2.2.2 :: lw_good) (nR d' mc' ms') mc' ms' n :=
    callB_of n h7 (gi_gd hcode) rfl rfl rfl (h7 _ hini) (h7 _ hl) ⟨hy1, hy2, har⟩ ⟨hdd, by show 8 + (M'.2.2.1 + 11) + 64 * d' ≤ R.locals; omega⟩
  have hrun := va_runS (As := vs) (rest := rest) (e := e) (below := below) (meth := meth) (locs := locs) (cells := kc) (slots := ks) (g := F0 m pc ls st) (H := H) ⟨h1, h2, h3, h6, h7⟩ con ⟨cb, h7 _ hstat⟩
    ⟨fun a U g mk qq => by obtain ⟨q0, qP, qK⟩ := qq; exact ⟨q0, qP, nK.same (u := U) (U := U.calling g mk a) rfl rfl qK⟩, fun U hU hW => ⟨rfl, by show nP G ω U.heap; rw [hU]; exact h9, nK.call h8 h10 hU hW⟩⟩ rfl hn h11.1 hst (lv_room hr) hd ⟨hc, hs⟩
  intro X hX S
  obtain ⟨v, st₀, t, T', Ls, e0, S', hL, e1, e2, ⟨⟨r, ω', hv, hpo, hP'⟩, hz, hkp⟩, go⟩ := hrun X hX S
  cases hv
  rw [e0] at hz hkp
  obtain ⟨t2, a1, b1⟩ := k v ω' hpo p e s m args below meth c T'.heap (locs ++ Ls) ls h1 h2 h3 h4 h5 h6 h7 h8 (by rw [e1]; exact hP')
    ⟨Nat.le_trans h10.1 (by rw [e1]; exact hz), fun a g1 g2 => by rw [e1, hkp a (Nat.lt_of_lt_of_le g1 h10.1) g2]; exact h10.2.1 a g1 g2, fun a ha => by
      rcases List.mem_append.mp ha with h | h
      · exact h10.2.2 a h
      · exact hL a h⟩ h11 T' rfl S'
  exact ⟨t2, go t2 a1, b1⟩
/-- a text's own method -/
theorem k_VS {M' : Mt} {n idx d' i : Nat} {vs rest : List Value} {Po : Option Value → Wn → Prop} (ok : OkV M' n) (hl : Cond.methodLink M.1.cls idx M'.1 ∈ lw_good) (hd : decode M.2.1 pc = .ok (.invokevirtual idx, 3)) (hq : pc + 3 = q) (hC : M'.1.cls = "java/lang/String") (hi : i < 5) (hn : vs.length = n) (hst : st = vs.reverse ++ .ref (gSA G i) :: rest) (hr : (rest.map fun v => v.category).sum ≤ 8) (hdd : d' + 1 ≤ R.frames) (hlo : 64 * d' + 64 ≤ R.locals) (hc : kc ≤ R.cells) (hs : ks ≤ R.slots)
    (con : CKn G d' 0 0 M' (.ref (gSA G i) :: vs) ω Po) (k : ∀ (r : Option Value) (ω' : Wn), Po r ω' → K G R M Fx Q ω' kc ks q L (r.toList ++ rest)) : K G R M Fx Q ω kc ks pc L st := by
  intro p e s m args below meth c H locs ls h1 h2 h3 h4 h5 h6 h7 h8 h9 h10 h11
  subst hq
  obtain ⟨⟨hini, hcode, hy1, hy2, har, hmx, -⟩, hinst, hsel⟩ := ok
  have cb : CallB R s args M.1.cls idx M'.1 M'.2.1 M'.2.2.1 M'.2.2.2 (.code M'.1 M'.2.1 M'.2.2.1 M'.2.2.2 :: lw_good) (nR d' 0 0) 0 0 n :=
    callB_of n h7 (gi_gd hcode) rfl rfl rfl (h7 _ hini) (h7 _ hl) ⟨hy1, hy2, har⟩ ⟨hdd, by show 8 + (M'.2.2.1 + 11) + 64 * d' ≤ R.locals; omega⟩
  have hrun := va_runV (As := vs) (rest := rest) (b := gSA G i) (C := M'.1.cls) (e := e) (below := below) (meth := meth) (locs := locs) (cells := kc) (slots := ks) (g := F0 m pc ls st) (H := H) ⟨h1, h2, h3, h6, h7⟩ con ⟨cb, h7 _ hinst, h7 _ hsel⟩
    ⟨fun a U g mk qq => by obtain ⟨q0, qP, qK⟩ := qq; exact ⟨q0, qP, nK.same (u := U) (U := U.calling g mk a) rfl rfl qK⟩, by rw [hC]; exact vk_recv h8.2.1 hi h10, fun U hU hW => ⟨rfl, by show nP G ω U.heap; rw [hU]; exact h9, nK.call h8 h10 hU hW⟩⟩ rfl hn h11.1 hst (lv_room hr) hd ⟨hc, hs⟩
  intro X hX S
  obtain ⟨v, st₀, t, T', Ls, e0, S', hL, e1, e2, ⟨⟨r, ω', hv, hpo, hP'⟩, hz, hkp⟩, go⟩ := hrun X hX S
  cases hv
  rw [e0] at hz hkp
  obtain ⟨t2, a1, b1⟩ := k v ω' hpo p e s m args below meth c T'.heap (locs ++ Ls) ls h1 h2 h3 h4 h5 h6 h7 h8 (by rw [e1]; exact hP')
    ⟨Nat.le_trans h10.1 (by rw [e1]; exact hz), fun a g1 g2 => by rw [e1, hkp a (Nat.lt_of_lt_of_le g1 h10.1) g2]; exact h10.2.1 a g1 g2, fun a ha => by
      rcases List.mem_append.mp ha with h | h
      · exact h10.2.2 a h
      · exact hL a h⟩ h11 T' rfl S'
  exact ⟨t2, go t2 a1, b1⟩
/-- the whole world stands: a contract over it is called -/
def fE (G : Gx) (σ : Sg) (E : Nat → va_E) : Prop := ∀ k c, lay[k]? = some c → E k = ent G.2.2.1 G.2.2.2 σ k c
def fW (G : Gx) (σ : Sg) (E : Nat → va_E) : Nat → va_E := fun j => match lay[j]? with
  | some c => ent G.2.2.1 G.2.2.2 σ j c
  | none => E j
theorem fE_fW {G : Gx} {σ : Sg} {E : Nat → va_E} : fE G σ (fW G σ E) := fun k c h => by unfold fW; rw [h]
theorem fW_out {G : Gx} {σ : Sg} {E : Nat → va_E} {j : Nat} (h : lay.length ≤ j) : fW G σ E j = E j := by unfold fW; rw [List.getElem?_eq_none h]
theorem nP_gP {G : Gx} {σ : Sg} {n z : Nat} {E : Nat → va_E} {H : Heap} (hn : lay.length ≤ n) (hE : fE G σ E) (h : nP G (n, E, z) H) : gP G σ H := by
  intro k q hq
  simp only [gW, wsOf, List.getElem?_mapIdx, Option.map_eq_some_iff] at hq
  obtain ⟨c, hc, rfl⟩ := hq
  have hk := (List.getElem?_eq_some_iff.mp hc).1
  have h1 : (nW G n E)[k]? = some (G.2.2.2 + k, ent G.2.2.1 G.2.2.2 σ k c) := by rw [nW_get (by omega), hE k c hc]
  exact h.1 k _ h1
theorem gP_nP {G : Gx} {σ' : Sg} {n z z' : Nat} {E : Nat → va_E} {H H1 : Heap} (hn : lay.length ≤ n) (h : nP G (n, E, z) H) (h1 : gP G σ' H1) (hk : ∀ q, q < H.size → ¬ gA G q → H1[q]? = H[q]?) (hz : H1.size = G.2.2.2 + n + z') : nP G (n, fW G σ' E, z') H1 := by
  refine ⟨fun k q hq => ?_, hz⟩
  obtain ⟨hkn, rfl⟩ := nW_inv hq
  by_cases hl : k < lay.length
  · obtain ⟨c, hc⟩ : ∃ c, lay[k]? = some c := ⟨_, List.getElem?_eq_getElem hl⟩
    have e1 : fW G σ' E k = ent G.2.2.1 G.2.2.2 σ' k c := fE_fW k c hc
    have := h1 k _ (g_get hc)
    show va_at _ _ (G.2.2.2 + k, fW G σ' E k) H1
    rw [e1]
    exact this
  · show va_at _ _ (G.2.2.2 + k, fW G σ' E k) H1
    rw [fW_out (by omega)]
    have g := h.1 k _ (nW_get hkn)
    refine g.kept (hk _ g.lt (fun w => hl ?_))
    have w2 : G.2.2.2 + k < G.2.2.2 + lay.length := w.2
    omega
theorem k_callV {M' : Mt} {n idx d' ci b n' z : Nat} {fl : List Nat} {vs rest : List Value} {σ : Sg} {E : Nat → va_E} {Po : Option Value → Sg → Prop} (ok : OkV M' n) (hl : Cond.methodLink M.1.cls idx M'.1 ∈ lw_good) (hd : decode M.2.1 pc = .ok (.invokevirtual idx, 3)) (hq : pc + 3 = q) (hC : ∃ (T : u_T) (N : Nat), vwCl[ci]? = some (M'.1.cls, T, N)) (hk : lay[b]? = some (.inr (ci, fl))) (hn : vs.length = n) (hst : st = vs.reverse ++ .ref (G.2.2.2 + b) :: rest) (hr : (rest.map fun v => v.category).sum ≤ 8) (hdd : d' + 1 ≤ R.frames) (hlo : 64 * d' + 64 ≤ R.locals) (hc : kc ≤ R.cells) (hs : ks ≤ R.slots) (hn' : lay.length ≤ n') (hE : fE G σ E)
    (con : Con G d' M' (.ref (G.2.2.2 + b) :: vs) σ Po) (k : ∀ (r : Option Value) (σ' : Sg) (z' : Nat), Po r σ' → K G R M Fx Q (n', fW G σ' E, z') kc ks q L (r.toList ++ rest)) : K G R M Fx Q (n', E, z) kc ks pc L st := by
  intro p e s m args below meth c H locs ls h1 h2 h3 h4 h5 h6 h7 h8 h9 h10 h11
  subst hq
  obtain ⟨⟨hini, hcode, hy1, hy2, har, hmx, -⟩, hinst, hsel⟩ := ok
  obtain ⟨T, N, hcc⟩ := hC
  have hgP := nP_gP hn' hE h9
  have cb : CallB R s args M.1.cls idx M'.1 M'.2.1 M'.2.2.1 M'.2.2.2 (.code M'.1 M'.2.1 M'.2.2.1 M'.2.2.2 :: lw_good) (gR d') 0 0 n :=
    callB_of n h7 (gi_gd hcode) rfl rfl rfl (h7 _ hini) (h7 _ hl) ⟨hy1, hy2, har⟩ ⟨hdd, by show 8 + (M'.2.2.1 + 11) + 64 * d' ≤ R.locals; omega⟩
  have hrun := va_runV (As := vs) (rest := rest) (b := G.2.2.2 + b) (C := M'.1.cls) (e := e) (below := below) (meth := meth) (locs := locs) (cells := kc) (slots := ks) (g := F0 m pc ls st) (H := H) ⟨h1, h2, h3, h6, h7⟩ con ⟨cb, h7 _ hinst, h7 _ hsel⟩
    ⟨fun a U g mk qq => by obtain ⟨q0, qP, qK⟩ := qq; exact ⟨q0, qP, gK.same (u := U) (U := U.calling g mk a) rfl rfl qK⟩, va_recv h8.1 hgP hcc (g_get hk), fun U hU hW => ⟨rfl, by show gP G σ U.heap; rw [hU]; exact hgP, (nK.call h8 h10 hU hW).g⟩⟩ rfl hn h11.1 hst (lv_room hr) hd ⟨hc, hs⟩
  intro X hX S
  obtain ⟨v, st₀, t, T', Ls, e0, S', hL, e1, e2, ⟨⟨r, σ', hv, hpo, hP'⟩, hz, hkp⟩, go⟩ := hrun X hX S
  cases hv
  rw [e0] at hz hkp
  rw [← e1] at hP' hz hkp
  have hnz : H.size = G.2.2.2 + n' + z := h9.2
  obtain ⟨t2, a1, b1⟩ := k v σ' (T'.heap.size - (G.2.2.2 + n')) hpo p e s m args below meth c T'.heap (locs ++ Ls) ls h1 h2 h3 h4 h5 h6 h7 h8 (gP_nP hn' h9 hP' hkp (by omega))
    ⟨Nat.le_trans h10.1 hz, fun a g1 g2 => by rw [hkp a (Nat.lt_of_lt_of_le g1 h10.1) (fun w => g2 (gA_nA a w))]; exact h10.2.1 a g1 g2, fun a ha => by
      rcases List.mem_append.mp ha with h | h
      · exact h10.2.2 a h
      · exact gA_nA _ (hL a h)⟩ h11 T' rfl S'
  exact ⟨t2, go t2 a1, b1⟩
end KR
