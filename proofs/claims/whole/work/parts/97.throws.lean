/-! ===== the words of the two throws ===== -/
def xI : String := "java/lang/IndexOutOfBoundsException"
def xJ : String := "java/util/NoSuchElementException"
def xN : List String := ["java/lang/RuntimeException", "java/lang/Exception"]
def xA1 : List Cond := xq_at RX11 143 xI 7 Bundle.six xN
def xA2 : List Cond := xq_at RX11 150 xJ 13 prog_31_method_4_code xN
def xWs : List Cond := [.classLink RX11 139 xI, .initialized xI, .classLink RX11 146 xJ, .initialized xJ, .castable xI xI, .castable xJ xJ, .classLink RL 13 xI, .classLink RL 15 xJ] ++ (xA1 ++ xA2)
set_option maxRecDepth 100000 in
theorem xm_1 : ∀ w ∈ xA1, w ∈ lw_tbl := by decide +kernel
set_option maxRecDepth 100000 in
theorem xm_2 : ∀ w ∈ xA2, w ∈ lw_tbl := by decide +kernel
set_option maxRecDepth 100000 in
theorem xm_3 : ∀ w ∈ ([.classLink RX11 139 xI, .initialized xI, .classLink RX11 146 xJ, .initialized xJ, .castable xI xI, .castable xJ xJ, .classLink RL 13 xI, .classLink RL 15 xJ] : List Cond), w ∈ lw_tbl := by decide +kernel
theorem xm : ∀ w ∈ xWs, w ∈ lw_tbl := List.forall_mem_append.mpr ⟨xm_3, List.forall_mem_append.mpr ⟨xm_1, xm_2⟩⟩
def xok (w : Cond) : Bool := goodWord w || (match w with | .declares _ => true | .castable _ _ => true | _ => false)
theorem xg : xWs.all xok = true := by decide +kernel
theorem xo_1 : ∀ w ∈ Cond.classLink RX11 139 xI :: Cond.initialized xI :: xA1, vx_ot w = true := by decide +kernel
theorem xo_2 : ∀ w ∈ Cond.classLink RX11 146 xJ :: Cond.initialized xJ :: xA2, vx_ot w = true := by decide +kernel
theorem xw_move {w : Cond} (h : xok w = true) {A A' : Array Value} {s U : State} (hW : s.WarmedH U.vm) (hb : w.before A s = true) : w.before A' U = true := by
  by_cases hg : goodWord w = true
  · exact word_at hW (good_of_word hg) hb
  · unfold xok at h
    rw [Bool.or_eq_true] at h
    have h := h.resolve_left hg
    cases w with
    | declares x => exact va_tabs (u := s.setVm U.vm) (A := A) rfl rfl (by rw [Cond.declares_setVm hW.alike]; exact hb)
    | castable a b => exact va_tabs (u := s.setVm U.vm) (A := A) rfl rfl (by rw [Cond.castable_setVm hW.alike]; exact hb)
    | _ => cases h
def xK (G : Gx) (U : State) : Prop := (∀ w ∈ xWs, w.before #[] U = true) ∧ va_Nc xJ xI U ∧ vx_Zq Bundle.tN "UNASSIGNED_STACK" Bundle.steD (nA G) U U.heap ∧ vx_Zq Bundle.tN "SUPPRESSED_SENTINEL" Bundle.listD (nA G) U U.heap
theorem xK.call {G : Gx} {s U : State} {H : Heap} {locs : List Loc} (h : xK G s) (hS : va_S (nA G) s.heap H locs) (hU : U.heap = H) (hW : s.WarmedH U.vm) : xK G U := by
  subst hU
  exact ⟨fun w hw => xw_move (List.all_eq_true.mp xg w hw) hW (h.1 w hw), h.2.1.moved hW.alike, vx_Zq.moved hW.alike (h.2.2.1.kept hS.2.1), vx_Zq.moved hW.alike (h.2.2.2.kept hS.2.1)⟩
theorem xK.same {G : Gx} {u U : State} (hv : U.vm = u.vm) (hh : U.heap = u.heap) (h : xK G u) : xK G U := by
  have hW : u.WarmedH U.vm := by rw [hv]; exact State.WarmedH.refl u
  exact h.call (locs := []) (H := u.heap) va_S.rf hh hW
theorem xK.at {G : Gx} {U : State} (h : xK G U) {A : Array Value} {w : Cond} (hw : w ∈ xWs) : w.before A U = true := xw_move (List.all_eq_true.mp xg w hw) (State.WarmedH.refl U) (h.1 w hw)
theorem xi_1 {w : Cond} (h : w ∈ xA1) : w ∈ xWs := List.mem_append_right _ (List.mem_append_left _ h)
theorem xi_2 {w : Cond} (h : w ∈ xA2) : w ∈ xWs := List.mem_append_right _ (List.mem_append_right _ h)
