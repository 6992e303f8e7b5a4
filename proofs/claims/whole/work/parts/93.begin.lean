theorem sz_1 : sg0.1 1 = fun _ => 0 := by funext i; simp [sg0, sg0f]
theorem sz_3 : sg0.1 3 = fun _ => 0 := by funext i; simp [sg0, sg0f]
theorem sz_4 : sg0.1 4 = fun _ => 0 := by funext i; simp [sg0, sg0f]
theorem sz_5 : sg0.1 5 = fun _ => 0 := by funext i; simp [sg0, sg0f]
theorem sz_6 : sg0.1 6 = fun _ => 0 := by funext i; simp [sg0, sg0f]
theorem sz_7 : sg0.1 7 = fun _ => 0 := by funext i; simp [sg0, sg0f]
theorem sz_8 : sg0.1 8 = fun _ => 0 := by funext i; simp [sg0, sg0f]
theorem sz_9 : sg0.1 9 = fun _ => 0 := by funext i; simp [sg0, sg0f]
theorem sz_10 : sg0.1 10 = fun _ => 0 := by funext i; simp [sg0, sg0f]
theorem sz_11 : sg0.1 11 = fun _ => 0 := by funext i; simp [sg0, sg0f]
theorem sz_12 : sg0.1 12 = fun _ => 0 := by funext i; simp [sg0, sg0f]
theorem sz_13 : sg0.1 13 = fun _ => 0 := by funext i; simp [sg0, sg0f]
theorem sz_14 : sg0.1 14 = fun _ => 0 := by funext i; simp [sg0, sg0f]
theorem sz_15 : sg0.1 15 = fun _ => 0 := by funext i; simp [sg0, sg0f]
theorem sz_16 : sg0.1 16 = fun _ => 0 := by funext i; simp [sg0, sg0f]
theorem sz_17 : sg0.1 17 = fun _ => 0 := by funext i; simp [sg0, sg0f]
theorem sz_18 : sg0.1 18 = fun _ => 0 := by funext i; simp [sg0, sg0f]
theorem sz_24 : sg0.1 24 = fun _ => 0 := by funext i; simp [sg0, sg0f]
theorem sz_25 : sg0.1 25 = fun _ => 0 := by funext i; simp [sg0, sg0f]
theorem sz_26 : sg0.1 26 = fun _ => 0 := by funext i; simp [sg0, sg0f]
theorem sz_27 : sg0.1 27 = fun _ => 0 := by funext i; simp [sg0, sg0f]
theorem sz_28 : sg0.1 28 = fun _ => 0 := by funext i; simp [sg0, sg0f]
theorem sz_29 : sg0.1 29 = fun _ => 0 := by funext i; simp [sg0, sg0f]
theorem sz_30 : sg0.1 30 = fun _ => 0 := by funext i; simp [sg0, sg0f]
theorem sz_31 : sg0.1 31 = fun _ => 0 := by funext i; simp [sg0, sg0f]
theorem sz_32 : sg0.1 32 = fun _ => 0 := by funext i; simp [sg0, sg0f]
theorem sz_40 : sg0.1 40 = fun _ => 0 := by funext i; simp [sg0, sg0f]
theorem sz_41 : sg0.1 41 = fun _ => 0 := by funext i; simp [sg0, sg0f]
theorem sz_42 : sg0.1 42 = fun _ => 0 := by funext i; simp [sg0, sg0f]
theorem sz_43 : sg0.1 43 = fun _ => 0 := by funext i; simp [sg0, sg0f]
theorem sz_50 : sg0.1 50 = fun _ => 0 := by funext i; simp [sg0, sg0f]
theorem sz_51 : sg0.1 51 = fun _ => 0 := by funext i; simp [sg0, sg0f]
theorem sz_52 : sg0.1 52 = fun _ => 0 := by funext i; simp [sg0, sg0f]
theorem sz_53 : sg0.1 53 = fun _ => 0 := by funext i; simp [sg0, sg0f]
theorem sz_57 : sg0.1 57 = fun _ => 0 := by funext i; simp [sg0, sg0f]
theorem sz_58 : sg0.1 58 = fun _ => 0 := by funext i; simp [sg0, sg0f]
theorem sz_59 : sg0.1 59 = fun _ => 0 := by funext i; simp [sg0, sg0f]
theorem sz_60 : sg0.1 60 = fun _ => 0 := by funext i; simp [sg0, sg0f]
theorem sz_61 : sg0.1 61 = fun _ => 0 := by funext i; simp [sg0, sg0f]
theorem sz_63 : sg0.1 63 = fun _ => 0 := by funext i; simp [sg0, sg0f]
theorem sz_64 : sg0.1 64 = fun _ => 0 := by funext i; simp [sg0, sg0f]
theorem sz_65 : sg0.1 65 = fun _ => 0 := by funext i; simp [sg0, sg0f]
theorem sz_66 : sg0.1 66 = fun _ => 0 := by funext i; simp [sg0, sg0f]
theorem sz_67 : sg0.1 67 = fun _ => 0 := by funext i; simp [sg0, sg0f]
theorem sz_68 : sg0.1 68 = fun _ => 0 := by funext i; simp [sg0, sg0f]
theorem sz_69 : sg0.1 69 = fun _ => 0 := by funext i; simp [sg0, sg0f]
theorem sz_83 : sg0.1 83 = fun _ => 0 := by funext i; simp [sg0, sg0f]
theorem sz_85 : sg0.1 85 = fun _ => 0 := by funext i; simp [sg0, sg0f]
theorem sz_86 : sg0.1 86 = fun _ => 0 := by funext i; simp [sg0, sg0f]
theorem sz_87 : sg0.1 87 = fun _ => 0 := by funext i; simp [sg0, sg0f]
theorem sz_88 : sg0.1 88 = fun _ => 0 := by funext i; simp [sg0, sg0f]
theorem sz_89 : sg0.1 89 = fun _ => 0 := by funext i; simp [sg0, sg0f]
theorem sz_90 : sg0.1 90 = fun _ => 0 := by funext i; simp [sg0, sg0f]
theorem sz_91 : sg0.1 91 = fun _ => 0 := by funext i; simp [sg0, sg0f]
theorem sz_92 : sg0.1 92 = fun _ => 0 := by funext i; simp [sg0, sg0f]
theorem sz_93 : sg0.1 93 = fun _ => 0 := by funext i; simp [sg0, sg0f]
theorem sz_94 : sg0.1 94 = fun _ => 0 := by funext i; simp [sg0, sg0f]
theorem sz_95 : sg0.1 95 = fun _ => 0 := by funext i; simp [sg0, sg0f]
theorem sz_96 : sg0.1 96 = fun _ => 0 := by funext i; simp [sg0, sg0f]
theorem sz_97 : sg0.1 97 = fun _ => 0 := by funext i; simp [sg0, sg0f]
theorem sz_98 : sg0.1 98 = fun _ => 0 := by funext i; simp [sg0, sg0f]
theorem sz_99 : sg0.1 99 = fun _ => 0 := by funext i; simp [sg0, sg0f]
theorem sz_102 : sg0.1 102 = fun _ => 0 := by funext i; simp [sg0, sg0f]
theorem sz_103 : sg0.1 103 = fun _ => 0 := by funext i; simp [sg0, sg0f]
theorem sz_104 : sg0.1 104 = fun _ => 0 := by funext i; simp [sg0, sg0f]
theorem sz_105 : sg0.1 105 = fun _ => 0 := by funext i; simp [sg0, sg0f]
theorem sz_106 : sg0.1 106 = fun _ => 0 := by funext i; simp [sg0, sg0f]
theorem sz_107 : sg0.1 107 = fun _ => 0 := by funext i; simp [sg0, sg0f]
theorem sz_108 : sg0.1 108 = fun _ => 0 := by funext i; simp [sg0, sg0f]
theorem sz_109 : sg0.1 109 = fun _ => 0 := by funext i; simp [sg0, sg0f]
theorem sz_110 : sg0.1 110 = fun _ => 0 := by funext i; simp [sg0, sg0f]
theorem sz_111 : sg0.1 111 = fun _ => 0 := by funext i; simp [sg0, sg0f]
theorem sz_112 : sg0.1 112 = fun _ => 0 := by funext i; simp [sg0, sg0f]
theorem sz_113 : sg0.1 113 = fun _ => 0 := by funext i; simp [sg0, sg0f]
theorem sz_114 : sg0.1 114 = fun _ => 0 := by funext i; simp [sg0, sg0f]
theorem sz_115 : sg0.1 115 = fun _ => 0 := by funext i; simp [sg0, sg0f]
theorem sz_116 : sg0.1 116 = fun _ => 0 := by funext i; simp [sg0, sg0f]
theorem sz_117 : sg0.1 117 = fun _ => 0 := by funext i; simp [sg0, sg0f]
theorem sz_118 : sg0.1 118 = fun _ => 0 := by funext i; simp [sg0, sg0f]
theorem Rel0 : Rel sg0 := by
  have hMI : MI sg0 0 := ⟨fun i _ _ => by unfold mF mK; simp only [sz_105, sz_106]; decide, fun i _ _ => by unfold mL mD; simp only [sz_107, sz_108]; decide, by decide, by decide, by decide⟩
  have hLI : ∀ L, L = 39 ∨ L = 49 → LI sg0 L := by
    intro L hL
    rcases hL with rfl | rfl
    · exact ⟨(fun i _ _ => by show 0 ≤ sg0.1 40 i ∧ sg0.1 40 i ≤ 39 ∧ 0 ≤ sg0.1 41 i ∧ sg0.1 41 i ≤ 9; simp only [sz_40, sz_41]; decide), (fun i _ _ => by show 0 ≤ sg0.1 42 i ∧ sg0.1 42 i ≤ 30 ∧ 0 ≤ sg0.1 43 i ∧ sg0.1 43 i ≤ 99; simp only [sz_42, sz_43]; decide), by decide, by decide, by decide, by decide, by decide, by decide⟩
    · exact ⟨(fun i _ _ => by show 0 ≤ sg0.1 50 i ∧ sg0.1 50 i ≤ 39 ∧ 0 ≤ sg0.1 51 i ∧ sg0.1 51 i ≤ 9; simp only [sz_50, sz_51]; decide), (fun i _ _ => by show 0 ≤ sg0.1 52 i ∧ sg0.1 52 i ≤ 30 ∧ 0 ≤ sg0.1 53 i ∧ sg0.1 53 i ≤ 99; simp only [sz_52, sz_53]; decide), by decide, by decide, by decide, by decide, by decide, by decide⟩
  refine ⟨⟨?_, ?_, ?_, ?_, ?_, ?_, ?_⟩, ⟨hLI 39 (Or.inl rfl), hMI, by decide, by decide, ?_⟩, ⟨by decide, rfl, hLI 49 (Or.inr rfl), fun h => absurd h (by decide)⟩, ⟨?_, rfl, fun u a b => absurd b (by show ¬ u < 3 + 0; omega), fun j a b => absurd b (by show ¬ (j : Int) ≤ 0; omega)⟩, ⟨?_, ?_, ?_⟩, ?_⟩
  · exact ⟨by decide, by decide, by decide, by decide, by decide, by decide, by decide, by decide, (fun i _ _ => by simp only [sz_3, sz_4, sz_5]; decide), (fun i _ h => absurd h (by show ¬ i < 0; omega)), (fun i _ _ => by simp only [sz_6, sz_7, sz_8]; decide), (fun i _ _ => by simp only [sz_9, sz_10, sz_11]; decide), (fun i _ _ => by simp only [sz_12]; decide)⟩
  · exact (fun i _ h => absurd h (by show ¬ i < 0; omega))
  · intro r _ _
    simp only [sz_15, sz_16]
    exact ⟨by decide, by decide, by decide, fun k a b => absurd b (by omega)⟩
  · exact ⟨by decide, by decide, by decide, by decide, by decide, by decide, (fun i _ _ => by simp only [sz_85, sz_86, sz_87]; decide), (fun i _ h => absurd h (by show ¬ i < 0; omega)), (fun i _ _ => by simp only [sz_89, sz_90, sz_91]; decide), (fun i _ _ => by simp only [sz_92, sz_93, sz_94, sz_95]; decide), (fun i _ _ => by simp only [sz_88]; decide)⟩
  · exact (fun i _ h => absurd h (by show ¬ i < 0; omega))
  · intro r _ _
    simp only [sz_96, sz_97]
    exact ⟨by decide, by decide, by decide, fun k a b => absurd b (by omega), fun h => absurd h (by decide)⟩
  · exact ⟨by decide, (fun i _ h => absurd h (by show ¬ i < 0; omega)), (fun i _ _ => by simp only [sz_88, sz_12]), (fun i _ h => absurd h (by show ¬ i < 0; omega)), (fun i _ h => absurd h (by show ¬ i < 0; omega)), fun k _ _ => by
      simp only [sz_96, sz_97, sz_15, sz_16]
      exact ⟨trivial, trivial, fun i a b => absurd b (by omega)⟩, (fun i _ h => absurd h (by show ¬ i < 0; omega))⟩
  · exact ⟨⟨fun i _ h => absurd h (by show ¬ i < 4 * 0; omega), (fun i _ h => absurd h (by show ¬ i < 0; omega)), rfl, rfl⟩, fun i _ h => absurd h (by show ¬ i < 4 * 0; omega), rfl⟩
  · exact ⟨by decide, by decide, (fun i _ _ => by simp only [sz_57, sz_58, sz_59, sz_60, sz_61]; decide)⟩
  · exact ⟨by decide, by decide, (fun i _ _ => by simp only [sz_63, sz_64, sz_65, sz_66, sz_67, sz_68, sz_69]; decide), (fun i _ h => absurd h (by show ¬ i < 0; omega))⟩
  · exact ⟨by decide, by decide, (fun i _ _ => by simp only [sz_112, sz_113, sz_114, sz_115, sz_116, sz_117, sz_118]; decide), (fun i _ h => absurd h (by show ¬ i < 0; omega)), (fun i _ h => absurd h (by show ¬ i < 0; omega))⟩
  · exact ⟨rfl, rfl, (fun i _ h => absurd h (by show ¬ i < 0; omega))⟩
  · exact ⟨by decide, rfl, (fun i _ _ => by simp only [sz_83]; decide), (fun i _ h => absurd h (by show ¬ i < 0; omega)), fun i _ _ => rfl, ⟨(fun i _ _ => by simp only [sz_24, sz_25, sz_26]; decide), (fun i _ _ => by simp only [sz_27, sz_28, sz_29]; decide), (fun i _ _ => by simp only [sz_30, sz_31, sz_32]; decide)⟩, ⟨(fun i _ _ => by simp only [sz_86, sz_87]; decide), (fun i _ _ => by simp only [sz_90, sz_91]; decide), (fun i _ _ => by simp only [sz_92, sz_93, sz_94, sz_95]; decide)⟩, rfl, rfl, rfl, rfl⟩
theorem Rel1 {σ : Sg} (h : MSt sg0 0 σ) : Rel σ := by
  obtain ⟨⟨hF, hf⟩, hO, h1, h2, h3, h4, h5⟩ := h
  refine Rel0.fr (fun a ha => hF a (fun w => ha ?_)) (fun j _ => hf j (by simp)) (fun u _ => ?_) ?_ ?_
  · clear ha hF hf hO h1 h2 h3 h4 h5
    have : ∀ x ∈ ([82, 102, 103, 104, 105, 106, 107, 108] : List Nat), x ∈ SCR := by decide
    exact this a w
  · by_cases hu : u = 0
    · subst hu
      refine ldm_ext (fun i a b => ?_) (fun i a b => ?_) (by rw [h3]; rfl) (by rw [h4]; rfl) (by rw [h5]; rfl)
      · obtain ⟨q1, q2⟩ := h1 i a b
        rw [q1, q2, if_neg (by show ¬ i < 4 * 0; omega)]
        unfold mF mK
        simp only [sz_105, sz_106]
        exact ⟨trivial, trivial⟩
      · obtain ⟨q1, q2⟩ := h2 i a b
        rw [q1, q2, if_neg (by show ¬ i < 0; omega)]
        unfold mL mD
        simp only [sz_107, sz_108]
        exact ⟨trivial, trivial⟩
    · obtain ⟨o1, o2, o3, o4, o5⟩ := hO u hu
      exact ldm_ext o1 o2 o3 o4 o5
  · intro k _ _
    rw [(hF 69 (by decide)).1, sz_69]; exact Or.inl rfl
  · intro k _ _
    rw [(hF 118 (by decide)).1, sz_118]; exact Or.inl rfl
