/-! The two fresh objects are alike -/
theorem fr_sim {Z X : sm_X} (h : nXi Z 12) (e : X = sm_up Z 703 4 4294967295) : sim X X (fun _ _ => 0) (fun _ _ _ => 0) (fun _ _ => 0) 0 := by
  obtain ⟨h1, h2, h3, h4⟩ := h
  have off : ∀ a j, ¬ (a = 703 ∧ j = 4) → X a j = Z a j := fun a j q => by rw [e]; exact sm_up_x (by omega)
  have z : ∀ a j, ¬ (a = 703 ∧ j = 4) → a ≠ 2 → a ≠ 3 → ¬ (a = 0 ∧ j = 9) → ¬ (79 ≤ a ∧ a < 691 ∧ (a - 79) % 51 = 0 ∧ (j = 0 ∨ j = 3)) → X a j = 0 := fun a j q1 q2 q3 q4 q5 => by
    rw [off a j q1]
    exact h4 a j q2 q3 q4 (by omega)
  have c4 : X 703 4 = 4294967295 := by rw [e]; exact sm_up_s
  have c9 : X 0 9 = 4294967295 := by rw [off _ _ (by omega)]; exact h2
  refine ⟨fun _ _ => Nat.zero_lt_succ 1, ⟨by rw [c4, c9], Or.inl c4, by rw [z 0 8 (by omega) (by omega) (by omega) (by omega) (by omega), z 703 2 (by omega) (by omega) (by omega) (by omega) (by omega)], by rw [z 703 2 (by omega) (by omega) (by omega) (by omega) (by omega)]; decide, fun i hi => ⟨by rw [z 77 i (by omega) (by omega) (by omega) (by omega) (by omega), z 704 i (by omega) (by omega) (by omega) (by omega) (by omega)], by rw [z 704 i (by omega) (by omega) (by omega) (by omega) (by omega)]; decide⟩, fun i hi => by rw [z 78 i (by omega) (by omega) (by omega) (by omega) (by omega), z 705 i (by omega) (by omega) (by omega) (by omega) (by omega)]⟩, ?_, ?_, ?_, ?_, ?_, ?_, ?_⟩
  · intro o ho
    refine ⟨?_, ?_, ?_, ?_, ?_⟩ <;> rw [z _ _ (by omega) (by omega) (by omega) (by omega) (by omega), z _ _ (by omega) (by omega) (by omega) (by omega) (by omega)]
  · intro n hn
    have q := h3 n hn
    refine ⟨by rw [off _ _ (by omega)]; exact q.1, ?_, ?_, ?_, ?_⟩
    · rw [off (79 + 51 * n) 3 (by omega), q.2, z 711 n (by omega) (by omega) (by omega) (by omega) (by omega)]
    · rw [z 711 n (by omega) (by omega) (by omega) (by omega) (by omega)]; decide
    · rw [z (79 + 51 * n) 4 (by omega) (by omega) (by omega) (by omega) (by omega), z 712 n (by omega) (by omega) (by omega) (by omega) (by omega)]
    · rw [z 712 n (by omega) (by omega) (by omega) (by omega) (by omega)]; exact Nat.zero_le _
  · intro n o hn ho
    refine ⟨?_, ?_, ?_, ?_⟩
    · show X (82 + 51 * n + 4 * o + 2 * 0) 0 = _
      rw [z (82 + 51 * n + 4 * o + 2 * 0) 0 (by omega) (by omega) (by omega) (by omega) (by omega), z 713 _ (by omega) (by omega) (by omega) (by omega) (by omega)]
    · show X (82 + 51 * n + 4 * o + 2 * 0) 1 = 0
      exact z _ _ (by omega) (by omega) (by omega) (by omega) (by omega)
    · exact z 714 _ (by omega) (by omega) (by omega) (by omega) (by omega)
    · exact ⟨fun i hi => absurd hi (Nat.not_lt_zero _), fun i hi => absurd hi (by show ¬ i < 8 * ((0 + 29) / 30); omega)⟩
  · intro n o hn ho
    have z6 : X 716 (12 * n + o) = 0 := z 716 _ (by omega) (by omega) (by omega) (by omega) (by omega)
    refine ⟨?_, ?_, ?_, fun q => absurd z6 q⟩
    · show X (82 + 51 * n + 4 * o + 2 * 1) 0 = _
      rw [z6]
      exact z _ _ (by omega) (by omega) (by omega) (by omega) (by omega)
    · show X (82 + 51 * n + 4 * o + 2 * 1) 1 ≤ 240
      rw [z (82 + 51 * n + 4 * o + 2 * 1) 1 (by omega) (by omega) (by omega) (by omega) (by omega)]; decide
    · rw [z 717 _ (by omega) (by omega) (by omega) (by omega) (by omega)]; decide
  · intro o ho
    have z6 : X 706 o = 0 := z 706 _ (by omega) (by omega) (by omega) (by omega) (by omega)
    have z8 : X 708 o = 0 := z 708 _ (by omega) (by omega) (by omega) (by omega) (by omega)
    have z10 : X 710 o = 0 := z 710 _ (by omega) (by omega) (by omega) (by omega) (by omega)
    refine ⟨by omega, by omega, z 707 _ (by omega) (by omega) (by omega) (by omega) (by omega), z 709 _ (by omega) (by omega) (by omega) (by omega) (by omega), by omega, fun q => absurd z10 q, fun n hn => ⟨?_, ?_⟩⟩
    · rw [z 713 _ (by omega) (by omega) (by omega) (by omega) (by omega)]; exact Nat.zero_le _
    · rw [z 716 _ (by omega) (by omega) (by omega) (by omega) (by omega)]; exact Nat.zero_le _
  · intro o
    exact ⟨rfl, fun v => ⟨Nat.zero_le 240, fun i => ⟨Nat.zero_lt_succ 255, fun _ => rfl⟩⟩⟩
  · refine ⟨⟨fun k hk => by rw [off _ _ (by omega)]; exact h1.1 k hk, fun a ha => by rw [off _ _ (by omega)]; exact h1.2 a ha⟩, fun r hr j hj => ?_, fun r j hr _ _ _ => z _ _ (by omega) (by omega) (by omega) (by omega) (by omega)⟩
    rw [z _ _ (by omega) (by omega) (by omega) (by omega) (by omega)]
    decide
theorem yc_all : yc (fun a _ => a < 722) = sm_rf (fun _ _ => 0) := by
  funext a j
  by_cases h : a < 722
  · exact yc_t (P := fun a _ => a < 722) h
  · rw [yc_f (P := fun a _ => a < 722) h, rf_n1 (by omega)]
