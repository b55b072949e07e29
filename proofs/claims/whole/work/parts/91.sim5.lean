/-! The relation is kept: settle, the two cases -/
theorem rst_3 {R : sm_X} {o j : Nat} {c : Bool} (hj : j ≠ 0) : ∀ k, rst R o c k 703 j = R 703 j
  | 0 => sm_up_x (Or.inr hj)
  | k + 1 => by
    have ih := rst_3 (R := R) (o := o) (c := c) hj k
    show (if rlv R k = true then sm_up (if (c && decide (R 716 (12 * k + o) = R 708 o)) = true then rsn (rst R o c k) k o else rst R o c k) 716 (12 * k + o) 0 else rst R o c k) 703 j = _
    split
    · rw [sm_up_x (Or.inl (by decide))]
      split
      · rw [rsn_o (by decide) (by decide) (by decide) (by decide)]; exact ih
      · exact ih
    · exact ih
section
variable {C R : sm_X} {w : Nat → Nat → Nat} {CT : Nat → Nat → Nat → Nat} {LN : Nat → Nat → Nat} {K K' o : Nat}

theorem sim_settle1 (h : sim C R w CT LN K) (hK : K ≤ K') (ho : o < 12) (hst : R 710 o ≠ 0) (hcn : rcn R o 12 = true) : sim (sm_up (sm_up (sm_up (sds (stX (stT C w o 12) C w o 12) (stW (stT C w o 12) w o 12) o 12) (691 + o) 0 ((sds (stX (stT C w o 12) C w o 12) (stW (stT C w o 12) w o 12) o 12) (691 + o) 2)) (691 + o) 1 ((sds (stX (stT C w o 12) C w o 12) (stW (stT C w o 12) w o 12) o 12) (691 + o) 3)) (691 + o) 4 0) (rsE R o) (stW (stT C w o 12) w o 12) CT LN K' := by
  have hT : ∀ d, d < 12 → stT C w o 12 d = rsC R o true d := fun d hd => sim_stT h ho hd
  generalize stT C w o 12 = T at hT ⊢
  have hsl : ∀ d, d < 12 → slv C d = rlv R d := fun d hd => sim_slv h hd
  obtain ⟨hw, hA, hI, hN, hS, hD, hV, hC, hM⟩ := h
  have hw' : ∀ n p, stW T w o 12 n p < 2 := fun n p => stW_lt (k := 12) hw n p
  have ew1 : ∀ d, d < 12 → rsC R o true d = true → stW T w o 12 d o = 1 - w d o := fun d hd q => if_pos ⟨rfl, hd, by rw [hT d hd]; exact q⟩
  have ew0 : ∀ d p, d < 12 → ¬ (p = o ∧ rsC R o true d = true) → stW T w o 12 d p = w d p := fun d p hd q => if_neg (fun z => q ⟨z.1, by rw [← hT d hd]; exact z.2.2⟩)
  have z : ∀ a j, (∀ d, d < 12 → ∀ b, b < 2 → a ≠ 82 + 51 * d + 4 * o + 2 * b) → sds (stX T C w o 12) (stW T w o 12) o 12 a j = C a j := fun a j q => (sds_b q).trans (stX_b q hw)
  have zs : ∀ d p j, d < 12 → p < 12 → sds (stX T C w o 12) (stW T w o 12) o 12 (82 + 51 * d + 4 * p + 2 * stW T w o 12 d p) j = C (82 + 51 * d + 4 * p + 2 * stW T w o 12 d p) j := fun d p j hd hp => (sds_s hw' ho hp hd).trans (stX_s hw ho hp hd)
  have zl : ∀ d, d < 12 → slv (stX T C w o 12) d = rlv R d := fun d hd => by
    rw [← hsl d hd]
    unfold slv
    rw [stX_b (fun q hq b hb => by omega) hw]
  have zd : ∀ d p j, d < 12 → p < 12 → j < 2 → sds (stX T C w o 12) (stW T w o 12) o 12 (82 + 51 * d + 4 * p + 2 * (1 - stW T w o 12 d p)) j = if p = o ∧ rlv R d = true then 0 else C (82 + 51 * d + 4 * p + 2 * (1 - stW T w o 12 d p)) j := fun d p j hd hp hj => by
    rw [sds_d hw' ho hp hd hj, zl d hd]
    by_cases e : p = o ∧ rlv R d = true
    · rw [if_pos e, if_pos e]
    · rw [if_neg e, if_neg e, stX_d hw hp hd hj, if_neg (fun q => e ⟨q.1, by
        have q2 := q.2
        rw [hT d hd] at q2
        unfold rsC at q2
        rw [Bool.and_eq_true] at q2
        exact q2.1⟩)]
  generalize stW T w o 12 = w' at hw' ew1 ew0 z zs zd ⊢
  generalize sds (stX T C w o 12) w' o 12 = Z at z zs zd ⊢
  have zi : ∀ j, Z (691 + o) j = C (691 + o) j := fun j => z _ _ (fun d hd b hb => by omega)
  rw [zi, zi]
  obtain ⟨C', eC⟩ : ∃ C', C' = sm_up (sm_up (sm_up Z (691 + o) 0 (C (691 + o) 2)) (691 + o) 1 (C (691 + o) 3)) (691 + o) 4 0 := ⟨_, rfl⟩
  rw [← eC]
  have c0 : ∀ a j, a ≠ 691 + o → C' a j = Z a j := fun a j q => by rw [eC, sm_up_x (Or.inl q), sm_up_x (Or.inl q), sm_up_x (Or.inl q)]
  have ci : C' (691 + o) 0 = C (691 + o) 2 ∧ C' (691 + o) 1 = C (691 + o) 3 ∧ C' (691 + o) 2 = C (691 + o) 2 ∧ C' (691 + o) 3 = C (691 + o) 3 ∧ C' (691 + o) 4 = 0 := by
    rw [eC]
    refine ⟨?_, ?_, ?_, ?_, sm_up_s⟩
    · rw [sm_up_n (by decide), sm_up_n (by decide), sm_up_s]
    · rw [sm_up_n (by decide), sm_up_s]
    · rw [sm_up_n (by decide), sm_up_n (by decide), sm_up_n (by decide)]; exact zi 2
    · rw [sm_up_n (by decide), sm_up_n (by decide), sm_up_n (by decide)]; exact zi 3
  obtain ⟨R', eR⟩ : ∃ R', R' = rsE R o := ⟨_, rfl⟩
  rw [← eR]
  unfold rsE at eR
  rw [if_pos hcn] at eR
  have r0 : ∀ a j, a ≠ 706 → a ≠ 707 → a ≠ 710 → R' a j = rst R o true 12 a j := fun a j q1 q2 q3 => by rw [eR, sm_up_x (Or.inl q2), sm_up_x (Or.inl q1), sm_up_x (Or.inl q3)]
  have ri : ∀ p, p < 12 → R' 706 p = (if p = o then R 708 o else R 706 p) ∧ R' 707 p = (if p = o then R 709 o else R 707 p) ∧ R' 710 p = (if p = o then 0 else R 710 p) := fun p hp => by
    rw [eR]
    by_cases e : p = o
    · subst e
      rw [if_pos rfl, if_pos rfl, if_pos rfl]
      refine ⟨?_, sm_up_s, ?_⟩
      · rw [sm_up_x (Or.inl (by decide)), sm_up_s]
      · rw [sm_up_x (Or.inl (by decide)), sm_up_x (Or.inl (by decide)), sm_up_s]
    · rw [if_neg e, if_neg e, if_neg e]
      refine ⟨?_, ?_, ?_⟩
      · rw [sm_up_x (Or.inr e), sm_up_x (Or.inr e), sm_up_x (Or.inr e)]; exact rst_o (by decide) (by decide) (by decide) (by decide) (by decide) 12
      · rw [sm_up_x (Or.inr e), sm_up_x (Or.inr e), sm_up_x (Or.inr e)]; exact rst_o (by decide) (by decide) (by decide) (by decide) (by decide) 12
      · rw [sm_up_x (Or.inr e), sm_up_x (Or.inr e), sm_up_x (Or.inr e)]; exact rst_o (by decide) (by decide) (by decide) (by decide) (by decide) 12
  have r1 : ∀ a j, a ≠ 706 → a ≠ 707 → a ≠ 710 → a ≠ 703 → ¬ (713 ≤ a ∧ a ≤ 716) → R' a j = R a j := fun a j q1 q2 q3 q4 q5 => (r0 a j q1 q2 q3).trans (rst_o q4 (by omega) (by omega) (by omega) (by omega) 12)
  have r3 : ∀ j, j ≠ 0 → R' 703 j = R 703 j := fun j hj => (r0 703 j (by decide) (by decide) (by decide)).trans (rst_3 hj 12)
  have c1 : ∀ a j, ¬ (79 ≤ a) → C' a j = C a j := fun a j q => (c0 a j (by omega)).trans (z a j (fun d hd b hb => by omega))
  have q8 : ∀ d p, d < 12 → p < 12 → R' 713 (12 * d + p) = (if p = o ∧ d < 12 ∧ rsC R o true d = true then R 716 (12 * d + p) else R 713 (12 * d + p)) ∧ R' 714 (12 * d + p) = (if p = o ∧ d < 12 ∧ rsC R o true d = true then R 717 (12 * d + p) else R 714 (12 * d + p)) ∧ (∀ i, i < 240 → R' 715 (240 * (12 * d + p) + i) = (if p = o ∧ d < 12 ∧ rsC R o true d = true then R 718 (240 * (12 * d + p) + i) else R 715 (240 * (12 * d + p) + i))) ∧ R' 716 (12 * d + p) = (if p = o ∧ d < 12 ∧ rlv R d = true then 0 else R 716 (12 * d + p)) := fun d p hd hp => by
    rw [r0 713 _ (by decide) (by decide) (by decide), r0 714 _ (by decide) (by decide) (by decide), r0 716 _ (by decide) (by decide) (by decide)]
    have q := rst_at (R := R) (d := d) (c := true) ho hp 12
    exact ⟨q.1, q.2.1, fun i hi => (r0 715 _ (by decide) (by decide) (by decide)).trans (q.2.2.1 i hi), q.2.2.2⟩
  refine ⟨hw', simA_c hA (c1 _ _ (by omega)) (c1 _ _ (by omega)) (fun i => c1 _ _ (by omega)) (fun i => c1 _ _ (by omega)) (r3 _ (by decide)) (r3 _ (by decide)) (fun i => r1 _ _ (by decide) (by decide) (by decide) (by decide) (by omega)) (fun i => r1 _ _ (by decide) (by decide) (by decide) (by decide) (by omega)),
    fun p hp => ?_, simN_c hN hK (fun n j hn _ => (c0 _ _ (by omega)).trans (z _ _ (fun d hd b hb => by omega))) (fun n hn => ⟨r1 _ _ (by decide) (by decide) (by decide) (by decide) (by omega), r1 _ _ (by decide) (by decide) (by decide) (by decide) (by omega)⟩),
    fun d p hd hp => ?_, fun d p hd hp => ?_, fun p hp => ?_, hC, simM_c hM (fun a j ha => c1 _ _ (by omega)) (fun a j h3 h4 => c1 _ _ (by omega))⟩
  · have g := hI p hp
    have r := ri p hp
    rw [r.1, r.2.1, r.2.2, r1 708 p (by decide) (by decide) (by decide) (by decide) (by omega), r1 709 p (by decide) (by decide) (by decide) (by decide) (by omega)]
    by_cases e : p = o
    · subst e
      rw [ci.1, ci.2.1, ci.2.2.1, ci.2.2.2.1, ci.2.2.2.2, if_pos rfl, if_pos rfl, if_pos rfl]
      exact ⟨g.2.2.1, g.2.2.2.1, g.2.2.1, g.2.2.2.1, rfl⟩
    · have cc : ∀ j, C' (691 + p) j = C (691 + p) j := fun j => (c0 _ _ (by omega)).trans (z _ _ (fun d hd b hb => by omega))
      rw [cc, cc, cc, cc, cc, if_neg e, if_neg e, if_neg e]
      exact g
  · have q := q8 d p hd hp
    have hwd := hw d p
    have hwd' := hw' d p
    rw [c0 _ 0 (by omega), c0 _ 1 (by omega), zs d p 0 hd hp, zs d p 1 hd hp, q.1, q.2.1]
    have cb : ∀ i, C' (82 + 51 * d + 4 * p + 2 * w' d p + 1) i = C (82 + 51 * d + 4 * p + 2 * w' d p + 1) i := fun i => (c0 _ _ (by omega)).trans (z _ _ (fun d hd b hb => by omega))
    by_cases e : p = o ∧ rsC R o true d = true
    · obtain ⟨rfl, hs⟩ := e
      have g := hD d p hd hp
      have ev : R 716 (12 * d + p) = R 708 p := by
        unfold rsC at hs
        simp only [Bool.and_eq_true, Bool.true_and] at hs
        exact of_decide_eq_true hs.2
      have g2 := g.2.2.2 (by rw [ev]; exact (hV p hp).2.2.2.2.2.1 hst)
      have l := ((hC p).2 (R 716 (12 * d + p))).1
      rw [if_pos ⟨rfl, hd, hs⟩, if_pos ⟨rfl, hd, hs⟩]
      have ew := ew1 d hd hs
      rw [ew] at cb ⊢
      refine ⟨g.1, g2.1, g2.2.1, fun i hi => ?_, fun i hi => (cb i).trans (g2.2.2.2 i hi)⟩
      rw [q.2.2.1 i (by omega), if_pos ⟨rfl, hd, hs⟩]
      exact g2.2.2.1 i hi
    · have g := hS d p hd hp
      have l := ((hC p).2 (R 713 (12 * d + p))).1
      have e2 : ¬ (p = o ∧ d < 12 ∧ rsC R o true d = true) := fun z => e ⟨z.1, z.2.2⟩
      rw [if_neg e2, if_neg e2]
      have ew := ew0 d p hd e
      rw [ew] at cb ⊢
      refine ⟨g.1, g.2.1, g.2.2.1, fun i hi => ?_, fun i hi => (cb i).trans (g.2.2.2.2 i hi)⟩
      rw [q.2.2.1 i (by omega), if_neg e2]
      exact g.2.2.2.1 i hi
  · have q := q8 d p hd hp
    have g := hD d p hd hp
    have hwd := hw d p
    have hwd' := hw' d p
    rw [c0 _ 0 (by omega), c0 _ 1 (by omega), zd d p 0 hd hp (by decide), zd d p 1 hd hp (by decide), q.2.2.2, r1 717 _ (by decide) (by decide) (by decide) (by decide) (by omega)]
    by_cases e : p = o ∧ rlv R d = true
    · rw [if_pos e, if_pos e, if_pos ⟨e.1, hd, e.2⟩]
      exact ⟨rfl, by omega, g.2.2.1, fun z => absurd rfl z⟩
    · have e2 : ¬ (p = o ∧ d < 12 ∧ rlv R d = true) := fun z => e ⟨z.1, z.2.2⟩
      rw [if_neg e, if_neg e, if_neg e2]
      have ew := ew0 d p hd (fun z => e ⟨z.1, by have q2 := z.2; unfold rsC at q2; rw [Bool.and_eq_true] at q2; exact q2.1⟩)
      rw [ew]
      exact ⟨g.1, g.2.1, g.2.2.1, fun y => ⟨(g.2.2.2 y).1, (g.2.2.2 y).2.1, simP_c (g.2.2.2 y).2.2 (fun i _ => (c0 _ _ (by omega)).trans (z _ _ (fun d hd b hb => by omega))) (fun i _ => r1 _ _ (by decide) (by decide) (by decide) (by decide) (by omega))⟩⟩
  · have g := hV p hp
    have r := ri p hp
    rw [r.1, r.2.1, r.2.2, r1 708 p (by decide) (by decide) (by decide) (by decide) (by omega), r1 709 p (by decide) (by decide) (by decide) (by decide) (by omega)]
    have hq : ∀ d, d < 12 → R' 713 (12 * d + p) ≤ R 708 p ∧ R' 716 (12 * d + p) ≤ R 708 p := fun d hd => by
      have q := q8 d p hd hp
      have g2 := g.2.2.2.2.2.2 d hd
      rw [q.1, q.2.2.2]
      refine ⟨?_, ?_⟩
      · split
        · exact g2.2
        · exact g2.1
      · split
        · exact Nat.zero_le _
        · exact g2.2
    by_cases e : p = o
    · subst e
      rw [if_pos rfl, if_pos rfl, if_pos rfl]
      exact ⟨Nat.le_refl _, by omega, g.2.2.2.1, g.2.2.2.1, (by decide), fun z => absurd rfl z, hq⟩
    · rw [if_neg e, if_neg e, if_neg e]
      exact ⟨g.1, by omega, g.2.2.1, g.2.2.2.1, g.2.2.2.2.1, g.2.2.2.2.2.1, hq⟩

theorem sim_settle0 (h : sim C R w CT LN K) (hK : K ≤ K') (ho : o < 12) (hcn : rcn R o 12 = false) : sim (sm_up (sds C w o 12) (691 + o) 4 0) (rsE R o) w CT LN K' := by
  have hsl : ∀ d, d < 12 → slv C d = rlv R d := fun d hd => sim_slv h hd
  obtain ⟨hw, hA, hI, hN, hS, hD, hV, hC, hM⟩ := h
  have z : ∀ a j, (∀ d, d < 12 → ∀ b, b < 2 → a ≠ 82 + 51 * d + 4 * o + 2 * b) → sds C w o 12 a j = C a j := fun a j q => sds_b q
  have zs : ∀ d p j, d < 12 → p < 12 → sds C w o 12 (82 + 51 * d + 4 * p + 2 * w d p) j = C (82 + 51 * d + 4 * p + 2 * w d p) j := fun d p j hd hp => sds_s hw ho hp hd
  have zd : ∀ d p j, d < 12 → p < 12 → j < 2 → sds C w o 12 (82 + 51 * d + 4 * p + 2 * (1 - w d p)) j = if p = o ∧ rlv R d = true then 0 else C (82 + 51 * d + 4 * p + 2 * (1 - w d p)) j := fun d p j hd hp hj => by
    rw [sds_d hw ho hp hd hj, hsl d hd]
  have hw' := hw
  have ew0 : ∀ d p, d < 12 → ¬ (p = o ∧ rsC R o false d = true) → w d p = w d p := fun _ _ _ _ => rfl
  have ns : ∀ d, rsC R o false d = false := fun d => by unfold rsC; rw [Bool.false_and, Bool.and_false]
  generalize sds C w o 12 = Z at z zs zd ⊢
  have zi : ∀ j, Z (691 + o) j = C (691 + o) j := fun j => z _ _ (fun d hd b hb => by omega)
  obtain ⟨C', eC⟩ : ∃ C', C' = sm_up Z (691 + o) 4 0 := ⟨_, rfl⟩
  rw [← eC]
  have c0 : ∀ a j, a ≠ 691 + o → C' a j = Z a j := fun a j q => by rw [eC, sm_up_x (Or.inl q)]
  have ci : C' (691 + o) 0 = C (691 + o) 0 ∧ C' (691 + o) 1 = C (691 + o) 1 ∧ C' (691 + o) 2 = C (691 + o) 2 ∧ C' (691 + o) 3 = C (691 + o) 3 ∧ C' (691 + o) 4 = 0 := by
    rw [eC]
    refine ⟨?_, ?_, ?_, ?_, sm_up_s⟩ <;> rw [sm_up_n (by decide)] <;> exact zi _
  obtain ⟨R', eR⟩ : ∃ R', R' = rsE R o := ⟨_, rfl⟩
  rw [← eR]
  unfold rsE at eR
  rw [if_neg (by rw [hcn]; decide)] at eR
  have r0 : ∀ a j, a ≠ 706 → a ≠ 707 → a ≠ 710 → R' a j = rst R o false 12 a j := fun a j q1 q2 q3 => by rw [eR, sm_up_x (Or.inl q3)]
  have ri : ∀ p, p < 12 → R' 706 p = R 706 p ∧ R' 707 p = R 707 p ∧ R' 710 p = (if p = o then 0 else R 710 p) := fun p hp => by
    rw [eR]
    refine ⟨(sm_up_x (Or.inl (by decide))).trans (rst_o (by decide) (by decide) (by decide) (by decide) (by decide) 12), (sm_up_x (Or.inl (by decide))).trans (rst_o (by decide) (by decide) (by decide) (by decide) (by decide) 12), ?_⟩
    by_cases e : p = o
    · subst e; rw [if_pos rfl, sm_up_s]
    · rw [if_neg e, sm_up_x (Or.inr e)]; exact rst_o (by decide) (by decide) (by decide) (by decide) (by decide) 12
  have r1 : ∀ a j, a ≠ 706 → a ≠ 707 → a ≠ 710 → a ≠ 703 → ¬ (713 ≤ a ∧ a ≤ 716) → R' a j = R a j := fun a j q1 q2 q3 q4 q5 => (r0 a j q1 q2 q3).trans (rst_o q4 (by omega) (by omega) (by omega) (by omega) 12)
  have r3 : ∀ j, j ≠ 0 → R' 703 j = R 703 j := fun j hj => (r0 703 j (by decide) (by decide) (by decide)).trans (rst_3 hj 12)
  have c1 : ∀ a j, ¬ (79 ≤ a) → C' a j = C a j := fun a j q => (c0 a j (by omega)).trans (z a j (fun d hd b hb => by omega))
  have q8 : ∀ d p, d < 12 → p < 12 → R' 713 (12 * d + p) = (if p = o ∧ d < 12 ∧ rsC R o false d = true then R 716 (12 * d + p) else R 713 (12 * d + p)) ∧ R' 714 (12 * d + p) = (if p = o ∧ d < 12 ∧ rsC R o false d = true then R 717 (12 * d + p) else R 714 (12 * d + p)) ∧ (∀ i, i < 240 → R' 715 (240 * (12 * d + p) + i) = (if p = o ∧ d < 12 ∧ rsC R o false d = true then R 718 (240 * (12 * d + p) + i) else R 715 (240 * (12 * d + p) + i))) ∧ R' 716 (12 * d + p) = (if p = o ∧ d < 12 ∧ rlv R d = true then 0 else R 716 (12 * d + p)) := fun d p hd hp => by
    rw [r0 713 _ (by decide) (by decide) (by decide), r0 714 _ (by decide) (by decide) (by decide), r0 716 _ (by decide) (by decide) (by decide)]
    have q := rst_at (R := R) (d := d) (c := false) ho hp 12
    exact ⟨q.1, q.2.1, fun i hi => (r0 715 _ (by decide) (by decide) (by decide)).trans (q.2.2.1 i hi), q.2.2.2⟩
  refine ⟨hw', simA_c hA (c1 _ _ (by omega)) (c1 _ _ (by omega)) (fun i => c1 _ _ (by omega)) (fun i => c1 _ _ (by omega)) (r3 _ (by decide)) (r3 _ (by decide)) (fun i => r1 _ _ (by decide) (by decide) (by decide) (by decide) (by omega)) (fun i => r1 _ _ (by decide) (by decide) (by decide) (by decide) (by omega)),
    fun p hp => ?_, simN_c hN hK (fun n j hn _ => (c0 _ _ (by omega)).trans (z _ _ (fun d hd b hb => by omega))) (fun n hn => ⟨r1 _ _ (by decide) (by decide) (by decide) (by decide) (by omega), r1 _ _ (by decide) (by decide) (by decide) (by decide) (by omega)⟩),
    fun d p hd hp => ?_, fun d p hd hp => ?_, fun p hp => ?_, hC, simM_c hM (fun a j ha => c1 _ _ (by omega)) (fun a j h3 h4 => c1 _ _ (by omega))⟩
  · have g := hI p hp
    have r := ri p hp
    rw [r.1, r.2.1, r.2.2, r1 708 p (by decide) (by decide) (by decide) (by decide) (by omega), r1 709 p (by decide) (by decide) (by decide) (by decide) (by omega)]
    by_cases e : p = o
    · subst e
      rw [ci.1, ci.2.1, ci.2.2.1, ci.2.2.2.1, ci.2.2.2.2, if_pos rfl]
      exact ⟨g.1, g.2.1, g.2.2.1, g.2.2.2.1, rfl⟩
    · have cc : ∀ j, C' (691 + p) j = C (691 + p) j := fun j => (c0 _ _ (by omega)).trans (z _ _ (fun d hd b hb => by omega))
      rw [cc, cc, cc, cc, cc, if_neg e]
      exact g
  · have q := q8 d p hd hp
    have hwd := hw d p
    have hwd' := hw' d p
    rw [c0 _ 0 (by omega), c0 _ 1 (by omega), zs d p 0 hd hp, zs d p 1 hd hp, q.1, q.2.1]
    have cb : ∀ i, C' (82 + 51 * d + 4 * p + 2 * w d p + 1) i = C (82 + 51 * d + 4 * p + 2 * w d p + 1) i := fun i => (c0 _ _ (by omega)).trans (z _ _ (fun d hd b hb => by omega))
    by_cases e : p = o ∧ rsC R o false d = true
    · rw [ns] at e; exact absurd e.2 (by decide)
    · have g := hS d p hd hp
      have l := ((hC p).2 (R 713 (12 * d + p))).1
      have e2 : ¬ (p = o ∧ d < 12 ∧ rsC R o false d = true) := fun z => e ⟨z.1, z.2.2⟩
      rw [if_neg e2, if_neg e2]
      have ew := ew0 d p hd e
      rw [ew] at cb ⊢
      refine ⟨g.1, g.2.1, g.2.2.1, fun i hi => ?_, fun i hi => (cb i).trans (g.2.2.2.2 i hi)⟩
      rw [q.2.2.1 i (by omega), if_neg e2]
      exact g.2.2.2.1 i hi
  · have q := q8 d p hd hp
    have g := hD d p hd hp
    have hwd := hw d p
    have hwd' := hw' d p
    rw [c0 _ 0 (by omega), c0 _ 1 (by omega), zd d p 0 hd hp (by decide), zd d p 1 hd hp (by decide), q.2.2.2, r1 717 _ (by decide) (by decide) (by decide) (by decide) (by omega)]
    by_cases e : p = o ∧ rlv R d = true
    · rw [if_pos e, if_pos e, if_pos ⟨e.1, hd, e.2⟩]
      exact ⟨rfl, by omega, g.2.2.1, fun z => absurd rfl z⟩
    · have e2 : ¬ (p = o ∧ d < 12 ∧ rlv R d = true) := fun z => e ⟨z.1, z.2.2⟩
      rw [if_neg e, if_neg e, if_neg e2]
      have ew := ew0 d p hd (fun z => e ⟨z.1, by have q2 := z.2; unfold rsC at q2; rw [Bool.and_eq_true] at q2; exact q2.1⟩)
      rw [ew]
      exact ⟨g.1, g.2.1, g.2.2.1, fun y => ⟨(g.2.2.2 y).1, (g.2.2.2 y).2.1, simP_c (g.2.2.2 y).2.2 (fun i _ => (c0 _ _ (by omega)).trans (z _ _ (fun d hd b hb => by omega))) (fun i _ => r1 _ _ (by decide) (by decide) (by decide) (by decide) (by omega))⟩⟩
  · have g := hV p hp
    have r := ri p hp
    rw [r.1, r.2.1, r.2.2, r1 708 p (by decide) (by decide) (by decide) (by decide) (by omega), r1 709 p (by decide) (by decide) (by decide) (by decide) (by omega)]
    have hq : ∀ d, d < 12 → R' 713 (12 * d + p) ≤ R 708 p ∧ R' 716 (12 * d + p) ≤ R 708 p := fun d hd => by
      have q := q8 d p hd hp
      have g2 := g.2.2.2.2.2.2 d hd
      rw [q.1, q.2.2.2]
      refine ⟨?_, ?_⟩
      · split
        · exact g2.2
        · exact g2.1
      · split
        · exact Nat.zero_le _
        · exact g2.2
    by_cases e : p = o
    · subst e
      rw [if_pos rfl]
      exact ⟨g.1, by omega, g.2.2.1, g.2.2.2.1, (by decide), fun z => absurd rfl z, hq⟩
    · rw [if_neg e]
      exact ⟨g.1, by omega, g.2.2.1, g.2.2.2.1, g.2.2.2.2.1, g.2.2.2.2.2.1, hq⟩

end
