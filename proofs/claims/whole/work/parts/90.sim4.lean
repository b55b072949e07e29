/-! The relation is kept: settle -/
theorem rsn_at {Z : sm_X} {d o : Nat} : rsn Z d o 713 (12 * d + o) = Z 716 (12 * d + o) ∧ rsn Z d o 714 (12 * d + o) = Z 717 (12 * d + o) ∧ (∀ i, i < 240 → rsn Z d o 715 (240 * (12 * d + o) + i) = Z 718 (240 * (12 * d + o) + i)) ∧ rsn Z d o 716 (12 * d + o) = 0 := by
  unfold rsn
  refine ⟨?_, ?_, fun i hi => ?_, sm_up_s⟩
  · rw [sm_up_x (Or.inl (by decide)), sm_uf_o (by decide), sm_up_x (Or.inl (by decide)), sm_up_s]
  · rw [sm_up_x (Or.inl (by decide)), sm_uf_o (by decide), sm_up_s]
  · rw [sm_up_x (Or.inl (by decide)), sm_uf_s, blk_in hi]
theorem rsn_ne {Z : sm_X} {d o c : Nat} (h : c ≠ 12 * d + o) : rsn Z d o 713 c = Z 713 c ∧ rsn Z d o 714 c = Z 714 c ∧ (∀ i, i < 240 → rsn Z d o 715 (240 * c + i) = Z 715 (240 * c + i)) ∧ rsn Z d o 716 c = Z 716 c := by
  unfold rsn
  refine ⟨?_, ?_, fun i hi => ?_, ?_⟩
  · rw [sm_up_x (Or.inl (by decide)), sm_uf_o (by decide), sm_up_x (Or.inl (by decide)), sm_up_n h]
  · rw [sm_up_x (Or.inl (by decide)), sm_uf_o (by decide), sm_up_n h, sm_up_x (Or.inl (by decide))]
  · rw [sm_up_x (Or.inl (by decide)), sm_uf_s, blk_out (by omega)]
  · rw [sm_up_n h, sm_uf_o (by decide), sm_up_x (Or.inl (by decide)), sm_up_x (Or.inl (by decide))]
def rsC (R : sm_X) (o : Nat) (c : Bool) (d : Nat) : Bool := rlv R d && (c && decide (R 716 (12 * d + o) = R 708 o))
/-- what settling leaves of the node d's share and shadow of the object p -/
theorem rst_at {R : sm_X} {o d p : Nat} {c : Bool} (ho : o < 12) (hp : p < 12) : ∀ k,
    rst R o c k 713 (12 * d + p) = (if p = o ∧ d < k ∧ rsC R o c d = true then R 716 (12 * d + p) else R 713 (12 * d + p)) ∧
    rst R o c k 714 (12 * d + p) = (if p = o ∧ d < k ∧ rsC R o c d = true then R 717 (12 * d + p) else R 714 (12 * d + p)) ∧
    (∀ i, i < 240 → rst R o c k 715 (240 * (12 * d + p) + i) = (if p = o ∧ d < k ∧ rsC R o c d = true then R 718 (240 * (12 * d + p) + i) else R 715 (240 * (12 * d + p) + i))) ∧
    rst R o c k 716 (12 * d + p) = (if p = o ∧ d < k ∧ rlv R d = true then 0 else R 716 (12 * d + p))
  | 0 => by
    rw [if_neg (by omega), if_neg (by omega), if_neg (by omega)]
    refine ⟨sm_up_x (Or.inl (by decide)), sm_up_x (Or.inl (by decide)), fun i hi => ?_, sm_up_x (Or.inl (by decide))⟩
    rw [if_neg (by omega)]
    exact sm_up_x (Or.inl (by decide))
  | k + 1 => by
    have ih := rst_at (R := R) (d := d) (c := c) ho hp k
    have e : rst R o c (k + 1) = if rlv R k = true then sm_up (if (c && decide (R 716 (12 * k + o) = R 708 o)) = true then rsn (rst R o c k) k o else rst R o c k) 716 (12 * k + o) 0 else rst R o c k := rfl
    rw [e]
    by_cases e1 : p = o ∧ d = k
    · obtain ⟨rfl, rfl⟩ := e1
      rw [if_neg (by omega), if_neg (by omega), if_neg (by omega)] at ih
      have h6 := rst_6 (X := R) (o := p) (c := c) (d := d) d (Nat.le_refl d)
      have h7 : rst R p c d 717 (12 * d + p) = R 717 (12 * d + p) := rst_o (by decide) (by decide) (by decide) (by decide) (by decide) d
      by_cases hl : rlv R d = true
      · rw [if_pos hl]
        by_cases hc : (c && decide (R 716 (12 * d + p) = R 708 p)) = true
        · have hs : rsC R p c d = true := by unfold rsC; rw [hl, hc]; rfl
          have q := rsn_at (Z := rst R p c d) (d := d) (o := p)
          rw [if_pos hc, if_pos ⟨rfl, by omega, hs⟩, if_pos ⟨rfl, by omega, hs⟩, if_pos ⟨rfl, by omega, hl⟩]
          refine ⟨(sm_up_x (Or.inl (by decide))).trans (q.1.trans h6), (sm_up_x (Or.inl (by decide))).trans (q.2.1.trans h7), fun i hi => ?_, sm_up_s⟩
          rw [if_pos ⟨rfl, by omega, hs⟩]
          exact (sm_up_x (Or.inl (by decide))).trans ((q.2.2.1 i hi).trans (rst_o (by decide) (by decide) (by decide) (by decide) (by decide) d))
        · have hs : ¬ rsC R p c d = true := by unfold rsC; rw [hl, Bool.true_and]; exact hc
          rw [if_neg hc, if_neg (fun q => hs q.2.2), if_neg (fun q => hs q.2.2), if_pos ⟨rfl, by omega, hl⟩]
          refine ⟨(sm_up_x (Or.inl (by decide))).trans ih.1, (sm_up_x (Or.inl (by decide))).trans ih.2.1, fun i hi => ?_, sm_up_s⟩
          have q := ih.2.2.1 i hi
          rw [if_neg (by omega)] at q
          rw [if_neg (fun q => hs q.2.2)]
          exact (sm_up_x (Or.inl (by decide))).trans q
      · have hs : ¬ rsC R p c d = true := by unfold rsC; rw [Bool.and_eq_true]; exact fun q => hl q.1
        rw [if_neg hl, if_neg (fun q => hs q.2.2), if_neg (fun q => hs q.2.2), if_neg (fun q => hl q.2.2)]
        refine ⟨ih.1, ih.2.1, fun i hi => ?_, ih.2.2.2⟩
        have q := ih.2.2.1 i hi
        rw [if_neg (by omega)] at q
        rw [if_neg (fun q => hs q.2.2)]
        exact q
    · have hne : 12 * d + p ≠ 12 * k + o := by omega
      have ec : ∀ (b : Bool) (x y : Nat), (if p = o ∧ d < k + 1 ∧ b = true then x else y) = if p = o ∧ d < k ∧ b = true then x else y := fun b x y => by
        by_cases e3 : p = o ∧ d < k ∧ b = true
        · rw [if_pos e3, if_pos ⟨e3.1, by omega, e3.2.2⟩]
        · rw [if_neg e3, if_neg (fun q => e3 ⟨q.1, by omega, q.2.2⟩)]
      rw [ec, ec, ec]
      have key : ∀ Z : sm_X, Z = rst R o c k ∨ Z = rsn (rst R o c k) k o → Z 713 (12 * d + p) = rst R o c k 713 (12 * d + p) ∧ Z 714 (12 * d + p) = rst R o c k 714 (12 * d + p) ∧ (∀ i, i < 240 → Z 715 (240 * (12 * d + p) + i) = rst R o c k 715 (240 * (12 * d + p) + i)) ∧ Z 716 (12 * d + p) = rst R o c k 716 (12 * d + p) := by
        rintro Z (rfl | rfl)
        · exact ⟨rfl, rfl, fun _ _ => rfl, rfl⟩
        · exact rsn_ne hne
      split
      · have q := key (if (c && decide (R 716 (12 * k + o) = R 708 o)) = true then rsn (rst R o c k) k o else rst R o c k) (by split; exact Or.inr rfl; exact Or.inl rfl)
        refine ⟨(sm_up_x (Or.inl (by decide))).trans (q.1.trans ih.1), (sm_up_x (Or.inl (by decide))).trans (q.2.1.trans ih.2.1), fun i hi => ?_, (sm_up_x (Or.inr hne)).trans (q.2.2.2.trans ih.2.2.2)⟩
        rw [ec]
        exact (sm_up_x (Or.inl (by decide))).trans ((q.2.2.1 i hi).trans (ih.2.2.1 i hi))
      · refine ⟨ih.1, ih.2.1, fun i hi => ?_, ih.2.2.2⟩
        rw [ec]
        exact ih.2.2.1 i hi
section
variable {C R C' R' : sm_X} {w : Nat → Nat → Nat} {CT : Nat → Nat → Nat → Nat} {LN : Nat → Nat → Nat} {K K' o : Nat} {T : Nat → Bool}
theorem sim_rcn (h : sim C R w CT LN K) (ho : o < 12) : ∀ k, k ≤ 12 → sm_any (shs C w o (C (691 + o) 2)) k = rcn R o k
  | 0, _ => rfl
  | k + 1, hk => by
    rw [sm_any_s, sim_rcn h ho k (by omega)]
    show (rcn R o k || decide (C (82 + 51 * k + 4 * o + 2 * w k o) 0 = C (691 + o) 2)) = (rcn R o k || decide (R 713 (12 * k + o) = R 708 o))
    rw [(h.2.2.2.2.1 k o (by omega) ho).1, (h.2.2.1 o ho).2.2.1]
theorem sim_stT (h : sim C R w CT LN K) (ho : o < 12) {d : Nat} (hd : d < 12) : stT C w o 12 d = rsC R o true d := by
  have hl := sm_n_le (stp C w o) d
  unfold stT stp rsC
  rw [show (fun k => slv C k && decide (C (82 + 51 * k + 4 * o + 2 * (1 - w k o)) 0 = C (691 + o) 2)) = stp C w o from rfl, decide_eq_true (show sm_n (stp C w o) d < 12 by omega), Bool.and_true, sim_slv h hd, (h.2.2.2.2.2.1 d o hd ho).1, (h.2.2.1 o ho).2.2.1, Bool.true_and]
theorem stX_s (hw : ∀ n o, w n o < 2) {d p j : Nat} (ho : o < 12) (hp : p < 12) (hd : d < 12) : stX T C w o 12 (82 + 51 * d + 4 * p + 2 * stW T w o 12 d p) j = C (82 + 51 * d + 4 * p + 2 * stW T w o 12 d p) j := by
  have h1 := hw d p
  have h2 := stW_lt (T := T) (o := o) (k := 12) hw d p
  have e0 : (82 + 51 * d + 4 * p + 2 * stW T w o 12 d p - 79) / 51 = d := by omega
  refine stX_o ?_
  rw [e0]
  rintro ⟨q1, q2, q3, q4⟩
  have h3 := hw d o
  have e1 : p = o := by omega
  subst e1
  have e2 : stW T w p 12 d p = 1 - w d p := if_pos ⟨rfl, hd, q2⟩
  omega
theorem stX_d (hw : ∀ n o, w n o < 2) {d p j : Nat} (hp : p < 12) (hd : d < 12) (hj : j < 2) : stX T C w o 12 (82 + 51 * d + 4 * p + 2 * (1 - stW T w o 12 d p)) j = if p = o ∧ T d = true then 0 else C (82 + 51 * d + 4 * p + 2 * (1 - stW T w o 12 d p)) j := by
  have h1 := hw d p
  by_cases e : p = o ∧ T d = true
  · obtain ⟨rfl, hT⟩ := e
    have e2 : stW T w p 12 d p = 1 - w d p := if_pos ⟨rfl, hd, hT⟩
    have e0 : (82 + 51 * d + 4 * p + 2 * (1 - stW T w p 12 d p) - 79) / 51 = d := by omega
    rw [if_pos ⟨rfl, hT⟩]
    unfold stX
    rw [e0]
    exact if_pos ⟨hd, hT, by omega, hj⟩
  · rw [if_neg e]
    have h2 := stW_lt (T := T) (o := o) (k := 12) hw d p
    have e0 : (82 + 51 * d + 4 * p + 2 * (1 - stW T w o 12 d p) - 79) / 51 = d := by omega
    refine stX_o ?_
    rw [e0]
    rintro ⟨q1, q2, q3, q4⟩
    have h3 := hw d o
    exact e ⟨by omega, q2⟩
theorem stX_b {a j : Nat} (h : ∀ d, d < 12 → ∀ b, b < 2 → a ≠ 82 + 51 * d + 4 * o + 2 * b) (hw : ∀ n o, w n o < 2) : stX T C w o 12 a j = C a j := by
  refine stX_o ?_
  rintro ⟨q1, q2, q3, q4⟩
  exact h _ q1 _ (hw _ _) q3
theorem sds_b {a j : Nat} (h : ∀ d, d < 12 → ∀ b, b < 2 → a ≠ 82 + 51 * d + 4 * o + 2 * b) : sds C w o 12 a j = C a j := by
  refine sds_o ?_
  rintro ⟨q1, q2, q3, q4⟩
  exact h _ q1 _ (by omega) q3
theorem sds_s (hw : ∀ n o, w n o < 2) {d p j : Nat} (ho : o < 12) (hp : p < 12) (hd : d < 12) : sds C w o 12 (82 + 51 * d + 4 * p + 2 * w d p) j = C (82 + 51 * d + 4 * p + 2 * w d p) j := by
  have h1 := hw d p
  have e0 : (82 + 51 * d + 4 * p + 2 * w d p - 79) / 51 = d := by omega
  refine sds_o ?_
  rw [e0]
  rintro ⟨q1, q2, q3, q4⟩
  have h3 := hw d o
  have e1 : p = o := by omega
  subst e1
  omega
theorem sds_d (hw : ∀ n o, w n o < 2) {d p j : Nat} (ho : o < 12) (hp : p < 12) (hd : d < 12) (hj : j < 2) : sds C w o 12 (82 + 51 * d + 4 * p + 2 * (1 - w d p)) j = if p = o ∧ slv C d = true then 0 else C (82 + 51 * d + 4 * p + 2 * (1 - w d p)) j := by
  have h1 := hw d p
  have e0 : (82 + 51 * d + 4 * p + 2 * (1 - w d p) - 79) / 51 = d := by omega
  by_cases e : p = o ∧ slv C d = true
  · obtain ⟨rfl, hT⟩ := e
    rw [if_pos ⟨rfl, hT⟩]
    unfold sds
    rw [e0]
    exact if_pos ⟨hd, hT, rfl, hj⟩
  · rw [if_neg e]
    refine sds_o ?_
    rw [e0]
    rintro ⟨q1, q2, q3, q4⟩
    have h3 := hw d o
    exact e ⟨by omega, q2⟩
end
