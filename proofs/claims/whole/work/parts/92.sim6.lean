/-! The relation is kept: put; first what the messages leave -/
theorem sm_up_e {X : sm_X} {c j v a k : Nat} (h1 : a = c) (h2 : k = j) : sm_up X c j v a k = v := if_pos ⟨h1, h2⟩
theorem mf_at {X : sm_X} {n r j : Nat} (hr : r < 64) (hj : j < 8) : ∀ Q, Q ≤ 240 → mf X n Q (6 + r) j = if mx_i (r % 8) j < 30 ∧ 30 * (r / 8) + mx_i (r % 8) j < Q then mv X n (30 * (r / 8) + mx_i (r % 8) j) else X (6 + r) j
  | 0, _ => by rw [if_neg (by omega)]; rfl
  | Q + 1, hQ => by
    have ih := mf_at (X := X) (n := n) hr hj Q (by omega)
    have hm := mx_rc (Q % 30) (Nat.mod_lt _ (by decide))
    have hin := mx_in (r % 8) (Nat.mod_lt _ (by decide)) j hj
    show sm_up (sm_up (mf X n Q) (6 + (8 * (Q / 30) + sm_row (Q % 30))) (sm_col (Q % 30)) (mv X n Q)) (6 + (8 * (Q / 30) + sm_col (Q % 30))) (sm_row (Q % 30)) (mv X n Q) (6 + r) j = _
    by_cases e : mx_i (r % 8) j < 30 ∧ 30 * (r / 8) + mx_i (r % 8) j = Q
    · rw [if_pos (by omega), e.2]
      have e1 : mx_i (r % 8) j = Q % 30 := by omega
      rw [e1] at hin
      by_cases e2 : r = 8 * (Q / 30) + sm_col (Q % 30) ∧ j = sm_row (Q % 30)
      · exact sm_up_e (by omega) e2.2
      · rw [sm_up_x (by omega)]
        have e3 : r = 8 * (Q / 30) + sm_row (Q % 30) ∧ j = sm_col (Q % 30) := by omega
        exact sm_up_e (by omega) e3.2
    · have e2 : ¬ (r = 8 * (Q / 30) + sm_col (Q % 30) ∧ j = sm_row (Q % 30)) := fun q => e (by
        have e3 : r % 8 = sm_col (Q % 30) := by omega
        rw [e3, q.2, hm.2.2.2.2]
        omega)
      have e4 : ¬ (r = 8 * (Q / 30) + sm_row (Q % 30) ∧ j = sm_col (Q % 30)) := fun q => e (by
        have e3 : r % 8 = sm_row (Q % 30) := by omega
        rw [e3, q.2, hm.2.2.2.1]
        omega)
      rw [sm_up_x (by omega), sm_up_x (by omega), ih]
      by_cases e5 : mx_i (r % 8) j < 30 ∧ 30 * (r / 8) + mx_i (r % 8) j < Q
      · rw [if_pos e5, if_pos (by omega)]
      · rw [if_neg e5, if_neg (by omega)]
theorem rcs_at {Z : sm_X} {d o n : Nat} : rcs Z d o n 716 (12 * d + o) = Z 708 o ∧ rcs Z d o n 717 (12 * d + o) = n ∧ ∀ i, i < 240 → rcs Z d o n 718 (240 * (12 * d + o) + i) = if i < n then Z 704 i else 0 := by
  unfold rcs
  refine ⟨?_, ?_, fun i hi => ?_⟩
  · rw [sm_uf_o (by decide), sm_up_x (Or.inl (by decide)), sm_up_s]
  · rw [sm_uf_o (by decide), sm_up_s]
  · rw [sm_uf_s, blk_in hi]
theorem rcs_ne {Z : sm_X} {d o n c : Nat} (h : c ≠ 12 * d + o) : rcs Z d o n 716 c = Z 716 c ∧ rcs Z d o n 717 c = Z 717 c ∧ ∀ i, i < 240 → rcs Z d o n 718 (240 * c + i) = Z 718 (240 * c + i) := by
  unfold rcs
  refine ⟨?_, ?_, fun i hi => ?_⟩
  · rw [sm_uf_o (by decide), sm_up_x (Or.inl (by decide)), sm_up_n h]
  · rw [sm_uf_o (by decide), sm_up_n h, sm_up_x (Or.inl (by decide))]
  · rw [sm_uf_s, blk_out (by omega)]
theorem rq1_at {Z : sm_X} {o n d p : Nat} {T : Nat → Bool} (ho : o < 12) (hp : p < 12) : ∀ k,
    rq1 T Z o n k 716 (12 * d + p) = (if p = o ∧ d < k ∧ T d = true then Z 708 o else Z 716 (12 * d + p)) ∧
    rq1 T Z o n k 717 (12 * d + p) = (if p = o ∧ d < k ∧ T d = true then n else Z 717 (12 * d + p)) ∧
    ∀ i, i < 240 → rq1 T Z o n k 718 (240 * (12 * d + p) + i) = (if p = o ∧ d < k ∧ T d = true then (if i < n then Z 704 i else 0) else Z 718 (240 * (12 * d + p) + i))
  | 0 => by
    rw [if_neg (by omega), if_neg (by omega)]
    exact ⟨rfl, rfl, fun i hi => by rw [if_neg (by omega)]; rfl⟩
  | k + 1 => by
    have ih := rq1_at (Z := Z) (n := n) (d := d) (T := T) ho hp k
    have e : rq1 T Z o n (k + 1) = if T k = true then rcs (rq1 T Z o n k) k o n else rq1 T Z o n k := rfl
    rw [e]
    by_cases e1 : p = o ∧ d = k
    · obtain ⟨rfl, rfl⟩ := e1
      by_cases hT : T d = true
      · have q := rcs_at (Z := rq1 T Z p n d) (d := d) (o := p) (n := n)
        rw [if_pos hT, if_pos ⟨rfl, by omega, hT⟩, if_pos ⟨rfl, by omega, hT⟩]
        refine ⟨q.1.trans (rq1_o (by decide) (by decide) (by decide) d), q.2.1, fun i hi => ?_⟩
        rw [if_pos ⟨rfl, by omega, hT⟩, q.2.2 i hi, rq1_o (by decide) (by decide) (by decide) d]
      · rw [if_neg hT, if_neg (fun q => hT q.2.2), if_neg (fun q => hT q.2.2)]
        rw [if_neg (by omega), if_neg (by omega)] at ih
        refine ⟨ih.1, ih.2.1, fun i hi => ?_⟩
        rw [if_neg (fun q => hT q.2.2), ih.2.2 i hi, if_neg (by omega)]
    · have hne : 12 * d + p ≠ 12 * k + o := by omega
      have ec : ∀ (b : Bool) (x y : Nat), (if p = o ∧ d < k + 1 ∧ b = true then x else y) = if p = o ∧ d < k ∧ b = true then x else y := fun b x y => by
        by_cases e3 : p = o ∧ d < k ∧ b = true
        · rw [if_pos e3, if_pos ⟨e3.1, by omega, e3.2.2⟩]
        · rw [if_neg e3, if_neg (fun q => e3 ⟨q.1, by omega, q.2.2⟩)]
      rw [ec, ec]
      split
      · have q := rcs_ne (Z := rq1 T Z o n k) (n := n) hne
        refine ⟨q.1.trans ih.1, q.2.1.trans ih.2.1, fun i hi => ?_⟩
        rw [ec]; exact (q.2.2 i hi).trans (ih.2.2 i hi)
      · refine ⟨ih.1, ih.2.1, fun i hi => ?_⟩
        rw [ec]; exact ih.2.2 i hi
theorem rq2_at {Z : sm_X} {o d p : Nat} {T : Nat → Bool} (ho : o < 12) (hp : p < 12) : ∀ k,
    rq2 T Z o k 713 (12 * d + p) = (if p = o ∧ d < k ∧ T d = true then Z 716 (12 * d + p) else Z 713 (12 * d + p)) ∧
    rq2 T Z o k 714 (12 * d + p) = (if p = o ∧ d < k ∧ T d = true then Z 717 (12 * d + p) else Z 714 (12 * d + p)) ∧
    (∀ i, i < 240 → rq2 T Z o k 715 (240 * (12 * d + p) + i) = (if p = o ∧ d < k ∧ T d = true then Z 718 (240 * (12 * d + p) + i) else Z 715 (240 * (12 * d + p) + i))) ∧
    rq2 T Z o k 716 (12 * d + p) = (if p = o ∧ d < k ∧ T d = true then 0 else Z 716 (12 * d + p))
  | 0 => by
    rw [if_neg (by omega), if_neg (by omega), if_neg (by omega)]
    exact ⟨rfl, rfl, fun i hi => by rw [if_neg (by omega)]; rfl, rfl⟩
  | k + 1 => by
    have ih := rq2_at (Z := Z) (d := d) (T := T) ho hp k
    have e : rq2 T Z o (k + 1) = if T k = true then rsn (rq2 T Z o k) k o else rq2 T Z o k := rfl
    rw [e]
    by_cases e1 : p = o ∧ d = k
    · obtain ⟨rfl, rfl⟩ := e1
      rw [if_neg (by omega), if_neg (by omega), if_neg (by omega)] at ih
      by_cases hT : T d = true
      · have q := rsn_at (Z := rq2 T Z p d) (d := d) (o := p)
        rw [if_pos hT, if_pos ⟨rfl, by omega, hT⟩, if_pos ⟨rfl, by omega, hT⟩, if_pos ⟨rfl, by omega, hT⟩]
        refine ⟨q.1.trans ih.2.2.2, q.2.1.trans (rq2_o (by decide) (by decide) (by decide) (by decide) d), fun i hi => ?_, q.2.2.2⟩
        rw [if_pos ⟨rfl, by omega, hT⟩, q.2.2.1 i hi, rq2_o (by decide) (by decide) (by decide) (by decide) d]
      · rw [if_neg hT, if_neg (fun q => hT q.2.2), if_neg (fun q => hT q.2.2), if_neg (fun q => hT q.2.2)]
        refine ⟨ih.1, ih.2.1, fun i hi => ?_, ih.2.2.2⟩
        rw [if_neg (fun q => hT q.2.2), ih.2.2.1 i hi, if_neg (by omega)]
    · have hne : 12 * d + p ≠ 12 * k + o := by omega
      have ec : ∀ (b : Bool) (x y : Nat), (if p = o ∧ d < k + 1 ∧ b = true then x else y) = if p = o ∧ d < k ∧ b = true then x else y := fun b x y => by
        by_cases e3 : p = o ∧ d < k ∧ b = true
        · rw [if_pos e3, if_pos ⟨e3.1, by omega, e3.2.2⟩]
        · rw [if_neg e3, if_neg (fun q => e3 ⟨q.1, by omega, q.2.2⟩)]
      rw [ec, ec, ec]
      split
      · have q := rsn_ne (Z := rq2 T Z o k) hne
        refine ⟨q.1.trans ih.1, q.2.1.trans ih.2.1, fun i hi => ?_, q.2.2.2.trans ih.2.2.2⟩
        rw [ec]; exact (q.2.2.1 i hi).trans (ih.2.2.1 i hi)
      · refine ⟨ih.1, ih.2.1, fun i hi => ?_, ih.2.2.2⟩
        rw [ec]; exact ih.2.2.1 i hi
section
variable {C : sm_X} {w : Nat → Nat → Nat} {o n v : Nat} {T : Nat → Bool}
theorem ssX_1 (hw : ∀ n o, w n o < 2) {d p j : Nat} (ho : o < 12) (hp : p < 12) : ssX T C w o v n 12 (82 + 51 * d + 4 * p + 2 * w d p) j = C (82 + 51 * d + 4 * p + 2 * w d p) j ∧ ssX T C w o v n 12 (83 + 51 * d + 4 * p + 2 * w d p) j = C (83 + 51 * d + 4 * p + 2 * w d p) j := by
  have h1 := hw d p
  have h3 := hw d o
  have e0 : (82 + 51 * d + 4 * p + 2 * w d p - 79) / 51 = d := by omega
  have e1 : (83 + 51 * d + 4 * p + 2 * w d p - 79) / 51 = d := by omega
  have hx : ∀ x, x = 82 ∨ x = 83 → ¬ (x + 51 * d + 4 * p + 2 * w d p = x + 51 * d + 4 * o + 2 * (1 - w d o)) := fun x hx q => by
    have e : p = o := by omega
    subst e; omega
  refine ⟨ssX_o ?_ ?_, ssX_o ?_ ?_⟩
  · rw [e0]; exact fun q => hx 82 (Or.inl rfl) q.2.2.1
  · rw [e0]; omega
  · rw [e1]; omega
  · rw [e1]; exact fun q => hx 83 (Or.inr rfl) q.2.2.1
theorem ssX_2 (hw : ∀ n o, w n o < 2) {d p j : Nat} (ho : o < 12) (hp : p < 12) (hd : d < 12) (hj : j < 2) : ssX T C w o v n 12 (82 + 51 * d + 4 * p + 2 * (1 - w d p)) j = if p = o ∧ T d = true then (if j = 0 then v else n) else C (82 + 51 * d + 4 * p + 2 * (1 - w d p)) j := by
  have h1 := hw d p
  have h3 := hw d o
  have e0 : (82 + 51 * d + 4 * p + 2 * (1 - w d p) - 79) / 51 = d := by omega
  by_cases e : p = o ∧ T d = true
  · rw [if_pos e]
    obtain ⟨rfl, hT⟩ := e
    refine ssX_v ?_
    rw [e0]; exact ⟨hd, hT, rfl, hj⟩
  · rw [if_neg e]
    refine ssX_o ?_ ?_
    · rw [e0]; exact fun q => e ⟨by omega, q.2.1⟩
    · rw [e0]; omega
theorem ssX_3 (hw : ∀ n o, w n o < 2) {d p j : Nat} (ho : o < 12) (hp : p < 12) (hd : d < 12) (hj : j < 8 * ((n + 29) / 30) ∨ ¬ (p = o ∧ T d = true)) : ssX T C w o v n 12 (83 + 51 * d + 4 * p + 2 * (1 - w d p)) j = if p = o ∧ T d = true then gf_h (C (6 + j)) (d + 1) 0 8 else C (83 + 51 * d + 4 * p + 2 * (1 - w d p)) j := by
  have h1 := hw d p
  have h3 := hw d o
  have e0 : (83 + 51 * d + 4 * p + 2 * (1 - w d p) - 79) / 51 = d := by omega
  by_cases e : p = o ∧ T d = true
  · rw [if_pos e]
    have hj2 : j < 8 * ((n + 29) / 30) := hj.elim id (fun z => absurd e z)
    obtain ⟨rfl, hT⟩ := e
    refine (ssX_b ?_ ?_).trans ?_
    · rw [e0]; omega
    · rw [e0]; exact ⟨hd, hT, rfl, hj2⟩
    · rw [e0]
  · rw [if_neg e]
    refine ssX_o ?_ ?_
    · rw [e0]; omega
    · rw [e0]; exact fun q => e ⟨by omega, q.2.1⟩
theorem ssX_4 {a j : Nat} (ho : o < 12) (ha : ∀ d, d < 12 → ∀ b, b < 2 → a ≠ 82 + 51 * d + 4 * o + 2 * b ∧ a ≠ 83 + 51 * d + 4 * o + 2 * b) : ssX T C w o v n 12 a j = C a j := by
  refine ssX_o ?_ ?_
  · rintro ⟨q1, q2, q3, q4⟩
    exact (ha _ q1 _ (by omega)).1 q3
  · rintro ⟨q1, q2, q3, q4⟩
    exact (ha _ q1 _ (by omega)).2 q3
end
