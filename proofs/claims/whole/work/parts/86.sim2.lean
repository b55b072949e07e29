/-! The relation is kept: load, cut, get, fail, back -/
section
variable {C R C' R' : sm_X} {w : Nat → Nat → Nat} {CT : Nat → Nat → Nat → Nat} {LN : Nat → Nat → Nat} {K K' : Nat}
theorem sim_A (h : sim C R w CT LN K) (hK : K ≤ K') (hA : simA C' R') (hM : simM C') (h1 : ∀ a j, 78 < a → a < 703 → C' a j = C a j) (h2 : ∀ a j, 705 < a → a < 719 → R' a j = R a j) : sim C' R' w CT LN K' := by
  obtain ⟨hw, -, hI, hN, hS, hD, hV, hC, -⟩ := h
  refine ⟨hw, hA, simI_c hI (fun o j ho hj => h1 _ _ (by omega) (by omega)) (fun o ho => ⟨h2 _ _ (by decide) (by decide), h2 _ _ (by decide) (by decide), h2 _ _ (by decide) (by decide), h2 _ _ (by decide) (by decide), h2 _ _ (by decide) (by decide)⟩),
    simN_c hN hK (fun n j hn _ => h1 _ _ (by omega) (by omega)) (fun n hn => ⟨h2 _ _ (by decide) (by decide), h2 _ _ (by decide) (by decide)⟩),
    simS_c hS (fun n o j hn ho => by have := hw n o; exact ⟨h1 _ _ (by omega) (by omega), h1 _ _ (by omega) (by omega)⟩) (fun k => ⟨h2 _ _ (by decide) (by decide), h2 _ _ (by decide) (by decide), h2 _ _ (by decide) (by decide)⟩),
    simD_c hD (fun n o j hn ho => by have := hw n o; exact ⟨h1 _ _ (by omega) (by omega), h1 _ _ (by omega) (by omega)⟩) (fun k => ⟨h2 _ _ (by decide) (by decide), h2 _ _ (by decide) (by decide), h2 _ _ (by decide) (by decide)⟩),
    simV_c hV hK (fun a j h3 h4 => h2 _ _ (by omega) (by omega)) (fun k => ⟨h2 _ _ (by decide) (by decide), h2 _ _ (by decide) (by decide)⟩), hC, hM⟩
theorem sim_load (h : sim C R w CT LN K) (hK : K ≤ K') {i N : Nat} (hi : i < 60) : sim (sm_uf C 77 (fun j => if 4 * i ≤ j ∧ j < 4 * i + 4 then N / 2 ^ (24 - 8 * (j - 4 * i)) % 256 else C 77 j)) (sm_uf (sm_up R 703 0 0) 704 (blk (4 * i) (fun j => N / 2 ^ (24 - 8 * j) % 256) (R 704) 4)) w CT LN K' := by
  have hA := h.2.1
  refine sim_A h hK ?_ (simM_c h.2.2.2.2.2.2.2.2 (fun a j ha => sm_uf_o (by omega)) (fun a j h3 h4 => sm_uf_o (by omega))) (fun a j h3 h4 => sm_uf_o (by omega)) (fun a j h3 h4 => (sm_uf_o (by omega)).trans (sm_up_x (Or.inl (by omega))))
  unfold simA
  rw [sm_uf_o (by decide), sm_uf_o (X := C) (k := 8) (by decide), sm_uf_o (X := sm_up R 703 0 0) (a := 703) (k := 4) (by decide), sm_uf_o (X := sm_up R 703 0 0) (a := 703) (k := 2) (by decide), sm_up_x (Or.inr (by decide)), sm_up_x (Or.inr (by decide))]
  refine ⟨hA.1, hA.2.1, hA.2.2.1, hA.2.2.2.1, fun j hj => ?_, fun j hj => ?_⟩
  · rw [sm_uf_s, sm_uf_s]
    unfold blk
    by_cases e : 4 * i ≤ j ∧ j < 4 * i + 4
    · rw [if_pos e, if_pos e]
      exact ⟨rfl, Nat.mod_lt _ (by decide)⟩
    · rw [if_neg e, if_neg e]
      exact hA.2.2.2.2.1 j hj
  · rw [sm_uf_o (by decide), sm_uf_o (by decide), sm_up_x (Or.inl (by decide))]
    exact hA.2.2.2.2.2 j hj
theorem sim_cut (h : sim C R w CT LN K) (hK : K ≤ K') {q : Nat} (hq : q < 24) : sim (sm_up C 0 9 q) (sm_up (sm_up R 703 0 0) 703 4 q) w CT LN K' := by
  have hA := h.2.1
  refine sim_A h hK ?_ (simM_c h.2.2.2.2.2.2.2.2 (fun a j ha => sm_up_x (Or.inl (by omega))) (fun a j h3 h4 => sm_up_x (Or.inl (by omega)))) (fun a j h3 h4 => sm_up_x (Or.inl (by omega))) (fun a j h3 h4 => (sm_up_x (Or.inl (by omega))).trans (sm_up_x (Or.inl (by omega))))
  unfold simA
  rw [sm_up_s, sm_up_s, sm_up_x (Or.inr (by decide)), sm_up_x (Or.inr (by decide)), sm_up_x (Or.inr (by decide))]
  refine ⟨rfl, Or.inr hq, hA.2.2.1, hA.2.2.2.1, fun j hj => ?_, fun j hj => ?_⟩
  · rw [sm_up_x (Or.inl (by decide)), sm_up_x (Or.inl (by decide)), sm_up_x (Or.inl (by decide))]; exact hA.2.2.2.2.1 j hj
  · rw [sm_up_x (Or.inl (by decide)), sm_up_x (Or.inl (by decide)), sm_up_x (Or.inl (by decide))]; exact hA.2.2.2.2.2 j hj
theorem sim_get (h : sim C R w CT LN K) (hK : K ≤ K') {o d : Nat} (ho : o < 12) (hd : d < 12) (hfr : rfr R d o = true) (hZ : geP C (CT o (R 706 o)) (C (691 + o) 1) C') : sim C' (sm_uf (sm_up (sm_up R 703 0 0) 703 2 (R 707 o)) 705 (blk 0 (fun j => R 715 (240 * (12 * d + o) + j)) (R 705) (R 707 o))) w CT LN K' := by
  have hA := h.2.1
  have hI := h.2.2.1 o ho
  have hV := h.2.2.2.2.2.2.1 o ho
  have hS := h.2.2.2.2.1 d o hd ho
  have hM := h.2.2.2.2.2.2.2.2
  have ef : R 713 (12 * d + o) = R 706 o := of_decide_eq_true hfr
  have l := (h.2.2.2.2.2.2.2.1 o).2 (R 706 o)
  refine sim_A h hK ?_ ⟨⟨fun k hk => (hZ.1 2 k (by omega) (by decide) (by omega)).trans (hM.1.1 k hk), fun a ha => (hZ.1 3 a (by omega) (by decide) (by omega)).trans (hM.1.2 a ha)⟩, fun r hr j hj => hZ.2.2.2.2 r j hr hj, hZ.2.2.2.1⟩ (fun a j h3 h4 => hZ.1 a j (by omega) (by omega) (by omega)) (fun a j h3 h4 => (sm_uf_o (by omega)).trans ((sm_up_x (Or.inl (by omega))).trans (sm_up_x (Or.inl (by omega)))))
  unfold simA
  rw [sm_uf_o (k := 4) (by decide), sm_uf_o (k := 2) (by decide), sm_up_s, sm_up_x (Or.inr (by decide)), sm_up_x (Or.inr (by decide)), hZ.1 0 9 (by omega) (by decide) (by omega), hZ.2.1, hI.2.1]
  refine ⟨hA.1, hA.2.1, rfl, by omega, fun j hj => ?_, fun j hj => ?_⟩
  · rw [sm_uf_o (by decide), sm_up_x (Or.inl (by decide)), sm_up_x (Or.inl (by decide)), hZ.1 77 j (by omega) (by decide) (by omega)]
    exact hA.2.2.2.2.1 j hj
  · have h9 := hS.2.2.2.1 j
    rw [ef] at h9
    have h10 := blk_in (b := 0) (f := fun j => R 715 (240 * (12 * d + o) + j)) (g := R 705) hj
    rw [Nat.zero_add] at h10
    rw [sm_uf_s, h10, hZ.2.2.1 j (by omega)]
    exact (h9 (by omega)).symm
theorem sim_fail (h : sim C R w CT LN K) (hK : K ≤ K') {n : Nat} (hn : n < 12) : sim (sm_up C (79 + 51 * n) 3 0) (sm_up (sm_up R 703 0 0) 711 n 1) w CT LN K' := by
  obtain ⟨hw, hA, hI, hN, hS, hD, hV, hC, hM⟩ := h
  have c1 : ∀ a j, ¬ (a = 79 + 51 * n ∧ j = 3) → sm_up C (79 + 51 * n) 3 0 a j = C a j := fun a j h => sm_up_x (by omega)
  have r1 : ∀ a j, a ≠ 703 → a ≠ 711 → sm_up (sm_up R 703 0 0) 711 n 1 a j = R a j := fun a j h1 h2 => (sm_up_x (Or.inl h2)).trans (sm_up_x (Or.inl h1))
  refine ⟨hw, simA_c hA (c1 _ _ (by omega)) (c1 _ _ (by omega)) (fun i => c1 _ _ (by omega)) (fun i => c1 _ _ (by omega)) ((sm_up_x (Or.inl (by decide))).trans (sm_up_x (Or.inr (by decide)))) ((sm_up_x (Or.inl (by decide))).trans (sm_up_x (Or.inr (by decide)))) (fun i => r1 _ _ (by decide) (by decide)) (fun i => r1 _ _ (by decide) (by decide)),
    simI_c hI (fun o j ho hj => c1 _ _ (by omega)) (fun o ho => ⟨r1 _ _ (by decide) (by decide), r1 _ _ (by decide) (by decide), r1 _ _ (by decide) (by decide), r1 _ _ (by decide) (by decide), r1 _ _ (by decide) (by decide)⟩), fun k hk => ?_,
    simS_c hS (fun n o j hn ho => by have := hw n o; exact ⟨c1 _ _ (by omega), c1 _ _ (by omega)⟩) (fun k => ⟨r1 _ _ (by decide) (by decide), r1 _ _ (by decide) (by decide), r1 _ _ (by decide) (by decide)⟩),
    simD_c hD (fun n o j hn ho => by have := hw n o; exact ⟨c1 _ _ (by omega), c1 _ _ (by omega)⟩) (fun k => ⟨r1 _ _ (by decide) (by decide), r1 _ _ (by decide) (by decide), r1 _ _ (by decide) (by decide)⟩),
    simV_c hV hK (fun a j h3 h4 => r1 _ _ (by omega) (by omega)) (fun k => ⟨r1 _ _ (by decide) (by decide), r1 _ _ (by decide) (by decide)⟩), hC,
    simM_c hM (fun a j ha => c1 _ _ (by omega)) (fun a j h3 h4 => c1 _ _ (by omega))⟩
  have g := hN k hk
  rw [c1 _ 0 (by omega), c1 _ 4 (by omega), r1 712 k (by decide) (by decide)]
  by_cases e : k = n
  · subst e
    rw [sm_up_s, sm_up_s]
    exact ⟨g.1, rfl, (by decide), g.2.2.2.1, by omega⟩
  · rw [c1 _ 3 (by omega), sm_up_n e, sm_up_x (Or.inl (by decide))]
    exact ⟨g.1, g.2.1, g.2.2.1, g.2.2.2.1, by omega⟩
theorem nb_o (hw : ∀ n o, w n o < 2) {n e a j : Nat} (h1 : ¬ (a = 79 + 51 * n ∧ j = 3)) (h2 : ¬ (j < 2 ∧ ∃ p, p < 12 ∧ (a = 82 + 51 * n + 4 * p ∨ a = 84 + 51 * n + 4 * p))) : ∀ k, k ≤ 12 → nb C w n e k a j = C a j
  | 0, _ => sm_up_x (by omega)
  | k + 1, hk => by
    have ih := nb_o (e := e) hw h1 h2 k (by omega)
    have hwk := hw n k
    have h3 : ¬ (j < 2 ∧ (a = 82 + 51 * n + 4 * k ∨ a = 84 + 51 * n + 4 * k)) := fun q => h2 ⟨q.1, k, by omega, q.2⟩
    show (if e = 0 then sm_up (sm_up (nb C w n e k) (82 + 51 * n + 4 * k + 2 * (1 - w n k)) 0 0) (82 + 51 * n + 4 * k + 2 * (1 - w n k)) 1 0
    else sm_up (sm_up (sm_up (sm_up (nb C w n e k) (82 + 51 * n + 4 * k + 2 * (1 - w n k)) 0 0) (82 + 51 * n + 4 * k + 2 * (1 - w n k)) 1 0) (82 + 51 * n + 4 * k + 2 * w n k) 0 0) (82 + 51 * n + 4 * k + 2 * w n k) 1 0) a j = _
    split
    · rw [sm_up_x (by omega), sm_up_x (by omega)]; exact ih
    · rw [sm_up_x (by omega), sm_up_x (by omega), sm_up_x (by omega), sm_up_x (by omega)]; exact ih
theorem nb_3 {n e : Nat} : ∀ k, nb C w n e k (79 + 51 * n) 3 = 1
  | 0 => sm_up_s
  | k + 1 => by
    have ih := nb_3 (n := n) (e := e) k
    show (if e = 0 then sm_up (sm_up (nb C w n e k) (82 + 51 * n + 4 * k + 2 * (1 - w n k)) 0 0) (82 + 51 * n + 4 * k + 2 * (1 - w n k)) 1 0
    else sm_up (sm_up (sm_up (sm_up (nb C w n e k) (82 + 51 * n + 4 * k + 2 * (1 - w n k)) 0 0) (82 + 51 * n + 4 * k + 2 * (1 - w n k)) 1 0) (82 + 51 * n + 4 * k + 2 * w n k) 0 0) (82 + 51 * n + 4 * k + 2 * w n k) 1 0) (79 + 51 * n) 3 = _
    split
    · rw [sm_up_x (Or.inr (by decide)), sm_up_x (Or.inr (by decide))]; exact ih
    · rw [sm_up_x (Or.inr (by decide)), sm_up_x (Or.inr (by decide)), sm_up_x (Or.inr (by decide)), sm_up_x (Or.inr (by decide))]; exact ih
theorem nb_d (hw : ∀ n o, w n o < 2) {n e p j : Nat} (hj : j < 2) : ∀ k, p < k → nb C w n e k (82 + 51 * n + 4 * p + 2 * (1 - w n p)) j = 0
  | 0, h => absurd h (Nat.not_lt_zero p)
  | k + 1, h => by
    have hwk := hw n k
    have hwp := hw n p
    show (if e = 0 then sm_up (sm_up (nb C w n e k) (82 + 51 * n + 4 * k + 2 * (1 - w n k)) 0 0) (82 + 51 * n + 4 * k + 2 * (1 - w n k)) 1 0
    else sm_up (sm_up (sm_up (sm_up (nb C w n e k) (82 + 51 * n + 4 * k + 2 * (1 - w n k)) 0 0) (82 + 51 * n + 4 * k + 2 * (1 - w n k)) 1 0) (82 + 51 * n + 4 * k + 2 * w n k) 0 0) (82 + 51 * n + 4 * k + 2 * w n k) 1 0) _ j = 0
    by_cases e1 : p = k
    · subst e1
      rcases (by omega : j = 0 ∨ j = 1) with rfl | rfl
      · split
        · rw [sm_up_x (Or.inr (by decide)), sm_up_s]
        · rw [sm_up_x (Or.inl (by omega)), sm_up_x (Or.inl (by omega)), sm_up_x (Or.inr (by decide)), sm_up_s]
      · split
        · rw [sm_up_s]
        · rw [sm_up_x (Or.inl (by omega)), sm_up_x (Or.inl (by omega)), sm_up_s]
    · have ih := nb_d (e := e) hw (n := n) (p := p) hj k (by omega)
      split
      · rw [sm_up_x (Or.inl (by omega)), sm_up_x (Or.inl (by omega))]; exact ih
      · rw [sm_up_x (Or.inl (by omega)), sm_up_x (Or.inl (by omega)), sm_up_x (Or.inl (by omega)), sm_up_x (Or.inl (by omega))]; exact ih
theorem nb_s (hw : ∀ n o, w n o < 2) {n e p j : Nat} (hj : j < 2) (he : e ≠ 0) : ∀ k, p < k → nb C w n e k (82 + 51 * n + 4 * p + 2 * w n p) j = 0
  | 0, h => absurd h (Nat.not_lt_zero p)
  | k + 1, h => by
    have hwk := hw n k
    have hwp := hw n p
    show (if e = 0 then sm_up (sm_up (nb C w n e k) (82 + 51 * n + 4 * k + 2 * (1 - w n k)) 0 0) (82 + 51 * n + 4 * k + 2 * (1 - w n k)) 1 0
    else sm_up (sm_up (sm_up (sm_up (nb C w n e k) (82 + 51 * n + 4 * k + 2 * (1 - w n k)) 0 0) (82 + 51 * n + 4 * k + 2 * (1 - w n k)) 1 0) (82 + 51 * n + 4 * k + 2 * w n k) 0 0) (82 + 51 * n + 4 * k + 2 * w n k) 1 0) _ j = 0
    rw [if_neg he]
    by_cases e1 : p = k
    · subst e1
      rcases (by omega : j = 0 ∨ j = 1) with rfl | rfl
      · rw [sm_up_x (Or.inr (by decide)), sm_up_s]
      · rw [sm_up_s]
    · have ih := nb_s (e := e) hw (n := n) (p := p) hj he k (by omega)
      rw [sm_up_x (Or.inl (by omega)), sm_up_x (Or.inl (by omega)), sm_up_x (Or.inl (by omega)), sm_up_x (Or.inl (by omega))]; exact ih
theorem nb_s0 (hw : ∀ n o, w n o < 2) {n p j : Nat} : ∀ k, nb C w n 0 k (82 + 51 * n + 4 * p + 2 * w n p) j = C (82 + 51 * n + 4 * p + 2 * w n p) j
  | 0 => sm_up_x (Or.inl (by omega))
  | k + 1 => by
    have hwk := hw n k
    have hwp := hw n p
    have ih := nb_s0 hw (n := n) (p := p) (j := j) k
    show (if 0 = 0 then sm_up (sm_up (nb C w n 0 k) (82 + 51 * n + 4 * k + 2 * (1 - w n k)) 0 0) (82 + 51 * n + 4 * k + 2 * (1 - w n k)) 1 0
    else sm_up (sm_up (sm_up (sm_up (nb C w n 0 k) (82 + 51 * n + 4 * k + 2 * (1 - w n k)) 0 0) (82 + 51 * n + 4 * k + 2 * (1 - w n k)) 1 0) (82 + 51 * n + 4 * k + 2 * w n k) 0 0) (82 + 51 * n + 4 * k + 2 * w n k) 1 0) _ j = _
    rw [if_pos rfl]
    by_cases e1 : p = k
    · subst e1
      rw [sm_up_x (Or.inl (by omega)), sm_up_x (Or.inl (by omega))]; exact ih
    · rw [sm_up_x (Or.inl (by omega)), sm_up_x (Or.inl (by omega))]; exact ih
theorem rbk_o {n e a j : Nat} (h0 : ¬ (a = 703 ∧ j = 0)) (h1 : a ≠ 711) (h2 : a ≠ 716) (h3 : e = 0 ∨ a ≠ 713 ∧ a ≠ 714) : ∀ k, rbk R n e k a j = R a j
  | 0 => (sm_up_x (Or.inl h1)).trans (sm_up_x (by omega))
  | k + 1 => by
    have ih := rbk_o (n := n) (e := e) h0 h1 h2 h3 k
    show (if e = 0 then sm_up (rbk R n e k) 716 (12 * n + k) 0 else sm_up (sm_up (sm_up (rbk R n e k) 716 (12 * n + k) 0) 713 (12 * n + k) 0) 714 (12 * n + k) 0) a j = _
    split
    · rw [sm_up_x (Or.inl h2)]; exact ih
    · rw [sm_up_x (Or.inl (by omega)), sm_up_x (Or.inl (by omega)), sm_up_x (Or.inl h2)]; exact ih
theorem rbk_1 {n e j : Nat} : ∀ k, rbk R n e k 711 j = if j = n then 0 else R 711 j
  | 0 => by
    show sm_up (sm_up R 703 0 0) 711 n 0 711 j = _
    by_cases e1 : j = n
    · subst e1; rw [sm_up_s, if_pos rfl]
    · rw [sm_up_n e1, if_neg e1, sm_up_x (Or.inl (by decide))]
  | k + 1 => by
    have ih := rbk_1 (n := n) (e := e) (j := j) k
    show (if e = 0 then sm_up (rbk R n e k) 716 (12 * n + k) 0 else sm_up (sm_up (sm_up (rbk R n e k) 716 (12 * n + k) 0) 713 (12 * n + k) 0) 714 (12 * n + k) 0) 711 j = _
    split
    · rw [sm_up_x (Or.inl (by decide))]; exact ih
    · rw [sm_up_x (Or.inl (by decide)), sm_up_x (Or.inl (by decide)), sm_up_x (Or.inl (by decide))]; exact ih
theorem rbk_6 {n e c : Nat} : ∀ k, rbk R n e k 716 c = if 12 * n ≤ c ∧ c < 12 * n + k then 0 else R 716 c
  | 0 => by
    rw [if_neg (by omega)]
    exact (sm_up_x (Or.inl (by decide))).trans (sm_up_x (Or.inl (by decide)))
  | k + 1 => by
    have ih := rbk_6 (n := n) (e := e) (c := c) k
    show (if e = 0 then sm_up (rbk R n e k) 716 (12 * n + k) 0 else sm_up (sm_up (sm_up (rbk R n e k) 716 (12 * n + k) 0) 713 (12 * n + k) 0) 714 (12 * n + k) 0) 716 c = _
    by_cases e1 : c = 12 * n + k
    · subst e1
      rw [if_pos (c := 12 * n ≤ 12 * n + k ∧ _) (by omega)]
      split
      · rw [sm_up_s]
      · rw [sm_up_x (Or.inl (by decide)), sm_up_x (Or.inl (by decide)), sm_up_s]
    · have e2 : (if 12 * n ≤ c ∧ c < 12 * n + (k + 1) then 0 else R 716 c) = if 12 * n ≤ c ∧ c < 12 * n + k then 0 else R 716 c := by
        by_cases e3 : 12 * n ≤ c ∧ c < 12 * n + k
        · rw [if_pos e3, if_pos (by omega)]
        · rw [if_neg e3, if_neg (by omega)]
      rw [e2]
      split
      · rw [sm_up_n e1]; exact ih
      · rw [sm_up_x (Or.inl (by decide)), sm_up_x (Or.inl (by decide)), sm_up_n e1]; exact ih
theorem rbk_34 {n e c a : Nat} (he : e ≠ 0) (ha : a = 713 ∨ a = 714) : ∀ k, rbk R n e k a c = if 12 * n ≤ c ∧ c < 12 * n + k then 0 else R a c
  | 0 => by
    rw [if_neg (by omega)]
    exact (sm_up_x (Or.inl (by omega))).trans (sm_up_x (Or.inl (by omega)))
  | k + 1 => by
    have ih := rbk_34 (n := n) (e := e) (c := c) he ha k
    show (if e = 0 then sm_up (rbk R n e k) 716 (12 * n + k) 0 else sm_up (sm_up (sm_up (rbk R n e k) 716 (12 * n + k) 0) 713 (12 * n + k) 0) 714 (12 * n + k) 0) a c = _
    rw [if_neg he]
    by_cases e1 : c = 12 * n + k
    · subst e1
      rw [if_pos (c := 12 * n ≤ 12 * n + k ∧ _) (by omega)]
      rcases ha with rfl | rfl
      · rw [sm_up_x (Or.inl (by decide)), sm_up_s]
      · rw [sm_up_s]
    · have e2 : (if 12 * n ≤ c ∧ c < 12 * n + (k + 1) then 0 else R a c) = if 12 * n ≤ c ∧ c < 12 * n + k then 0 else R a c := by
        by_cases e3 : 12 * n ≤ c ∧ c < 12 * n + k
        · rw [if_pos e3, if_pos (by omega)]
        · rw [if_neg e3, if_neg (by omega)]
      rw [e2, sm_up_x (Or.inr e1), sm_up_x (Or.inr e1), sm_up_x (Or.inr e1)]; exact ih
theorem sim_back (h : sim C R w CT LN K) (hK : K ≤ K') {n e : Nat} (hn : n < 12) : sim (nb C w n e 12) (rbk R n e 12) w CT LN K' := by
  obtain ⟨hw, hA, hI, hN, hS, hD, hV, hC, hM⟩ := h
  have c1 : ∀ a j, ¬ (a = 79 + 51 * n ∧ j = 3) → ¬ (j < 2 ∧ ∃ p, p < 12 ∧ (a = 82 + 51 * n + 4 * p ∨ a = 84 + 51 * n + 4 * p)) → nb C w n e 12 a j = C a j := fun a j h1 h2 => nb_o hw h1 h2 12 (Nat.le_refl 12)
  have c0 : ∀ a j, ¬ (79 ≤ a ∧ a < 691) → nb C w n e 12 a j = C a j := fun a j h1 => c1 a j (by omega) (by rintro ⟨-, p, hp, q⟩; omega)
  have r1 : ∀ a j, ¬ (a = 703 ∧ j = 0) → a ≠ 711 → a ≠ 716 → a ≠ 713 → a ≠ 714 → rbk R n e 12 a j = R a j := fun a j h0 h1 h2 h3 h4 => rbk_o h0 h1 h2 (Or.inr ⟨h3, h4⟩) 12
  have r34 : ∀ c, (rbk R n e 12 713 c = R 713 c ∧ rbk R n e 12 714 c = R 714 c ∧ (e = 0 ∨ ¬ (12 * n ≤ c ∧ c < 12 * n + 12))) ∨ (rbk R n e 12 713 c = 0 ∧ rbk R n e 12 714 c = 0 ∧ e ≠ 0 ∧ 12 * n ≤ c ∧ c < 12 * n + 12) := fun c => by
    by_cases he : e = 0
    · exact Or.inl ⟨rbk_o (by omega) (by decide) (by decide) (Or.inl he) 12, rbk_o (by omega) (by decide) (by decide) (Or.inl he) 12, Or.inl he⟩
    · rw [rbk_34 he (Or.inl rfl), rbk_34 he (Or.inr rfl)]
      by_cases h5 : 12 * n ≤ c ∧ c < 12 * n + 12
      · rw [if_pos h5, if_pos h5]; exact Or.inr ⟨rfl, rfl, he, h5⟩
      · rw [if_neg h5, if_neg h5]; exact Or.inl ⟨rfl, rfl, Or.inr h5⟩
  refine ⟨hw, simA_c hA (c0 _ _ (by omega)) (c0 _ _ (by omega)) (fun i => c0 _ _ (by omega)) (fun i => c0 _ _ (by omega)) (r1 _ _ (by omega) (by decide) (by decide) (by decide) (by decide)) (r1 _ _ (by omega) (by decide) (by decide) (by decide) (by decide)) (fun i => r1 _ _ (by omega) (by decide) (by decide) (by decide) (by decide)) (fun i => r1 _ _ (by omega) (by decide) (by decide) (by decide) (by decide)),
    simI_c hI (fun o j ho hj => c0 _ _ (by omega)) (fun o ho => ⟨r1 _ _ (by omega) (by decide) (by decide) (by decide) (by decide), r1 _ _ (by omega) (by decide) (by decide) (by decide) (by decide), r1 _ _ (by omega) (by decide) (by decide) (by decide) (by decide), r1 _ _ (by omega) (by decide) (by decide) (by decide) (by decide), r1 _ _ (by omega) (by decide) (by decide) (by decide) (by decide)⟩),
    fun k hk => ?_, fun d o hd ho => ?_, fun d o hd ho => ?_, fun o ho => ?_, hC, simM_c hM (fun a j ha => c0 _ _ (by omega)) (fun a j h3 h4 => c0 _ _ (by omega))⟩
  · have g := hN k hk
    rw [c1 _ 0 (by omega) (by rintro ⟨-, p, hp, q⟩; omega), c1 _ 4 (by omega) (by omega), rbk_1, r1 712 k (by omega) (by decide) (by decide) (by decide) (by decide)]
    by_cases e1 : k = n
    · subst e1
      rw [nb_3, if_pos rfl]
      exact ⟨g.1, rfl, (by decide), g.2.2.2.1, by omega⟩
    · rw [c1 _ 3 (by omega) (by omega), if_neg e1]
      exact ⟨g.1, g.2.1, g.2.2.1, g.2.2.2.1, by omega⟩
  · have g := hS d o hd ho
    have hwd := hw d o
    have cb : ∀ i, nb C w n e 12 (82 + 51 * d + 4 * o + 2 * w d o + 1) i = C (82 + 51 * d + 4 * o + 2 * w d o + 1) i := fun i => c1 _ _ (by omega) (by rintro ⟨-, p, hp, q⟩; omega)
    have rb : ∀ i, rbk R n e 12 715 i = R 715 i := fun i => r1 _ _ (by omega) (by decide) (by decide) (by decide) (by decide)
    rcases r34 (12 * d + o) with ⟨q1, q2, q3⟩ | ⟨q1, q2, q3, q4⟩
    · rw [q1, q2]
      have cs : ∀ j, nb C w n e 12 (82 + 51 * d + 4 * o + 2 * w d o) j = C (82 + 51 * d + 4 * o + 2 * w d o) j := fun j => by
        rcases q3 with rfl | q3
        · by_cases e1 : d = n
          · subst e1; exact nb_s0 hw 12
          · exact c1 _ _ (by omega) (by rintro ⟨-, p, hp, q⟩; omega)
        · exact c1 _ _ (by omega) (by rintro ⟨-, p, hp, q⟩; omega)
      rw [cs, cs]
      exact ⟨g.1, g.2.1, g.2.2.1, simP_c g.2.2.2 (fun i _ => cb i) (fun i _ => rb _)⟩
    · obtain rfl : d = n := by omega
      rw [q1, q2, nb_s hw (by decide) q3 12 ho, nb_s hw (by decide) q3 12 ho, (hC o).1]
      exact ⟨rfl, rfl, rfl, by unfold simP; rw [(hC o).1]; exact ⟨fun i hi => absurd hi (Nat.not_lt_zero i), fun i hi => absurd hi (by omega)⟩⟩
  · have g := hD d o hd ho
    have hwd := hw d o
    rw [rbk_6, r1 717 _ (by omega) (by decide) (by decide) (by decide) (by decide)]
    by_cases e1 : d = n
    · subst e1
      rw [if_pos (by omega), nb_d hw (by decide) 12 ho, nb_d hw (by decide) 12 ho]
      exact ⟨rfl, by omega, g.2.2.1, fun z => absurd rfl z⟩
    · have cs : ∀ j, nb C w n e 12 (82 + 51 * d + 4 * o + 2 * (1 - w d o)) j = C (82 + 51 * d + 4 * o + 2 * (1 - w d o)) j := fun j => c1 _ _ (by omega) (by rintro ⟨-, p, hp, q⟩; omega)
      rw [if_neg (by omega), cs, cs]
      exact ⟨g.1, g.2.1, g.2.2.1, fun z => ⟨(g.2.2.2 z).1, (g.2.2.2 z).2.1, simP_c (g.2.2.2 z).2.2 (fun i _ => c1 _ _ (by omega) (by rintro ⟨-, p, hp, q⟩; omega)) (fun i _ => r1 _ _ (by omega) (by decide) (by decide) (by decide) (by decide))⟩⟩
  · have g := hV o ho
    rw [r1 706 o (by omega) (by decide) (by decide) (by decide) (by decide), r1 707 o (by omega) (by decide) (by decide) (by decide) (by decide), r1 708 o (by omega) (by decide) (by decide) (by decide) (by decide), r1 709 o (by omega) (by decide) (by decide) (by decide) (by decide), r1 710 o (by omega) (by decide) (by decide) (by decide) (by decide)]
    refine ⟨g.1, by omega, g.2.2.1, g.2.2.2.1, g.2.2.2.2.1, g.2.2.2.2.2.1, fun d hd => ?_⟩
    have g2 := g.2.2.2.2.2.2 d hd
    refine ⟨?_, ?_⟩
    · rcases r34 (12 * d + o) with ⟨q1, -, -⟩ | ⟨q1, -, -, -⟩
      · rw [q1]; exact g2.1
      · rw [q1]; exact Nat.zero_le _
    · rw [rbk_6]
      split
      · exact Nat.zero_le _
      · exact g2.2
end
