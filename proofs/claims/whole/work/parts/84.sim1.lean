/-! Both sides agree: the relation of the shelf's cells (C, below 703) and the reference's (R) -/
def simA (C R : sm_X) : Prop := C 0 9 = R 703 4 ∧ (R 703 4 = 4294967295 ∨ R 703 4 < 24) ∧ C 0 8 = R 703 2 ∧ R 703 2 ≤ 240 ∧ (∀ i, i < 240 → C 77 i = R 704 i ∧ R 704 i < 256) ∧ ∀ i, i < R 703 2 → C 78 i = R 705 i
def simI (C R : sm_X) : Prop := ∀ o, o < 12 → C (691 + o) 0 = R 706 o ∧ C (691 + o) 1 = R 707 o ∧ C (691 + o) 2 = R 708 o ∧ C (691 + o) 3 = R 709 o ∧ C (691 + o) 4 = R 710 o
def simN (C R : sm_X) (K : Nat) : Prop := ∀ n, n < 12 → C (79 + 51 * n) 0 = n + 1 ∧ C (79 + 51 * n) 3 = 1 - R 711 n ∧ R 711 n < 2 ∧ C (79 + 51 * n) 4 = R 712 n ∧ R 712 n ≤ 96 * K
/-- a share or shadow: version v of object o on node n; cells c, c + 1 of the shelf, bytes b of the reference from 240 k on -/
def simP (C R : sm_X) (CT : Nat → Nat → Nat → Nat) (LN : Nat → Nat → Nat) (o n v c b k : Nat) : Prop := (∀ i, i < LN o v → R b (240 * k + i) = CT o v i) ∧ ∀ i, i < 8 * ((LN o v + 29) / 30) → C (c + 1) i = mx_b (CT o v) (n + 1) i
def simS (C R : sm_X) (w : Nat → Nat → Nat) (CT : Nat → Nat → Nat → Nat) (LN : Nat → Nat → Nat) : Prop := ∀ n o, n < 12 → o < 12 → C (82 + 51 * n + 4 * o + 2 * w n o) 0 = R 713 (12 * n + o) ∧ C (82 + 51 * n + 4 * o + 2 * w n o) 1 = LN o (R 713 (12 * n + o)) ∧ R 714 (12 * n + o) = LN o (R 713 (12 * n + o)) ∧ simP C R CT LN o n (R 713 (12 * n + o)) (82 + 51 * n + 4 * o + 2 * w n o) 715 (12 * n + o)
def simD (C R : sm_X) (w : Nat → Nat → Nat) (CT : Nat → Nat → Nat → Nat) (LN : Nat → Nat → Nat) : Prop := ∀ n o, n < 12 → o < 12 → C (82 + 51 * n + 4 * o + 2 * (1 - w n o)) 0 = R 716 (12 * n + o) ∧ C (82 + 51 * n + 4 * o + 2 * (1 - w n o)) 1 ≤ 240 ∧ R 717 (12 * n + o) ≤ 240 ∧ (R 716 (12 * n + o) ≠ 0 → C (82 + 51 * n + 4 * o + 2 * (1 - w n o)) 1 = LN o (R 716 (12 * n + o)) ∧ R 717 (12 * n + o) = LN o (R 716 (12 * n + o)) ∧ simP C R CT LN o n (R 716 (12 * n + o)) (82 + 51 * n + 4 * o + 2 * (1 - w n o)) 718 (12 * n + o))
def simV (R : sm_X) (LN : Nat → Nat → Nat) (K : Nat) : Prop := ∀ o, o < 12 → R 706 o ≤ R 708 o ∧ R 708 o ≤ K ∧ R 707 o = LN o (R 706 o) ∧ R 709 o = LN o (R 708 o) ∧ R 710 o < 2 ∧ (R 710 o ≠ 0 → R 708 o ≠ 0) ∧ ∀ n, n < 12 → R 713 (12 * n + o) ≤ R 708 o ∧ R 716 (12 * n + o) ≤ R 708 o
def simC (CT : Nat → Nat → Nat → Nat) (LN : Nat → Nat → Nat) : Prop := ∀ o, LN o 0 = 0 ∧ ∀ v, LN o v ≤ 240 ∧ ∀ i, CT o v i < 256 ∧ (LN o v ≤ i → CT o v i = 0)
def simM (C : sm_X) : Prop := gal C ∧ (∀ r, r < 64 → ∀ j, j < 8 → C (6 + r) j < 256) ∧ ∀ r j, r < 64 → 5 ≤ r % 8 → 5 ≤ j → j < 8 → C (6 + r) j = 0
def sim (C R : sm_X) (w : Nat → Nat → Nat) (CT : Nat → Nat → Nat → Nat) (LN : Nat → Nat → Nat) (K : Nat) : Prop := (∀ n o, w n o < 2) ∧ simA C R ∧ simI C R ∧ simN C R K ∧ simS C R w CT LN ∧ simD C R w CT LN ∧ simV R LN K ∧ simC CT LN ∧ simM C
section
variable {C R C' R' : sm_X} {w : Nat → Nat → Nat} {CT : Nat → Nat → Nat → Nat} {LN : Nat → Nat → Nat} {K : Nat}
theorem simA_c (h : simA C R) (h1 : C' 0 9 = C 0 9) (h2 : C' 0 8 = C 0 8) (h3 : ∀ i, C' 77 i = C 77 i) (h4 : ∀ i, C' 78 i = C 78 i) (h5 : R' 703 4 = R 703 4) (h6 : R' 703 2 = R 703 2) (h7 : ∀ i, R' 704 i = R 704 i) (h8 : ∀ i, R' 705 i = R 705 i) : simA C' R' := by
  unfold simA
  rw [h1, h2, h5, h6]
  refine ⟨h.1, h.2.1, h.2.2.1, h.2.2.2.1, fun i hi => ?_, fun i hi => ?_⟩
  · rw [h3, h7]; exact h.2.2.2.2.1 i hi
  · rw [h4, h8]; exact h.2.2.2.2.2 i hi
theorem simI_c (h : simI C R) (h1 : ∀ o j, o < 12 → j < 5 → C' (691 + o) j = C (691 + o) j) (h2 : ∀ o, o < 12 → R' 706 o = R 706 o ∧ R' 707 o = R 707 o ∧ R' 708 o = R 708 o ∧ R' 709 o = R 709 o ∧ R' 710 o = R 710 o) : simI C' R' := by
  intro o ho
  have g := h2 o ho
  rw [h1 o 0 ho (by decide), h1 o 1 ho (by decide), h1 o 2 ho (by decide), h1 o 3 ho (by decide), h1 o 4 ho (by decide), g.1, g.2.1, g.2.2.1, g.2.2.2.1, g.2.2.2.2]
  exact h o ho
theorem simN_c {K' : Nat} (h : simN C R K) (hK : K ≤ K') (h1 : ∀ n j, n < 12 → j = 0 ∨ j = 3 ∨ j = 4 → C' (79 + 51 * n) j = C (79 + 51 * n) j) (h2 : ∀ n, n < 12 → R' 711 n = R 711 n ∧ R' 712 n = R 712 n) : simN C' R' K' := by
  intro n hn
  have g := h2 n hn
  have h3 := h n hn
  rw [h1 n 0 hn (by decide), h1 n 3 hn (by decide), h1 n 4 hn (by decide), g.1, g.2]
  exact ⟨h3.1, h3.2.1, h3.2.2.1, h3.2.2.2.1, by omega⟩
theorem simP_c {o n v c b k : Nat} (h : simP C R CT LN o n v c b k) (h1 : ∀ i, i < 8 * ((LN o v + 29) / 30) → C' (c + 1) i = C (c + 1) i) (h2 : ∀ i, i < LN o v → R' b (240 * k + i) = R b (240 * k + i)) : simP C' R' CT LN o n v c b k :=
  ⟨fun i hi => (h2 i hi).trans (h.1 i hi), fun i hi => (h1 i hi).trans (h.2 i hi)⟩
theorem simS_c (h : simS C R w CT LN) (h1 : ∀ n o j, n < 12 → o < 12 → C' (82 + 51 * n + 4 * o + 2 * w n o) j = C (82 + 51 * n + 4 * o + 2 * w n o) j ∧ C' (83 + 51 * n + 4 * o + 2 * w n o) j = C (83 + 51 * n + 4 * o + 2 * w n o) j) (h2 : ∀ k, R' 713 k = R 713 k ∧ R' 714 k = R 714 k ∧ R' 715 k = R 715 k) : simS C' R' w CT LN := by
  intro n o hn ho
  have g := h n o hn ho
  rw [(h1 n o 0 hn ho).1, (h1 n o 1 hn ho).1, (h2 _).1, (h2 _).2.1]
  exact ⟨g.1, g.2.1, g.2.2.1, simP_c g.2.2.2 (fun i _ => by rw [show 82 + 51 * n + 4 * o + 2 * w n o + 1 = 83 + 51 * n + 4 * o + 2 * w n o by omega]; exact (h1 n o i hn ho).2) (fun i _ => (h2 _).2.2)⟩
theorem simD_c (h : simD C R w CT LN) (h1 : ∀ n o j, n < 12 → o < 12 → C' (82 + 51 * n + 4 * o + 2 * (1 - w n o)) j = C (82 + 51 * n + 4 * o + 2 * (1 - w n o)) j ∧ C' (83 + 51 * n + 4 * o + 2 * (1 - w n o)) j = C (83 + 51 * n + 4 * o + 2 * (1 - w n o)) j) (h2 : ∀ k, R' 716 k = R 716 k ∧ R' 717 k = R 717 k ∧ R' 718 k = R 718 k) : simD C' R' w CT LN := by
  intro n o hn ho
  have g := h n o hn ho
  rw [(h1 n o 0 hn ho).1, (h1 n o 1 hn ho).1, (h2 _).1, (h2 _).2.1]
  exact ⟨g.1, g.2.1, g.2.2.1, fun hz => ⟨(g.2.2.2 hz).1, (g.2.2.2 hz).2.1, simP_c (g.2.2.2 hz).2.2 (fun i _ => by rw [show 82 + 51 * n + 4 * o + 2 * (1 - w n o) + 1 = 83 + 51 * n + 4 * o + 2 * (1 - w n o) by omega]; exact (h1 n o i hn ho).2) (fun i _ => (h2 _).2.2)⟩⟩
theorem simV_c {K' : Nat} (h : simV R LN K) (hK : K ≤ K') (h1 : ∀ a j, 706 ≤ a → a ≤ 710 → R' a j = R a j) (h2 : ∀ k, R' 713 k = R 713 k ∧ R' 716 k = R 716 k) : simV R' LN K' := by
  intro o ho
  have g := h o ho
  rw [h1 706 o (by decide) (by decide), h1 707 o (by decide) (by decide), h1 708 o (by decide) (by decide), h1 709 o (by decide) (by decide), h1 710 o (by decide) (by decide)]
  refine ⟨g.1, by omega, g.2.2.1, g.2.2.2.1, g.2.2.2.2.1, g.2.2.2.2.2.1, fun n hn => ?_⟩
  rw [(h2 _).1, (h2 _).2]
  exact g.2.2.2.2.2.2 n hn
theorem simM_c (h : simM C) (h1 : ∀ a j, a = 2 ∨ a = 3 → C' a j = C a j) (h2 : ∀ a j, 6 ≤ a → a < 70 → C' a j = C a j) : simM C' := by
  refine ⟨⟨fun k hk => (h1 2 k (Or.inl rfl)).trans (h.1.1 k hk), fun a ha => (h1 3 a (Or.inr rfl)).trans (h.1.2 a ha)⟩, fun r hr j hj => ?_, fun r j hr h5 h6 h7 => ?_⟩
  · rw [h2 _ _ (by omega) (by omega)]; exact h.2.1 r hr j hj
  · rw [h2 _ _ (by omega) (by omega)]; exact h.2.2 r j hr h5 h6 h7
/-- cells that no side reads between calls do not count -/
theorem sim_c {K' : Nat} (h : sim C R w CT LN K) (hK : K ≤ K') (h1 : ∀ a j, a < 703 → ¬ (73 ≤ a ∧ a ≤ 76) → C' a j = C a j) (h2 : ∀ a j, 703 ≤ a → ¬ (a = 703 ∧ j = 0) → ¬ (719 ≤ a) → R' a j = R a j) : sim C' R' w CT LN K' := by
  obtain ⟨hw, hA, hI, hN, hS, hD, hV, hC, hM⟩ := h
  refine ⟨hw, simA_c hA (h1 _ _ (by decide) (by decide)) (h1 _ _ (by decide) (by decide)) (fun i => h1 _ _ (by decide) (by decide)) (fun i => h1 _ _ (by decide) (by decide)) (h2 _ _ (by decide) (by decide) (by decide)) (h2 _ _ (by decide) (by decide) (by decide)) (fun i => h2 _ _ (by decide) (by omega) (by decide)) (fun i => h2 _ _ (by decide) (by omega) (by decide)),
    simI_c hI (fun o j ho hj => h1 _ _ (by omega) (by omega)) (fun o ho => ⟨h2 _ _ (by decide) (by omega) (by decide), h2 _ _ (by decide) (by omega) (by decide), h2 _ _ (by decide) (by omega) (by decide), h2 _ _ (by decide) (by omega) (by decide), h2 _ _ (by decide) (by omega) (by decide)⟩),
    simN_c hN hK (fun n j hn _ => h1 _ _ (by omega) (by omega)) (fun n hn => ⟨h2 _ _ (by decide) (by omega) (by decide), h2 _ _ (by decide) (by omega) (by decide)⟩),
    simS_c hS (fun n o j hn ho => by have := hw n o; exact ⟨h1 _ _ (by omega) (by omega), h1 _ _ (by omega) (by omega)⟩) (fun k => ⟨h2 _ _ (by decide) (by omega) (by decide), h2 _ _ (by decide) (by omega) (by decide), h2 _ _ (by decide) (by omega) (by decide)⟩),
    simD_c hD (fun n o j hn ho => by have := hw n o; exact ⟨h1 _ _ (by omega) (by omega), h1 _ _ (by omega) (by omega)⟩) (fun k => ⟨h2 _ _ (by decide) (by omega) (by decide), h2 _ _ (by decide) (by omega) (by decide), h2 _ _ (by decide) (by omega) (by decide)⟩),
    simV_c hV hK (fun a j h3 h4 => h2 _ _ (by omega) (by omega) (by omega)) (fun k => ⟨h2 _ _ (by decide) (by omega) (by decide), h2 _ _ (by decide) (by omega) (by decide)⟩), hC,
    simM_c hM (fun a j ha => h1 _ _ (by omega) (by omega)) (fun a j h3 h4 => h1 _ _ (by omega) (by omega))⟩
theorem sim_swf (h : sim C R w CT LN K) (hK : K < 2 ^ 20) : swf C w := by
  obtain ⟨hw, hA, hI, hN, hS, hD, hV, hC, hM⟩ := h
  refine ⟨hw, fun n hn => ?_, fun o ho => ?_, fun n o b hn ho hb => ?_⟩
  · have g := hN n hn
    exact ⟨g.1, by omega, by omega⟩
  · have g := hI o ho
    have g2 := hV o ho
    have l1 := (hC o).2 (R 706 o)
    have l2 := (hC o).2 (R 708 o)
    refine ⟨fun j hj => ?_, by omega, by omega, by omega⟩
    rcases (by omega : j = 0 ∨ j = 1 ∨ j = 2 ∨ j = 3) with rfl | rfl | rfl | rfl <;> omega
  · have g := hS n o hn ho
    have g1 := hD n o hn ho
    have g2 := (hV o ho).2.2.2.2.2.2 n hn
    have g3 := (hV o ho).2.1
    have l1 := (hC o).2 (R 713 (12 * n + o))
    have hwn := hw n o
    by_cases e : b = w n o
    · subst e; exact ⟨by omega, by omega⟩
    · obtain rfl : b = 1 - w n o := by omega
      exact ⟨by omega, g1.2.1⟩
theorem sim_rwf (h : sim C R w CT LN K) (hK : K < 2 ^ 20) : rwf R := by
  obtain ⟨hw, hA, hI, hN, hS, hD, hV, hC, hM⟩ := h
  refine ⟨fun o ho => ?_, fun k hk => ?_⟩
  · have g2 := hV o ho
    have g3 := hN o ho
    have l1 := (hC o).2 (R 706 o)
    have l2 := (hC o).2 (R 708 o)
    exact ⟨by omega, by omega, by omega, by omega, by omega, by omega, by omega⟩
  · have ek : k = 12 * (k / 12) + k % 12 := by omega
    have g := hS (k / 12) (k % 12) (by omega) (by omega)
    have g1 := hD (k / 12) (k % 12) (by omega) (by omega)
    have g2 := (hV (k % 12) (by omega)).2.2.2.2.2.2 (k / 12) (by omega)
    have g3 := (hV (k % 12) (by omega)).2.1
    rw [← ek] at g g1 g2
    have l1 := (hC (k % 12)).2 (R 713 k)
    exact ⟨by omega, by omega, by omega, g1.2.2.1⟩
theorem sim_slv (h : sim C R w CT LN K) {k : Nat} (hk : k < 12) : slv C k = rlv R k := by
  have g := h.2.2.2.1 k hk
  unfold slv rlv
  by_cases e : R 711 k = 0
  · rw [decide_eq_true e, decide_eq_true (by omega)]
  · rw [decide_eq_false e, decide_eq_false (by omega)]
theorem sim_sfr (h : sim C R w CT LN K) {n o : Nat} (hn : n < 12) (ho : o < 12) : sfr C w n o = rfr R n o := by
  unfold sfr rfr
  rw [(h.2.2.2.2.1 n o hn ho).1, (h.2.2.1 o ho).1]
theorem sim_snr (h : sim C R w CT LN K) {n o : Nat} (hn : n < 12) (ho : o < 12) : snr C w n o = rwt R n o := by
  unfold snr rwt
  rw [sim_sfr h hn ho, (h.2.2.1 o ho).2.2.2.2]
theorem sim_saf (h : sim C R w CT LN K) {o m k : Nat} (ho : o < 12) (hk : k < 12) : saf C w o m k = rgp R o m k := by
  unfold saf rgp bitp
  rw [sim_slv h hk, sim_sfr h hk ho]
theorem moff_i {m n j : Nat} (hj : j < 12) : decide (moff m n / 2 ^ j % 2 = 1) = (bitp m j && decide (j ≠ n)) := by
  rw [← Nat.testBit_eq_decide_div_mod_eq]
  unfold moff
  rw [sm_k_tb, decide_eq_true hj]
  simp
theorem sim_rch (h : sim C R w CT LN K) {o m n k : Nat} (ho : o < 12) (hk : k < 12) : saf C w o (moff m n) k = rch R n o m k := by
  unfold saf rch
  rw [sim_slv h hk, sim_sfr h hk ho, moff_i hk]
  cases bitp m k <;> cases decide (k ≠ n) <;> rfl
theorem sim_n (h : sim C R w CT LN K) : sm_n (slv C) 12 = sm_n (rlv R) 12 := sm_n_congr 12 (fun k hk => sim_slv h hk)
theorem sim_rbo (h : sim C R w CT LN K) {n o : Nat} (hn : n < 12) (ho : o < 12) : rbo R (12 * n + o) = CT o (R 713 (12 * n + o)) := by
  funext i
  have g := h.2.2.2.2.1 n o hn ho
  have l := ((h.2.2.2.2.2.2.2.1 o).2 (R 713 (12 * n + o))).2 i
  unfold rbo
  rw [g.2.2.1]
  split
  · exact g.2.2.2.1 i (by assumption)
  · exact (l.2 (by omega)).symm
end
