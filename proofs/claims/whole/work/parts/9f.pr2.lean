/-! The same with the law's row written between the two calls -/
section
variable {X X1 X1' X2 : sm_X} {w w' : Nat → Nat → Nat} {CT CT' : Nat → Nat → Nat → Nat} {LN LN' : Nat → Nat → Nat} {K K' o n m : Nat}
theorem sim_l2 (h : sim X X w CT LN K) (hl : ∀ a j, 703 ≤ a → a ≠ 722 → X1 a j = X a j) : sim X X1 w CT LN K := sim_c h (Nat.le_refl K) (fun _ _ _ _ => rfl) (fun a j h1 _ h3 => hl a j h1 (by omega))
theorem pr_get2 (h : sim X X w CT LN K) (hK : K ≤ K') {d : Nat} (ho : o < 12) (hd : d < 12) (hfr : rfr X1' d o = true) (hZ : geP X (CT o (X 706 o)) (X (691 + o) 1) X1) (hq : ∀ a j, a ≠ 722 → X1' a j = X1 a j) (e2 : X2 = sm_uf (sm_up (sm_up X1' 703 0 0) 703 2 (X1' 707 o)) 705 (blk 0 (fun j => X1' 715 (240 * (12 * d + o) + j)) (X1' 705) (X1' 707 o))) : sim X2 X2 w CT LN K' := by
  have hl : ∀ a j, 703 ≤ a → a ≠ 722 → X1' a j = X a j := fun a j ha h2 => (hq a j h2).trans (hZ.1 a j (by omega) (by omega) (by omega))
  have s := sim_get (sim_l2 h hl) hK ho hd hfr (by rw [hl 706 o (by decide) (by decide)]; exact hZ)
  rw [← e2] at s
  exact sim_j s (fun a j ha => by rw [e2, sm_uf_o (by omega), sm_up_x (Or.inl (by omega)), sm_up_x (Or.inl (by omega)), hq a j (by omega)]) (fun _ _ _ => rfl)
theorem pr_rebuild2 {V : sm_X} (h : sim X X w CT LN K) (hK : K + 1 ≤ K') (hKb : K < 2 ^ 20) (hn : n < 12) (hm : m < 4096) (hC' : rI X w (fun k => CT k (X 706 k)) n m 12 X1) (hq : ∀ a j, a ≠ 722 → X1' a j = X1 a j) (hV : V = sm_up X1' 703 0 0) (hchk : ∀ k, k < 12 → rwt V n k = true → 0 < V 707 k → 8 ≤ sm_n (rch V n k m) 12) (hR' : rRI V n m 12 X2) : sim X2 X2 w CT LN K' := by
  have hl : ∀ a j, 703 ≤ a → a ≠ 722 → X1' a j = X a j := fun a j ha h2 => (hq a j h2).trans (hC'.1 a j (by omega) (by omega) (by omega) (by omega) (by rintro ⟨-, q, hq, e⟩; omega) (by rintro ⟨p, hp, -, e⟩; have := h.1 n p; omega))
  have hv : ∀ a j, ¬ (a = 703 ∧ j = 0) → V a j = X1' a j := fun a j q => by rw [hV]; exact sm_up_x (by omega)
  have s0 : sim X V w CT LN K := sim_c (sim_l2 h hl) (Nat.le_refl K) (fun _ _ _ _ => rfl) (fun a j _ q _ => hv a j q)
  have s := sim_rebuild s0 hK hKb hn hm hchk (by
    have e : (fun k => CT k (V 706 k)) = fun k => CT k (X 706 k) := funext fun k => by rw [hv 706 k (by omega), hl 706 k (by decide) (by decide)]
    rw [e]; exact hC') hR'
  exact sim_j s (fun a j ha => by rw [hR'.1 a j (by omega) (by omega) (by omega) (by omega) (by omega) (by omega), hv a j (by omega)]; exact hq a j (by omega)) (fun _ _ _ => rfl)
theorem pr_settle12 (h : sim X X w CT LN K) (hK : K ≤ K') (ho : o < 12) (hst : X 710 o ≠ 0) (hcn : rcn X1' o 12 = true) (e1 : X1 = (sm_up (sm_up (sm_up (sds (stX (stT X w o 12) X w o 12) (stW (stT X w o 12) w o 12) o 12) (691 + o) 0 ((sds (stX (stT X w o 12) X w o 12) (stW (stT X w o 12) w o 12) o 12) (691 + o) 2)) (691 + o) 1 ((sds (stX (stT X w o 12) X w o 12) (stW (stT X w o 12) w o 12) o 12) (691 + o) 3)) (691 + o) 4 0)) (hq : ∀ a j, a ≠ 722 → X1' a j = X1 a j) (e2 : X2 = rsE X1' o) : sim X2 X2 (stW (stT X w o 12) w o 12) CT LN K' := by
  have hl0 : ∀ a j, 703 ≤ a → X1 a j = X a j := fun a j ha => by rw [e1, sm_up_x (Or.inl (by omega)), sm_up_x (Or.inl (by omega)), sm_up_x (Or.inl (by omega)), sds_b (fun d hd b hb => by omega), stX_b (fun d hd b hb => by omega) h.1]
  have hl : ∀ a j, 703 ≤ a → a ≠ 722 → X1' a j = X a j := fun a j ha h2 => (hq a j h2).trans (hl0 a j ha)
  have s := sim_settle1 (sim_l2 h hl) hK ho (by rw [hl 710 o (by decide) (by decide)]; exact hst) hcn
  rw [← e1, ← e2] at s
  exact sim_j s (fun a j ha => by rw [e2, hi_rsE ha]; exact hq a j (by omega)) (fun _ _ _ => rfl)
theorem pr_settle02 (h : sim X X w CT LN K) (hK : K ≤ K') (ho : o < 12) (hcn : rcn X1' o 12 = false) (e1 : X1 = sm_up (sds X w o 12) (691 + o) 4 0) (hq : ∀ a j, a ≠ 722 → X1' a j = X1 a j) (e2 : X2 = rsE X1' o) : sim X2 X2 w CT LN K' := by
  have hl0 : ∀ a j, 703 ≤ a → X1 a j = X a j := fun a j ha => by rw [e1, sm_up_x (Or.inl (by omega)), sds_b (fun d hd b hb => by omega)]
  have hl : ∀ a j, 703 ≤ a → a ≠ 722 → X1' a j = X a j := fun a j ha h2 => (hq a j h2).trans (hl0 a j ha)
  have s := sim_settle0 (sim_l2 h hl) hK ho hcn
  rw [← e1, ← e2] at s
  exact sim_j s (fun a j ha => by rw [e2, hi_rsE ha]; exact hq a j (by omega)) (fun _ _ _ => rfl)
theorem pr_putA2 (h : sim X X w CT LN K) (hK : K + 1 ≤ K') (ho : o < 12) (hn : n ≤ 240) (hm : m = 2 * (sm_n (slv X) 12)) (e1 : X1 = puF (stX (stT (pu3 X w o n (sm_n (slv X) 12)) w o (m - (sm_n (slv X) 12))) (pu3 X w o n (sm_n (slv X) 12)) w o 12) o) (hq : ∀ a j, a ≠ 722 → X1' a j = X1 a j) (e2 : X2 = rpE X1' o n m) : sim X2 X2 (stW (stT (pu3 X w o n (sm_n (slv X) 12)) w o (m - (sm_n (slv X) 12))) w o 12) (ctN X1' CT o n) (lnN X1' LN o n) K' := by
  have hl0 : ∀ a j, 703 ≤ a → X1 a j = X a j := fun a j ha => by
    rw [e1]
    unfold puF
    rw [sm_up_x (Or.inl (by omega)), sm_up_x (Or.inl (by omega)), sm_up_x (Or.inl (by omega)), stX_b (fun d hd b hb => by omega) h.1, lo_pu3 ho hn ha]
  have hl : ∀ a j, 703 ≤ a → a ≠ 722 → X1' a j = X a j := fun a j ha h2 => (hq a j h2).trans (hl0 a j ha)
  have s := sim_putA (m := m) (sim_l2 h hl) hK ho hn hm
  rw [← e1, ← e2] at s
  exact sim_j s (fun a j ha => by rw [e2, hi_rpE ha]; exact hq a j (by omega)) (fun _ _ _ => rfl)
theorem pr_putB2 (h : sim X X w CT LN K) (hK : K + 1 ≤ K') (ho : o < 12) (hn : n ≤ 240) (hm : (sm_n (slv X) 12) ≤ m) (hm2 : m < 2 * (sm_n (slv X) 12)) (e1 : X1 = (stX (stT (pu3 X w o n (sm_n (slv X) 12)) w o (m - (sm_n (slv X) 12))) (pu3 X w o n (sm_n (slv X) 12)) w o 12)) (hq : ∀ a j, a ≠ 722 → X1' a j = X1 a j) (e2 : X2 = rpE X1' o n m) : sim X2 X2 (stW (stT (pu3 X w o n (sm_n (slv X) 12)) w o (m - (sm_n (slv X) 12))) w o 12) (ctN X1' CT o n) (lnN X1' LN o n) K' := by
  have hl0 : ∀ a j, 703 ≤ a → X1 a j = X a j := fun a j ha => by rw [e1, stX_b (fun d hd b hb => by omega) h.1, lo_pu3 ho hn ha]
  have hl : ∀ a j, 703 ≤ a → a ≠ 722 → X1' a j = X a j := fun a j ha h2 => (hq a j h2).trans (hl0 a j ha)
  have s := sim_putB (m := m) (sim_l2 h hl) hK ho hn hm hm2
  rw [← e1, ← e2] at s
  exact sim_j s (fun a j ha => by rw [e2, hi_rpE ha]; exact hq a j (by omega)) (fun _ _ _ => rfl)
theorem pr_putC2 (h : sim X X w CT LN K) (hK : K + 1 ≤ K') (ho : o < 12) (hn : n ≤ 240) (hm : m < (sm_n (slv X) 12)) (e1 : X1 = pu3 X w o n m) (hq : ∀ a j, a ≠ 722 → X1' a j = X1 a j) (e2 : X2 = rpE X1' o n m) : sim X2 X2 w (ctN X1' CT o n) (lnN X1' LN o n) K' := by
  have hl0 : ∀ a j, 703 ≤ a → X1 a j = X a j := fun a j ha => by rw [e1, lo_pu3 ho hn ha]
  have hl : ∀ a j, 703 ≤ a → a ≠ 722 → X1' a j = X a j := fun a j ha h2 => (hq a j h2).trans (hl0 a j ha)
  have s := sim_putC (m := m) (sim_l2 h hl) hK ho hn hm
  rw [← e1, ← e2] at s
  exact sim_j s (fun a j ha => by rw [e2, hi_rpE ha]; exact hq a j (by omega)) (fun _ _ _ => rfl)
end
