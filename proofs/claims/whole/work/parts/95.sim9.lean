/-! Both sides in one store: a call of the class, then the reference's -/
section
variable {X X1 X2 : sm_X} {w w' : Nat → Nat → Nat} {CT CT' : Nat → Nat → Nat → Nat} {LN LN' : Nat → Nat → Nat} {K K' o n m : Nat}
/-- from the class's cells before, the reference's cells after the class's call -/
theorem sim_l (h : sim X X w CT LN K) (hl : ∀ a j, 703 ≤ a → X1 a j = X a j) : sim X X1 w CT LN K := sim_c h (Nat.le_refl K) (fun _ _ _ _ => rfl) (fun a j h1 _ _ => hl a j h1)
theorem sim_j {C R : sm_X} (h : sim C R w CT LN K) (hC : ∀ a j, a < 703 → X2 a j = C a j) (hR : ∀ a j, 703 ≤ a → X2 a j = R a j) : sim X2 X2 w CT LN K := sim_c h (Nat.le_refl K) (fun a j h1 _ => hC a j h1) (fun a j h1 _ _ => hR a j h1)
/-- calls that only answer -/
theorem pr_same (h : sim X X w CT LN K) (hK : K ≤ K') (h2 : ∀ a j, ¬ (a = 703 ∧ j = 0) → ¬ (719 ≤ a) → X2 a j = X a j) : sim X2 X2 w CT LN K' := sim_c h hK (fun a j h1 _ => h2 a j (by omega) (by omega)) (fun a j _ h3 h4 => h2 a j h3 h4)
theorem pr_load (h : sim X X w CT LN K) (hK : K ≤ K') {i N : Nat} (hi : i < 60) (e1 : X1 = sm_uf X 77 (fun j => if 4 * i ≤ j ∧ j < 4 * i + 4 then N / 2 ^ (24 - 8 * (j - 4 * i)) % 256 else X 77 j)) (e2 : X2 = sm_uf (sm_up X1 703 0 0) 704 (blk (4 * i) (fun j => N / 2 ^ (24 - 8 * j) % 256) (X1 704) 4)) : sim X2 X2 w CT LN K' := by
  have s := sim_load (N := N) (sim_l h (X1 := X1) (fun a j ha => by rw [e1]; exact sm_uf_o (by omega))) hK hi
  rw [← e1, ← e2] at s
  exact sim_j s (fun a j ha => by rw [e2, sm_uf_o (by omega), sm_up_x (Or.inl (by omega))]) (fun _ _ _ => rfl)
theorem pr_cut (h : sim X X w CT LN K) (hK : K ≤ K') {q : Nat} (hq : q < 24) (e1 : X1 = sm_up X 0 9 q) (e2 : X2 = sm_up (sm_up X1 703 0 0) 703 4 q) : sim X2 X2 w CT LN K' := by
  have s := sim_cut (sim_l h (X1 := X1) (fun a j ha => by rw [e1]; exact sm_up_x (Or.inl (by omega)))) hK hq
  rw [← e1, ← e2] at s
  exact sim_j s (fun a j ha => by rw [e2, sm_up_x (Or.inl (by omega)), sm_up_x (Or.inl (by omega))]) (fun _ _ _ => rfl)
theorem pr_get (h : sim X X w CT LN K) (hK : K ≤ K') {d : Nat} (ho : o < 12) (hd : d < 12) (hfr : rfr X1 d o = true) (hZ : geP X (CT o (X 706 o)) (X (691 + o) 1) X1) (e2 : X2 = sm_uf (sm_up (sm_up X1 703 0 0) 703 2 (X1 707 o)) 705 (blk 0 (fun j => X1 715 (240 * (12 * d + o) + j)) (X1 705) (X1 707 o))) : sim X2 X2 w CT LN K' := by
  have hl : ∀ a j, 703 ≤ a → X1 a j = X a j := fun a j ha => hZ.1 a j (by omega) (by omega) (by omega)
  have s := sim_get (sim_l h hl) hK ho hd hfr (by rw [hl 706 o (by decide)]; exact hZ)
  rw [← e2] at s
  exact sim_j s (fun a j ha => by rw [e2, sm_uf_o (by omega), sm_up_x (Or.inl (by omega)), sm_up_x (Or.inl (by omega))]) (fun _ _ _ => rfl)
theorem pr_fail (h : sim X X w CT LN K) (hK : K ≤ K') (hn : n < 12) (e1 : X1 = sm_up X (79 + 51 * n) 3 0) (e2 : X2 = sm_up (sm_up X1 703 0 0) 711 n 1) : sim X2 X2 w CT LN K' := by
  have s := sim_fail (sim_l h (X1 := X1) (fun a j ha => by rw [e1]; exact sm_up_x (Or.inl (by omega)))) hK hn
  rw [← e1, ← e2] at s
  exact sim_j s (fun a j ha => by rw [e2, sm_up_x (Or.inl (by omega)), sm_up_x (Or.inl (by omega))]) (fun _ _ _ => rfl)
theorem pr_back (h : sim X X w CT LN K) (hK : K ≤ K') {e : Nat} (hn : n < 12) (e1 : X1 = nb X w n e 12) (e2 : X2 = rbk X1 n e 12) : sim X2 X2 w CT LN K' := by
  have s := sim_back (e := e) (sim_l h (X1 := X1) (fun a j ha => by rw [e1]; exact nb_o h.1 (by omega) (by rintro ⟨-, p, hp, q⟩; omega) 12 (Nat.le_refl 12))) hK hn
  rw [← e1, ← e2] at s
  exact sim_j s (fun a j ha => by rw [e2]; exact rbk_o (by omega) (by omega) (by omega) (Or.inr ⟨by omega, by omega⟩) 12) (fun _ _ _ => rfl)
theorem pr_rebuild {V : sm_X} (h : sim X X w CT LN K) (hK : K + 1 ≤ K') (hKb : K < 2 ^ 20) (hn : n < 12) (hm : m < 4096) (hC' : rI X w (fun k => CT k (X 706 k)) n m 12 X1) (hV : V = sm_up X1 703 0 0) (hchk : ∀ k, k < 12 → rwt V n k = true → 0 < V 707 k → 8 ≤ sm_n (rch V n k m) 12) (hR' : rRI V n m 12 X2) : sim X2 X2 w CT LN K' := by
  have hl : ∀ a j, 703 ≤ a → X1 a j = X a j := fun a j ha => hC'.1 a j (by omega) (by omega) (by omega) (by omega) (by rintro ⟨-, q, hq, e⟩; omega) (by rintro ⟨p, hp, -, e⟩; have := h.1 n p; omega)
  have hv : ∀ a j, ¬ (a = 703 ∧ j = 0) → V a j = X1 a j := fun a j q => by rw [hV]; exact sm_up_x (by omega)
  have s0 : sim X V w CT LN K := sim_c (sim_l h hl) (Nat.le_refl K) (fun _ _ _ _ => rfl) (fun a j _ q _ => hv a j q)
  have s := sim_rebuild s0 hK hKb hn hm hchk (by
    have e : (fun k => CT k (V 706 k)) = fun k => CT k (X 706 k) := funext fun k => by rw [hv 706 k (by omega), hl 706 k (by decide)]
    rw [e]; exact hC') hR'
  exact sim_j s (fun a j ha => by rw [hR'.1 a j (by omega) (by omega) (by omega) (by omega) (by omega) (by omega)]; exact hv a j (by omega)) (fun _ _ _ => rfl)
theorem hi_rsE {a j : Nat} (ha : a < 703) : rsE X o a j = X a j := by
  unfold rsE
  split
  · rw [sm_up_x (Or.inl (by omega)), sm_up_x (Or.inl (by omega)), sm_up_x (Or.inl (by omega))]; exact rst_o (by omega) (by omega) (by omega) (by omega) (by omega) 12
  · rw [sm_up_x (Or.inl (by omega))]; exact rst_o (by omega) (by omega) (by omega) (by omega) (by omega) 12
theorem hi_rpE {a j : Nat} (ha : a < 703) : rpE X o n m a j = X a j := by
  have e : rpZ X o n m a j = X a j := rpZ_o (by omega) (by omega) (by omega) (by omega) (by omega) (by omega) (by omega) (by omega) (by omega)
  unfold rpE
  split
  · rw [sm_up_x (Or.inl (by omega)), sm_up_x (Or.inl (by omega)), sm_up_x (Or.inl (by omega))]; exact e
  · rw [sm_up_x (Or.inl (by omega))]; exact e
theorem pr_settle1 (h : sim X X w CT LN K) (hK : K ≤ K') (ho : o < 12) (hst : X 710 o ≠ 0) (hcn : rcn X1 o 12 = true) (e1 : X1 = (sm_up (sm_up (sm_up (sds (stX (stT X w o 12) X w o 12) (stW (stT X w o 12) w o 12) o 12) (691 + o) 0 ((sds (stX (stT X w o 12) X w o 12) (stW (stT X w o 12) w o 12) o 12) (691 + o) 2)) (691 + o) 1 ((sds (stX (stT X w o 12) X w o 12) (stW (stT X w o 12) w o 12) o 12) (691 + o) 3)) (691 + o) 4 0)) (e2 : X2 = rsE X1 o) : sim X2 X2 (stW (stT X w o 12) w o 12) CT LN K' := by
  have hl : ∀ a j, 703 ≤ a → X1 a j = X a j := fun a j ha => by rw [e1, sm_up_x (Or.inl (by omega)), sm_up_x (Or.inl (by omega)), sm_up_x (Or.inl (by omega)), sds_b (fun d hd b hb => by omega), stX_b (fun d hd b hb => by omega) h.1]
  have s := sim_settle1 (sim_l h hl) hK ho (by rw [hl 710 o (by decide)]; exact hst) hcn
  rw [← e1, ← e2] at s
  exact sim_j s (fun a j ha => by rw [e2]; exact hi_rsE ha) (fun _ _ _ => rfl)
theorem pr_settle0 (h : sim X X w CT LN K) (hK : K ≤ K') (ho : o < 12) (hcn : rcn X1 o 12 = false) (e1 : X1 = sm_up (sds X w o 12) (691 + o) 4 0) (e2 : X2 = rsE X1 o) : sim X2 X2 w CT LN K' := by
  have hl : ∀ a j, 703 ≤ a → X1 a j = X a j := fun a j ha => by rw [e1, sm_up_x (Or.inl (by omega)), sds_b (fun d hd b hb => by omega)]
  have s := sim_settle0 (sim_l h hl) hK ho hcn
  rw [← e1, ← e2] at s
  exact sim_j s (fun a j ha => by rw [e2]; exact hi_rsE ha) (fun _ _ _ => rfl)
theorem lo_pu3 {c a j : Nat} (ho : o < 12) (hn : n ≤ 240) (ha : 703 ≤ a) : pu3 X w o n c a j = X a j := by
  unfold pu3
  rw [ssX_4 ho (fun d hd b hb => ⟨by omega, by omega⟩)]
  unfold ssZ
  rw [mf_o (by omega) _ (by rw [pu2_i.2.2.2.1]; omega), pu2_o (by omega) (by omega)]
theorem pr_putA (h : sim X X w CT LN K) (hK : K + 1 ≤ K') (ho : o < 12) (hn : n ≤ 240) (hm : m = 2 * (sm_n (slv X) 12)) (e1 : X1 = puF (stX (stT (pu3 X w o n (sm_n (slv X) 12)) w o (m - (sm_n (slv X) 12))) (pu3 X w o n (sm_n (slv X) 12)) w o 12) o) (e2 : X2 = rpE X1 o n m) : sim X2 X2 (stW (stT (pu3 X w o n (sm_n (slv X) 12)) w o (m - (sm_n (slv X) 12))) w o 12) (ctN X1 CT o n) (lnN X1 LN o n) K' := by
  have hl : ∀ a j, 703 ≤ a → X1 a j = X a j := fun a j ha => by
    rw [e1]
    unfold puF
    rw [sm_up_x (Or.inl (by omega)), sm_up_x (Or.inl (by omega)), sm_up_x (Or.inl (by omega)), stX_b (fun d hd b hb => by omega) h.1, lo_pu3 ho hn ha]
  have s := sim_putA (m := m) (sim_l h hl) hK ho hn hm
  rw [← e1, ← e2] at s
  exact sim_j s (fun a j ha => by rw [e2]; exact hi_rpE ha) (fun _ _ _ => rfl)
theorem pr_putB (h : sim X X w CT LN K) (hK : K + 1 ≤ K') (ho : o < 12) (hn : n ≤ 240) (hm : (sm_n (slv X) 12) ≤ m) (hm2 : m < 2 * (sm_n (slv X) 12)) (e1 : X1 = (stX (stT (pu3 X w o n (sm_n (slv X) 12)) w o (m - (sm_n (slv X) 12))) (pu3 X w o n (sm_n (slv X) 12)) w o 12)) (e2 : X2 = rpE X1 o n m) : sim X2 X2 (stW (stT (pu3 X w o n (sm_n (slv X) 12)) w o (m - (sm_n (slv X) 12))) w o 12) (ctN X1 CT o n) (lnN X1 LN o n) K' := by
  have hl : ∀ a j, 703 ≤ a → X1 a j = X a j := fun a j ha => by rw [e1, stX_b (fun d hd b hb => by omega) h.1, lo_pu3 ho hn ha]
  have s := sim_putB (m := m) (sim_l h hl) hK ho hn hm hm2
  rw [← e1, ← e2] at s
  exact sim_j s (fun a j ha => by rw [e2]; exact hi_rpE ha) (fun _ _ _ => rfl)
theorem pr_putC (h : sim X X w CT LN K) (hK : K + 1 ≤ K') (ho : o < 12) (hn : n ≤ 240) (hm : m < (sm_n (slv X) 12)) (e1 : X1 = pu3 X w o n m) (e2 : X2 = rpE X1 o n m) : sim X2 X2 w (ctN X1 CT o n) (lnN X1 LN o n) K' := by
  have hl : ∀ a j, 703 ≤ a → X1 a j = X a j := fun a j ha => by rw [e1, lo_pu3 ho hn ha]
  have s := sim_putC (m := m) (sim_l h hl) hK ho hn hm
  rw [← e1, ← e2] at s
  exact sim_j s (fun a j ha => by rw [e2]; exact hi_rpE ha) (fun _ _ _ => rfl)
end
