/-! put's three cases -/
section
variable {C R : sm_X} {w : Nat → Nat → Nat} {CT : Nat → Nat → Nat → Nat} {LN : Nat → Nat → Nat} {K K' o n m : Nat}
theorem sm_n_in {p : Nat → Bool} {d : Nat} (hd : d < 12) (h : p d = true) : sm_n p d < sm_n p 12 := by
  have h1 := sm_n_mono p (show d + 1 ≤ 12 by omega)
  have h2 : sm_n p (d + 1) = sm_n p d + (if p d = true then 1 else 0) := rfl
  rw [if_pos h] at h2
  omega
theorem pu_slv {k : Nat} : slv (pu2 C o n) k = slv C k ∨ 12 ≤ k := by
  by_cases hk : k < 12
  · left
    unfold slv
    rw [pu2_o (by omega) (by omega)]
  · right; omega
theorem pu_ssT (h : sim C R w CT LN K) {c d : Nat} (hd : d < 12) : ssT (pu2 C o n) c d = rpT (rlv R) 0 c d := by
  have e : ∀ k, k < 12 → slv (pu2 C o n) k = rlv R k := fun k hk => ((pu_slv (o := o) (n := n)).resolve_right (by omega)).trans (sim_slv h hk)
  unfold ssT rpT
  rw [e d hd, sm_n_congr d (fun k hk => e k (by omega)), Nat.zero_add]
theorem pu_stp (h : sim C R w CT LN K) (ho : o < 12) (hn : n ≤ 240) {d : Nat} (hd : d < 12) : stp (pu3 C w o n (sm_n (slv C) 12)) w o d = rlv R d := by
  have hw := h.1
  have e3 : slv (pu3 C w o n (sm_n (slv C) 12)) d = rlv R d := by
    rw [← sim_slv h hd]
    unfold slv pu3
    rw [ssX_4 ho (fun k hk b hb => ⟨by omega, by omega⟩)]
    unfold ssZ
    rw [mf_o (by omega) _ (by rw [pu2_i.2.2.2.1]; omega), pu2_o (by omega) (by omega)]
  unfold stp
  rw [e3]
  by_cases hl : rlv R d = true
  · have hT : ssT (pu2 C o n) (sm_n (slv C) 12) d = true := by
      rw [pu_ssT h hd]
      unfold rpT
      rw [hl, Nat.zero_add, sim_n h, decide_eq_true (sm_n_in hd hl)]
      rfl
    rw [hl, pu3_i hn, pu2_i.2.2.1]
    unfold pu3
    rw [ssX_2 hw ho ho hd (by decide), if_pos ⟨rfl, hT⟩, if_pos rfl, decide_eq_true rfl]
    rfl
  · rw [Bool.eq_false_iff.mpr hl, Bool.false_and]
theorem pu_stT (h : sim C R w CT LN K) (ho : o < 12) (hn : n ≤ 240) (hm : (sm_n (slv C) 12) ≤ m) {d : Nat} (hd : d < 12) : stT (pu3 C w o n (sm_n (slv C) 12)) w o (m - (sm_n (slv C) 12)) d = rpT (rlv R) (sm_n (rlv R) 12) m d := by
  have e : ∀ k, k < 12 → stp (pu3 C w o n (sm_n (slv C) 12)) w o k = rlv R k := fun k hk => pu_stp h ho hn hk
  unfold stT rpT
  rw [e d hd, sm_n_congr d (fun k hk => e k (by omega)), ← sim_n h]
  congr 1
  by_cases q : sm_n (rlv R) d < m - (sm_n (slv C) 12)
  · rw [decide_eq_true q, decide_eq_true (by omega)]
  · rw [decide_eq_false q, decide_eq_false (by omega)]
theorem pu_21 {d : Nat} (h : rpT (rlv R) (sm_n (rlv R) 12) m d = true) : rpT (rlv R) 0 m d = true := by
  unfold rpT at h ⊢
  rw [Bool.and_eq_true] at h ⊢
  exact ⟨h.1, decide_eq_true (by have := of_decide_eq_true h.2; omega)⟩
theorem pu_T1 (h : sim C R w CT LN K) (hm : (sm_n (slv C) 12) ≤ m) {d : Nat} (hd : d < 12) : ssT (pu2 C o n) (sm_n (slv C) 12) d = rpT (rlv R) 0 m d := by
  rw [pu_ssT h hd]
  unfold rpT
  by_cases hl : rlv R d = true
  · have := sm_n_in hd hl
    rw [← sim_n h] at this
    rw [hl, decide_eq_true (by omega), decide_eq_true (by omega)]
  · rw [Bool.eq_false_iff.mpr hl, Bool.false_and, Bool.false_and]
theorem sim_putA (h : sim C R w CT LN K) (hK : K + 1 ≤ K') (ho : o < 12) (hn : n ≤ 240) (hm : m = 2 * (sm_n (slv C) 12)) : sim (puF (stX (stT (pu3 C w o n (sm_n (slv C) 12)) w o (m - (sm_n (slv C) 12))) (pu3 C w o n (sm_n (slv C) 12)) w o 12) o) (rpE R o n m) (stW (stT (pu3 C w o n (sm_n (slv C) 12)) w o (m - (sm_n (slv C) 12))) w o 12) (ctN R CT o n) (lnN R LN o n) K' := by
  have q := sim_put (fin := true) h hK ho hn (T1 := ssT (pu2 C o n) (sm_n (slv C) 12)) (T2 := stT (pu3 C w o n (sm_n (slv C) 12)) w o (m - (sm_n (slv C) 12))) (S1 := rpT (rlv R) 0 m) (S2 := rpT (rlv R) (sm_n (rlv R) 12) m) (fun d hd => pu_T1 h (by omega) hd) (fun d hd => pu_stT h ho hn (by omega) hd) (fun d hd => pu_21)
  rw [if_pos rfl, if_pos rfl] at q
  unfold rpE
  rw [if_pos (by rw [← sim_n h]; exact hm)]
  exact q
theorem sim_putB (h : sim C R w CT LN K) (hK : K + 1 ≤ K') (ho : o < 12) (hn : n ≤ 240) (hm : (sm_n (slv C) 12) ≤ m) (hm2 : m < 2 * (sm_n (slv C) 12)) : sim (stX (stT (pu3 C w o n (sm_n (slv C) 12)) w o (m - (sm_n (slv C) 12))) (pu3 C w o n (sm_n (slv C) 12)) w o 12) (rpE R o n m) (stW (stT (pu3 C w o n (sm_n (slv C) 12)) w o (m - (sm_n (slv C) 12))) w o 12) (ctN R CT o n) (lnN R LN o n) K' := by
  have q := sim_put (fin := false) h hK ho hn (T1 := ssT (pu2 C o n) (sm_n (slv C) 12)) (T2 := stT (pu3 C w o n (sm_n (slv C) 12)) w o (m - (sm_n (slv C) 12))) (S1 := rpT (rlv R) 0 m) (S2 := rpT (rlv R) (sm_n (rlv R) 12) m) (fun d hd => pu_T1 h hm hd) (fun d hd => pu_stT h ho hn hm hd) (fun d hd => pu_21)
  rw [if_neg (by decide), if_neg (by decide)] at q
  unfold rpE
  rw [if_neg (by rw [← sim_n h]; omega)]
  exact q
theorem sim_putC (h : sim C R w CT LN K) (hK : K + 1 ≤ K') (ho : o < 12) (hn : n ≤ 240) (hm : m < (sm_n (slv C) 12)) : sim (pu3 C w o n m) (rpE R o n m) w (ctN R CT o n) (lnN R LN o n) K' := by
  have q := sim_put (fin := false) h hK ho hn (T1 := ssT (pu2 C o n) m) (T2 := fun _ => false) (S1 := rpT (rlv R) 0 m) (S2 := rpT (rlv R) (sm_n (rlv R) 12) m) (fun d hd => pu_ssT h hd) (fun d hd => by
    unfold rpT
    rw [← sim_n h, decide_eq_false (by omega), Bool.and_false]) (fun d hd => pu_21)
  rw [if_neg (by decide), if_neg (by decide), show stW (fun _ => false) w o 12 = w from funext fun a => funext fun b => if_neg (by simp), show ∀ Z : sm_X, stX (fun _ => false) Z w o 12 = Z from fun Z => funext fun a => funext fun j => stX_o (by simp)] at q
  unfold rpE
  rw [if_neg (by rw [← sim_n h]; omega)]
  exact q
end
