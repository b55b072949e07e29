/-! Masks as sets of nodes; choosing readers and helpers; asking helpers -/
def bitp (m k : Nat) : Bool := decide (m / 2 ^ k % 2 = 1)
theorem sm_k_tb (p : Nat → Bool) (n j : Nat) : (sm_k p n).testBit j = (decide (j < n) && p j) := by
  by_cases h : j < n
  · have h1 := sm_k_bit p n j h
    rw [Nat.testBit_eq_decide_div_mod_eq]
    cases hp : p j
    · rw [hp] at h1
      simp [h1, h]
    · rw [hp] at h1
      simp [h1, h]
  · rw [Nat.testBit_lt_two_pow (Nat.lt_of_lt_of_le (sm_k_lt p n) (Nat.pow_le_pow_right (by decide) (by omega)))]
    simp [h]
theorem mk_self {m : Nat} (hm : m < 4096) : sm_k (bitp m) 12 = m := by
  apply Nat.eq_of_testBit_eq
  intro j
  rw [sm_k_tb]
  by_cases h : j < 12
  · simp [h, bitp, Nat.testBit_eq_decide_div_mod_eq]
  · rw [Nat.testBit_lt_two_pow (x := m) (i := j) (Nat.lt_of_lt_of_le hm (Nat.pow_le_pow_right (n := 2) (by decide) (by omega : 12 ≤ j)))]
    simp [h]
theorem sn_clr (p : Nat → Bool) (b : Nat) : nI (sm_k p 12) &&& (nI (2 ^ b) ^^^ (-1)) = nI (sm_k (fun j => p j && decide (j ≠ b)) 12) := by
  rw [show (-1 : Int32) = nI 4294967295 from by decide, nx_xor, nx_and]
  congr 1
  apply Nat.eq_of_testBit_eq
  intro j
  rw [Nat.testBit_and, Nat.testBit_xor, sm_k_tb, sm_k_tb, Nat.testBit_two_pow, show (4294967295 : Nat) = 2 ^ 32 - 1 from rfl, Nat.testBit_two_pow_sub_one]
  by_cases h : j < 12
  · by_cases e : b = j
    · subst e
      simp [h, show b < 32 by omega]
    · simp [h, e, show j < 32 by omega, show j ≠ b from fun q => e q.symm]
  · simp [h]
theorem sm_n_congr {p q : Nat → Bool} : ∀ n, (∀ k, k < n → p k = q k) → sm_n p n = sm_n q n
  | 0, _ => rfl
  | n + 1, h => by
    show sm_n p n + (if p n = true then 1 else 0) = sm_n q n + (if q n = true then 1 else 0)
    rw [sm_n_congr n (fun k hk => h k (by omega)), h n (by omega)]
theorem pop_k (p : Nat → Bool) : pop (sm_k p 12) = sm_n p 12 := by
  refine sm_n_congr 12 (fun k hk => ?_)
  have h := sm_k_bit p 12 k hk
  cases hp : p k
  · rw [hp] at h; simp [h]
  · rw [hp] at h; simp [h]
theorem sm_n_rm {p : Nat → Bool} {b : Nat} (hp : p b = true) : ∀ n, (b < n → sm_n (fun j => p j && decide (j ≠ b)) n + 1 = sm_n p n) ∧ (n ≤ b → sm_n (fun j => p j && decide (j ≠ b)) n = sm_n p n)
  | 0 => ⟨fun h => absurd h (Nat.not_lt_zero b), fun _ => rfl⟩
  | n + 1 => by
    have ih := sm_n_rm hp n
    show (b < n + 1 → (sm_n (fun j => p j && decide (j ≠ b)) n + (if (p n && decide (n ≠ b)) = true then 1 else 0)) + 1 = sm_n p n + (if p n = true then 1 else 0)) ∧ (n + 1 ≤ b → sm_n (fun j => p j && decide (j ≠ b)) n + (if (p n && decide (n ≠ b)) = true then 1 else 0) = sm_n p n + (if p n = true then 1 else 0))
    by_cases e : n = b
    · subst e
      refine ⟨fun _ => ?_, fun h => absurd h (by omega)⟩
      rw [ih.2 (Nat.le_refl n)]
      simp [hp]
    · have e2 : (p n && decide (n ≠ b)) = p n := by simp [e]
      rw [e2]
      refine ⟨fun h => ?_, fun h => ?_⟩
      · have := ih.1 (by omega)
        omega
      · rw [ih.2 (by omega)]
theorem sm_n_ex {p : Nat → Bool} : ∀ n, 0 < sm_n p n → ∃ j, j < n ∧ p j = true
  | 0, h => absurd h (Nat.lt_irrefl 0)
  | n + 1, h => by
    by_cases e : p n = true
    · exact ⟨n, by omega, e⟩
    · have h2 : sm_n p (n + 1) = sm_n p n := by
        show sm_n p n + (if p n = true then 1 else 0) = sm_n p n
        rw [if_neg e, Nat.add_zero]
      rw [h2] at h
      obtain ⟨j, h3, h4⟩ := sm_n_ex n h
      exact ⟨j, by omega, h4⟩
theorem sm_k_ne {p : Nat → Bool} {j : Nat} (hj : j < 12) (h : p j = true) : sm_k p 12 ≠ 0 := fun e => by
  have := (sm_k_bit p 12 j hj).mpr h
  rw [e, Nat.zero_div] at this
  exact absurd this (by decide)
/-- the node of a set that has sent least, the lowest of equal ones; its number and one; 0: none -/
def bst (X : sm_X) (p : Nat → Bool) : Nat → Nat
  | 0 => 0
  | k + 1 => if p k = true ∧ (bst X p k = 0 ∨ X (79 + 51 * k) 4 < X (79 + 51 * (bst X p k - 1)) 4) then k + 1 else bst X p k
section
variable {X Z : sm_X} {p : Nat → Bool}
theorem bst_p : ∀ k, bst X p k ≤ k ∧ (bst X p k ≠ 0 → p (bst X p k - 1) = true)
  | 0 => ⟨Nat.le_refl 0, fun h => absurd rfl h⟩
  | k + 1 => by
    have ih := bst_p k
    show (if p k = true ∧ (bst X p k = 0 ∨ X (79 + 51 * k) 4 < X (79 + 51 * (bst X p k - 1)) 4) then k + 1 else bst X p k) ≤ k + 1 ∧ _
    have e : bst X p (k + 1) = if p k = true ∧ (bst X p k = 0 ∨ X (79 + 51 * k) 4 < X (79 + 51 * (bst X p k - 1)) 4) then k + 1 else bst X p k := rfl
    rw [e]
    split
    · rename_i h
      exact ⟨Nat.le_refl _, fun _ => h.1⟩
    · exact ⟨by omega, ih.2⟩
theorem bst_ne {j : Nat} (h : p j = true) : ∀ k, j < k → bst X p k ≠ 0
  | 0, hj => absurd hj (Nat.not_lt_zero j)
  | k + 1, hj => by
    have e : bst X p (k + 1) = if p k = true ∧ (bst X p k = 0 ∨ X (79 + 51 * k) 4 < X (79 + 51 * (bst X p k - 1)) 4) then k + 1 else bst X p k := rfl
    rw [e]
    by_cases ej : j = k
    · subst ej
      by_cases h0 : bst X p j = 0
      · rw [if_pos ⟨h, Or.inl h0⟩]; omega
      · split
        · omega
        · exact h0
    · have ih := bst_ne h k (by omega)
      split
      · omega
      · exact ih
theorem bst_congr (h : ∀ n, n < 12 → Z (79 + 51 * n) 4 = X (79 + 51 * n) 4) : ∀ k, k ≤ 12 → bst Z p k = bst X p k
  | 0, _ => rfl
  | k + 1, hk => by
    have ih := bst_congr h k (by omega)
    have hb := (bst_p (X := X) (p := p) k).1
    show (if p k = true ∧ (bst Z p k = 0 ∨ Z (79 + 51 * k) 4 < Z (79 + 51 * (bst Z p k - 1)) 4) then k + 1 else bst Z p k) = (if p k = true ∧ (bst X p k = 0 ∨ X (79 + 51 * k) 4 < X (79 + 51 * (bst X p k - 1)) 4) then k + 1 else bst X p k)
    rw [ih, h k (by omega), h (bst X p k - 1) (by omega)]
end
theorem sn_b0 {b : Nat} (h : b < 2 ^ 31) : nI b + (-1) = -1 ↔ b = 0 := by
  constructor
  · intro e
    cases b with
    | zero => rfl
    | succ b =>
      rw [sn_m1] at e
      exact absurd e (sn_nm (by omega))
  · intro e
    subst e
    decide

theorem swf_team {X Z : sm_X} {w : Nat → Nat → Nat} (hf : swf X w) (h : ∀ a j, a ≠ 74 → a ≠ 75 → ¬ (a = 73 ∧ j = 2) → Z a j = X a j) : swf Z w := by
  refine ⟨hf.1, fun n hn => ?_, fun o ho => ?_, fun n o b hn ho hb => ?_⟩
  · rw [h _ 0 (by omega) (by omega) (by omega), h _ 3 (by omega) (by omega) (by omega), h _ 4 (by omega) (by omega) (by omega)]
    exact hf.2.1 n hn
  · rw [h _ 4 (by omega) (by omega) (by omega), h _ 1 (by omega) (by omega) (by omega), h _ 3 (by omega) (by omega) (by omega)]
    refine ⟨fun j hj => ?_, (hf.2.2.1 o ho).2⟩
    rw [h _ j (by omega) (by omega) (by omega)]
    exact (hf.2.2.1 o ho).1 j hj
  · rw [h _ 0 (by omega) (by omega) (by omega), h _ 1 (by omega) (by omega) (by omega)]
    exact hf.2.2.2 n o b hn ho hb

set_option maxHeartbeats 4000000 in
set_option maxRecDepth 100000 in
theorem c_S_leastSent (l : Launch) (Ω : sm_Ω) {X : sm_X} {w : Nat → Nat → Nat} (hf : swf X w) {p : Nat → Bool} : sm_met l Ω y_S_leastSent b_S_leastSent 5 (some .int) 1 723 [.ref (Ω.2.1 + 0), .int (nI (sm_k p 12))] X (sm_rf w) (sm_det (some (.int (nI (bst X p 12) + (-1)))) X (sm_rf w)) := by
  refine sm_intro (own := RX6) (L := [some (.ref (Ω.2.1 + 0)), some (.int (nI (sm_k p 12))), none, none, none]) (by decide) rfl (by simp [Value.category]) (Nat.le_of_ble_eq_true rfl) rfl ?_
  intro Γ C I
  have hw := hf.1
  have hkl := sm_k_lt p 12
  refine sg_icm (pc := 0) (v := -1) C d_S_leastSent_0 (by decide) ?_
  refine sg_is2 (pc := 1) C d_S_leastSent_1 ?_
  refine sg_ic (pc := 2) (v := 0) C d_S_leastSent_2 (by decide) ?_
  refine sg_is3 (pc := 3) C d_S_leastSent_3 ?_
  have loop : ∀ t k z, k + t = 12 → sm_G Γ Ω 723 0 0 4 [some (.ref (Ω.2.1 + 0)), some (.int (nI (sm_k p 12))), some (.int (nI (bst X p k) + (-1))), some (.int (nI k)), z] [] X (sm_rf w) := by
    intro t
    induction t with
    | zero =>
      intro k z hk
      refine sg_iln (pc := 4) C d_S_leastSent_4 rfl ?_
      refine sg_bi (pc := 5) (v := 12) C d_S_leastSent_5 (by decide) ?_
      refine sg_icge (pc := 7) (tgt := 65) C d_S_leastSent_7 (by decide) (by omega) (by omega) (fun h7 => ?_) (fun h7 => absurd h7 (by omega))
      refine sg_iln (pc := 65) C d_S_leastSent_65 rfl ?_
      exact sg_iret (pc := 66) C I rfl rfl d_S_leastSent_66 ⟨by rw [show k = 12 by omega], rfl, rfl⟩
    | succ t ih =>
      intro k z hk
      have hbk := hf.2.1 k (by omega)
      have hb := bst_p (X := X) (p := p) k
      have hmk : sm_k p 12 / 2 ^ k % 2 < 2 := Nat.mod_lt _ (by decide)
      have hp := sm_k_bit p 12 k (by omega)
      have es : bst X p (k + 1) = if p k = true ∧ (bst X p k = 0 ∨ X (79 + 51 * k) 4 < X (79 + 51 * (bst X p k - 1)) 4) then k + 1 else bst X p k := rfl
      refine sg_iln (pc := 4) C d_S_leastSent_4 rfl ?_
      refine sg_bi (pc := 5) (v := 12) C d_S_leastSent_5 (by decide) ?_
      refine sg_icge (pc := 7) (tgt := 65) C d_S_leastSent_7 (by decide) (by omega) (by omega) (fun h7 => absurd h7 (by omega)) (fun h7 => ?_)
      refine sg_iln (pc := 10) C d_S_leastSent_10 rfl ?_
      refine sg_iln (pc := 11) C d_S_leastSent_11 rfl ?_
      refine sr_ishr (pc := 12) C d_S_leastSent_12 (sn_shr (by omega) (by omega)) ?_
      refine sg_ic (pc := 13) (v := 1) C d_S_leastSent_13 (by decide) ?_
      refine sg_and (pc := 14) C d_S_leastSent_14 ?_
      rw [Nat.and_one_is_mod]
      refine sg_ic (pc := 15) (v := 1) C d_S_leastSent_15 (by decide) ?_
      refine sg_icne (pc := 16) (tgt := 23) C d_S_leastSent_16 (by decide) (by omega) (by omega) (fun h16 => ?_) (fun h16 => ?_)
      · refine sg_ic (pc := 23) (v := 0) C d_S_leastSent_23 (by decide) ?_
        refine sg_is4 (pc := 24) C d_S_leastSent_24 ?_
        refine sg_il (pc := 26) C d_S_leastSent_26 rfl ?_
        refine sg_ifeq (pc := 28) (tgt := 59) C d_S_leastSent_28 (by decide) (by omega) (fun h28 => ?_) (fun h28 => absurd rfl h28)
        refine sg_inc3 (pc := 59) (n := 1) C d_S_leastSent_59 (by decide) ?_
        refine sg_goto (pc := 62) (tgt := 4) C d_S_leastSent_62 (by decide) ?_
        have h := ih (k + 1) (some (.int (nI 0))) (by omega)
        rw [es, if_neg (fun q => h16 (hp.mpr q.1))] at h
        exact h
      · refine sg_ic (pc := 19) (v := 1) C d_S_leastSent_19 (by decide) ?_
        refine sg_goto (pc := 20) (tgt := 24) C d_S_leastSent_20 (by decide) ?_
        refine sg_is4 (pc := 24) C d_S_leastSent_24 ?_
        refine sg_il (pc := 26) C d_S_leastSent_26 rfl ?_
        refine sg_ifeq (pc := 28) (tgt := 59) C d_S_leastSent_28 (by decide) (by omega) (fun h28 => absurd h28 (by decide)) (fun h28 => ?_)
        refine sg_iln (pc := 31) C d_S_leastSent_31 rfl ?_
        refine sg_icm (pc := 32) (v := -1) C d_S_leastSent_32 (by decide) ?_
        refine sr_iceq (pc := 33) (tgt := 57) C d_S_leastSent_33 (by decide) (fun h33 => ?_) (fun h33 => ?_)
        · refine sg_iln (pc := 57) C d_S_leastSent_57 rfl ?_
          refine sg_is2 (pc := 58) C d_S_leastSent_58 ?_
          refine sg_inc3 (pc := 59) (n := 1) C d_S_leastSent_59 (by decide) ?_
          refine sg_goto (pc := 62) (tgt := 4) C d_S_leastSent_62 (by decide) ?_
          have h := ih (k + 1) (some (.int (nI 1))) (by omega)
          rw [es, if_pos ⟨hp.mp h16, Or.inl ((sn_b0 (by omega)).mp h33)⟩, sn_m1] at h
          exact h
        · obtain ⟨b', hb'⟩ : ∃ b', bst X p k = b' + 1 := ⟨bst X p k - 1, by have := mt (sn_b0 (b := bst X p k) (by omega)).mpr h33; omega⟩
          rw [hb', sn_m1]
          have hbb := hf.2.1 b' (by omega)
          refine sg_aln (pc := 36) C d_S_leastSent_36 rfl ?_
          refine sg_getr (pc := 37) C fw_S_25 (by omega) rfl rfl rfl d_S_leastSent_37 ?_
          refine sg_iln (pc := 40) C d_S_leastSent_40 rfl ?_
          refine sg_aald (pc := 41) (n := 12) (t := 4) C (by omega) rfl (by decide) rfl rfl (by omega) (by decide) (rf_nodes (by omega)) d_S_leastSent_41 ?_
          refine sg_geti (pc := 42) C fw_S_165 (by omega) (sh_N (by omega)) rfl d_S_leastSent_42 ?_
          refine sg_aln (pc := 45) C d_S_leastSent_45 rfl ?_
          refine sg_getr (pc := 46) C fw_S_25 (by omega) rfl rfl rfl d_S_leastSent_46 ?_
          refine sg_iln (pc := 49) C d_S_leastSent_49 rfl ?_
          refine sg_aald (pc := 50) (n := 12) (t := 4) C (by omega) rfl (by decide) rfl rfl (by omega) (by decide) (rf_nodes (by omega)) d_S_leastSent_50 ?_
          refine sg_geti (pc := 51) C fw_S_165 (by omega) (sh_N (by omega)) rfl d_S_leastSent_51 ?_
          refine sg_icge (pc := 54) (tgt := 59) C d_S_leastSent_54 (by decide) (by omega) (by omega) (fun h54 => ?_) (fun h54 => ?_)
          · refine sg_inc3 (pc := 59) (n := 1) C d_S_leastSent_59 (by decide) ?_
            refine sg_goto (pc := 62) (tgt := 4) C d_S_leastSent_62 (by decide) ?_
            have h := ih (k + 1) (some (.int (nI 1))) (by omega)
            rw [es, if_neg (fun q => q.2.elim (fun z => by omega) (fun z => by rw [hb'] at z; simp only [Nat.add_sub_cancel] at z; omega)), hb', sn_m1] at h
            exact h
          · refine sg_iln (pc := 57) C d_S_leastSent_57 rfl ?_
            refine sg_is2 (pc := 58) C d_S_leastSent_58 ?_
            refine sg_inc3 (pc := 59) (n := 1) C d_S_leastSent_59 (by decide) ?_
            refine sg_goto (pc := 62) (tgt := 4) C d_S_leastSent_62 (by decide) ?_
            have h := ih (k + 1) (some (.int (nI 1))) (by omega)
            rw [es, if_pos ⟨hp.mp h16, Or.inr (by rw [hb']; simp only [Nat.add_sub_cancel]; omega)⟩, sn_m1] at h
            exact h
  have h0 := loop 12 0 none (by omega)
  rw [show nI (bst X p 0) + (-1) = -1 from by show nI 0 + (-1) = -1; decide] at h0
  exact h0

def clI (X : sm_X) (p : Nat → Bool) (k : Nat) (Z : sm_X) : Prop := (∀ a b, ¬ (a = 73 ∧ b = 2) → a ≠ 74 → a ≠ 75 → Z a b = X a b) ∧ Z 73 2 = sm_n p k ∧ Z 73 2 ≤ 5 ∧ (∀ j, j < Z 73 2 → Z 74 j < k ∧ p (Z 74 j) = true ∧ Z 75 j = Z 74 j + 1) ∧ ∀ i j, i < j → j < Z 73 2 → Z 74 i < Z 74 j
theorem cl_0 {X : sm_X} {p : Nat → Bool} : clI X p 0 (sm_up X 73 2 0) := ⟨fun a b h _ _ => if_neg h, sm_up_s, by rw [sm_up_s]; decide, fun j h => by rw [sm_up_s] at h; omega, fun i j _ h => by rw [sm_up_s] at h; omega⟩
theorem cl_f {X Z : sm_X} {p : Nat → Bool} {k : Nat} (h : clI X p k Z) (hp : p k = false) : clI X p (k + 1) Z := by
  refine ⟨h.1, ?_, h.2.2.1, fun j hj => ?_, h.2.2.2.2⟩
  · show Z 73 2 = sm_n p k + (if p k = true then 1 else 0)
    rw [hp]; exact h.2.1
  · have := h.2.2.2.1 j hj
    exact ⟨by omega, this.2⟩
theorem cl_t {X Z : sm_X} {p : Nat → Bool} {k : Nat} (h : clI X p k Z) (hp : p k = true) (h5 : Z 73 2 < 5) : clI X p (k + 1) (sm_up (sm_up (sm_up Z 74 (Z 73 2) k) 75 (Z 73 2) (k + 1)) 73 2 (Z 73 2 + 1)) := by
  have e73 : sm_up (sm_up (sm_up Z 74 (Z 73 2) k) 75 (Z 73 2) (k + 1)) 73 2 (Z 73 2 + 1) 73 2 = Z 73 2 + 1 := sm_up_s
  have e74 : ∀ j, sm_up (sm_up (sm_up Z 74 (Z 73 2) k) 75 (Z 73 2) (k + 1)) 73 2 (Z 73 2 + 1) 74 j = if j = Z 73 2 then k else Z 74 j := by
    intro j
    rw [sm_up_x (Or.inl (by decide)), sm_up_x (Or.inl (by decide))]
    by_cases e : j = Z 73 2
    · rw [if_pos e, e, sm_up_s]
    · rw [if_neg e, sm_up_n e]
  have e75 : ∀ j, sm_up (sm_up (sm_up Z 74 (Z 73 2) k) 75 (Z 73 2) (k + 1)) 73 2 (Z 73 2 + 1) 75 j = if j = Z 73 2 then k + 1 else Z 75 j := by
    intro j
    rw [sm_up_x (Or.inl (by decide))]
    by_cases e : j = Z 73 2
    · rw [if_pos e, e, sm_up_s]
    · rw [if_neg e, sm_up_n e, sm_up_x (Or.inl (by decide))]
  refine ⟨fun a b h1 h2 h3 => ?_, ?_, ?_, fun j hj => ?_, fun i j hij hj => ?_⟩
  · rw [sm_up_x (by omega), sm_up_x (Or.inl h3), sm_up_x (Or.inl h2)]
    exact h.1 a b h1 h2 h3
  · rw [e73]
    show Z 73 2 + 1 = sm_n p k + (if p k = true then 1 else 0)
    rw [hp, h.2.1]; rfl
  · rw [e73]; omega
  · rw [e73] at hj
    rw [e74, e75]
    by_cases e : j = Z 73 2
    · rw [if_pos e, if_pos e]; exact ⟨by omega, hp, rfl⟩
    · rw [if_neg e, if_neg e]
      have := h.2.2.2.1 j (by omega)
      exact ⟨by omega, this.2⟩
  · rw [e73] at hj
    rw [e74, e74, if_neg (by omega : i ≠ Z 73 2)]
    by_cases e : j = Z 73 2
    · rw [if_pos e]; exact (h.2.2.2.1 i (by omega)).1
    · rw [if_neg e]; exact h.2.2.2.2 i j hij (by omega)
def clP (X : sm_X) (p : Nat → Bool) (Z : sm_X) : Prop := (∀ a b, ¬ (a = 73 ∧ b = 2) → a ≠ 74 → a ≠ 75 → Z a b = X a b) ∧ (∀ j, j < 5 → Z 74 j < 12 ∧ p (Z 74 j) = true ∧ Z 75 j = Z 74 j + 1) ∧ ∀ i j, i < j → j < 5 → Z 74 i < Z 74 j
theorem cl_end {X Z : sm_X} {p : Nat → Bool} {k : Nat} (hk : k ≤ 12) (h : clI X p k Z) (h5 : 5 ≤ Z 73 2) : clP X p Z := ⟨h.1, fun j hj => by have := h.2.2.2.1 j (by omega); exact ⟨by omega, this.2⟩, fun i j hij hj => h.2.2.2.2 i j hij (by omega)⟩

set_option maxHeartbeats 4000000 in
set_option maxRecDepth 100000 in
theorem c_S_chooseLowest (l : Launch) (Ω : sm_Ω) {X : sm_X} {w : Nat → Nat → Nat} {p : Nat → Bool} (h5p : 5 ≤ sm_n p 12) : sm_met l Ω y_S_chooseLowest b_S_chooseLowest 3 none 2 723 [.ref (Ω.2.1 + 0), .int (nI (sm_k p 12))] X (sm_rf w) (fun r X2 Y2 => r = none ∧ clP X p X2 ∧ Y2 = sm_rf w) := by
  refine sm_intro (own := RX6) (L := [some (.ref (Ω.2.1 + 0)), some (.int (nI (sm_k p 12))), none]) (by decide) rfl (by simp [Value.category]) (Nat.le_of_ble_eq_true rfl) rfl ?_
  intro Γ C I
  have hkl := sm_k_lt p 12
  refine sg_aln (pc := 0) C d_S_chooseLowest_0 rfl ?_
  refine sg_getr (pc := 1) C fw_S_38 (by omega) rfl rfl rfl d_S_chooseLowest_1 ?_
  refine sm_callV (pc := 4) (As := []) C I (c_T_clear l Ω) cw_S_255 iw_T_clear (C.1.2.2.2.2 _ (List.mem_cons_of_mem _ se_T_clear)) (by omega) rfl rfl rfl rfl (by decide) ⟨by decide, by decide⟩ rfl (Nat.le_of_ble_eq_true rfl) d_S_chooseLowest_4 (sm_det_v ?_)
  refine sg_ic (pc := 7) (v := 0) C d_S_chooseLowest_7 (by decide) ?_
  refine sg_is2 (pc := 8) C d_S_chooseLowest_8 ?_
  have loop : ∀ t k (Z : sm_X), k + t = 12 → clI X p k Z → sm_G Γ Ω 723 0 0 9 [some (.ref (Ω.2.1 + 0)), some (.int (nI (sm_k p 12))), some (.int (nI k))] [] Z (sm_rf w) := by
    intro t
    induction t with
    | zero =>
      intro k Z hk hI
      refine sg_iln (pc := 9) C d_S_chooseLowest_9 rfl ?_
      refine sg_bi (pc := 10) (v := 12) C d_S_chooseLowest_10 (by decide) ?_
      refine sg_icge (pc := 12) (tgt := 49) C d_S_chooseLowest_12 (by decide) (by omega) (by omega) (fun h12 => ?_) (fun h12 => absurd h12 (by omega))
      exact sg_vret (pc := 49) C I rfl d_S_chooseLowest_49 ⟨rfl, cl_end (k := k) (by omega) hI (by have h2 := hI.2.1; rw [show k = 12 by omega] at h2; omega), rfl⟩
    | succ t ih =>
      intro k Z hk hI
      have h5 := hI.2.2.1
      have hmk : sm_k p 12 / 2 ^ k % 2 < 2 := Nat.mod_lt _ (by decide)
      have hp := sm_k_bit p 12 k (by omega)
      refine sg_iln (pc := 9) C d_S_chooseLowest_9 rfl ?_
      refine sg_bi (pc := 10) (v := 12) C d_S_chooseLowest_10 (by decide) ?_
      refine sg_icge (pc := 12) (tgt := 49) C d_S_chooseLowest_12 (by decide) (by omega) (by omega) (fun h12 => absurd h12 (by omega)) (fun h12 => ?_)
      refine sg_aln (pc := 15) C d_S_chooseLowest_15 rfl ?_
      refine sg_getr (pc := 16) C fw_S_38 (by omega) rfl rfl rfl d_S_chooseLowest_16 ?_
      refine sg_geti (pc := 19) C fw_S_258 (by omega) rfl rfl d_S_chooseLowest_19 ?_
      refine sg_ic (pc := 22) (v := 5) C d_S_chooseLowest_22 (by decide) ?_
      refine sg_icge (pc := 23) (tgt := 49) C d_S_chooseLowest_23 (by decide) (by omega) (by omega) (fun h23 => ?_) (fun h23 => ?_)
      · exact sg_vret (pc := 49) C I rfl d_S_chooseLowest_49 ⟨rfl, cl_end (k := k) (by omega) hI (by omega), rfl⟩
      · refine sg_iln (pc := 26) C d_S_chooseLowest_26 rfl ?_
        refine sg_iln (pc := 27) C d_S_chooseLowest_27 rfl ?_
        refine sr_ishr (pc := 28) C d_S_chooseLowest_28 (sn_shr (by omega) (by omega)) ?_
        refine sg_ic (pc := 29) (v := 1) C d_S_chooseLowest_29 (by decide) ?_
        refine sg_and (pc := 30) C d_S_chooseLowest_30 ?_
        rw [Nat.and_one_is_mod]
        refine sg_ic (pc := 31) (v := 1) C d_S_chooseLowest_31 (by decide) ?_
        refine sg_icne (pc := 32) (tgt := 43) C d_S_chooseLowest_32 (by decide) (by omega) (by omega) (fun h32 => ?_) (fun h32 => ?_)
        · refine sg_inc2 (pc := 43) (n := 1) C d_S_chooseLowest_43 (by decide) ?_
          refine sg_goto (pc := 46) (tgt := 9) C d_S_chooseLowest_46 (by decide) ?_
          exact ih (k + 1) Z (by omega) (cl_f hI (by cases e : p k <;> simp_all))
        · refine sg_aln (pc := 35) C d_S_chooseLowest_35 rfl ?_
          refine sg_getr (pc := 36) C fw_S_38 (by omega) rfl rfl rfl d_S_chooseLowest_36 ?_
          refine sg_iln (pc := 39) C d_S_chooseLowest_39 rfl ?_
          refine sm_callV (pc := 40) (As := [.int (nI k)]) C I (c_T_add l Ω (by omega)) cw_S_261 iw_T_add (C.1.2.2.2.2 _ (List.mem_cons_of_mem _ se_T_add)) (by omega) rfl rfl rfl rfl (by decide) ⟨by decide, by decide⟩ rfl (Nat.le_of_ble_eq_true rfl) d_S_chooseLowest_40 (sm_det_v ?_)
          refine sg_inc2 (pc := 43) (n := 1) C d_S_chooseLowest_43 (by decide) ?_
          refine sg_goto (pc := 46) (tgt := 9) C d_S_chooseLowest_46 (by decide) ?_
          exact ih (k + 1) _ (by omega) (cl_t hI (hp.mp h32) (by omega))
  exact loop 12 0 _ (by omega) cl_0

def cP (X : sm_X) (p : Nat → Bool) : Nat → (Nat → Bool)
  | 0 => p
  | k + 1 => fun j => cP X p k j && decide (j ≠ bst X (cP X p k) 12 - 1)
def cM (X : sm_X) (p : Nat → Bool) (k : Nat) : Nat := bst X (cP X p k) 12 - 1
def clX (X : sm_X) (p : Nat → Bool) (k : Nat) : sm_X := fun a j => if a = 74 ∧ j < k then cM X p j else if a = 75 ∧ j < k then cM X p j + 1 else if a = 73 ∧ j = 2 then k else X a j
section
variable {X : sm_X} {p : Nat → Bool}
theorem cP_n (h8 : 8 ≤ sm_n p 12) : ∀ k, k ≤ 8 → sm_n (cP X p k) 12 + k = sm_n p 12
  | 0, _ => rfl
  | k + 1, hk => by
    have ih := cP_n h8 k (by omega)
    obtain ⟨j, hj, hp⟩ := sm_n_ex (p := cP X p k) 12 (by omega)
    have hb := bst_p (X := X) (p := cP X p k) 12
    have hn := bst_ne (X := X) hp 12 hj
    have := (sm_n_rm (b := bst X (cP X p k) 12 - 1) (hb.2 hn) 12).1 (by omega)
    show sm_n (fun j => cP X p k j && decide (j ≠ bst X (cP X p k) 12 - 1)) 12 + (k + 1) = sm_n p 12
    omega
theorem cM_ok (h8 : 8 ≤ sm_n p 12) {k : Nat} (hk : k < 8) : bst X (cP X p k) 12 = cM X p k + 1 ∧ cM X p k < 12 ∧ cP X p k (cM X p k) = true ∧ sm_k (cP X p k) 12 ≠ 0 := by
  have ih := cP_n (X := X) h8 k (by omega)
  obtain ⟨j, hj, hp⟩ := sm_n_ex (p := cP X p k) 12 (by omega)
  have hb := bst_p (X := X) (p := cP X p k) 12
  have hn := bst_ne (X := X) hp 12 hj
  refine ⟨?_, ?_, hb.2 hn, sm_k_ne hj hp⟩ <;> unfold cM <;> omega
theorem clX_o {k a j : Nat} (h1 : a ≠ 74) (h2 : a ≠ 75) (h3 : ¬ (a = 73 ∧ j = 2)) : clX X p k a j = X a j := (if_neg (fun q => h1 q.1)).trans ((if_neg (fun q => h2 q.1)).trans (if_neg h3))
theorem clX_s {k : Nat} : clX X p k 73 2 = k := rfl
theorem clX_0 : sm_up X 73 2 0 = clX X p 0 := by
  funext a j
  unfold clX sm_up
  rw [if_neg (by omega : ¬ (a = 74 ∧ j < 0)), if_neg (by omega : ¬ (a = 75 ∧ j < 0))]
theorem clX_t {k : Nat} : sm_up (sm_up (sm_up (clX X p k) 74 k (cM X p k)) 75 k (cM X p k + 1)) 73 2 (k + 1) = clX X p (k + 1) := by
  funext a j
  by_cases e3 : a = 73 ∧ j = 2
  · obtain ⟨rfl, rfl⟩ := e3
    rw [sm_up_s]; rfl
  · rw [sm_up_x (by omega)]
    by_cases e5 : a = 75 ∧ j = k
    · obtain ⟨rfl, rfl⟩ := e5
      rw [sm_up_s]
      unfold clX
      rw [if_neg (by omega), if_pos ⟨rfl, by omega⟩]
    · rw [sm_up_x (by omega)]
      by_cases e4 : a = 74 ∧ j = k
      · obtain ⟨rfl, rfl⟩ := e4
        rw [sm_up_s]
        unfold clX
        rw [if_pos ⟨rfl, by omega⟩]
      · rw [sm_up_x (by omega)]
        unfold clX
        by_cases h1 : a = 74 ∧ j < k
        · rw [if_pos h1, if_pos ⟨h1.1, by omega⟩]
        · have h1' : ¬ (a = 74 ∧ j < k + 1) := by omega
          rw [if_neg h1, if_neg h1']
          by_cases h2 : a = 75 ∧ j < k
          · rw [if_pos h2, if_pos ⟨h2.1, by omega⟩]
          · have h2' : ¬ (a = 75 ∧ j < k + 1) := by omega
            rw [if_neg h2, if_neg h2', if_neg e3, if_neg e3]
end

set_option maxHeartbeats 4000000 in
set_option maxRecDepth 100000 in
theorem c_S_chooseLeastSent (l : Launch) (Ω : sm_Ω) {X : sm_X} {w : Nat → Nat → Nat} (hf : swf X w) {p : Nat → Bool} (h8 : 8 ≤ sm_n p 12) : sm_met l Ω y_S_chooseLeastSent b_S_chooseLeastSent 5 none 2 723 [.ref (Ω.2.1 + 0), .int (nI (sm_k p 12))] X (sm_rf w) (sm_det none (clX X p 8) (sm_rf w)) := by
  refine sm_intro (own := RX6) (L := [some (.ref (Ω.2.1 + 0)), some (.int (nI (sm_k p 12))), none, none, none]) (by decide) rfl (by simp [Value.category]) (Nat.le_of_ble_eq_true rfl) rfl ?_
  intro Γ C I
  refine sg_aln (pc := 0) C d_S_chooseLeastSent_0 rfl ?_
  refine sg_getr (pc := 1) C fw_S_38 (by omega) rfl rfl rfl d_S_chooseLeastSent_1 ?_
  refine sm_callV (pc := 4) (As := []) C I (c_T_clear l Ω) cw_S_255 iw_T_clear (C.1.2.2.2.2 _ (List.mem_cons_of_mem _ se_T_clear)) (by omega) rfl rfl rfl rfl (by decide) ⟨by decide, by decide⟩ rfl (Nat.le_of_ble_eq_true rfl) d_S_chooseLeastSent_4 (sm_det_v ?_)
  refine sg_iln (pc := 7) C d_S_chooseLeastSent_7 rfl ?_
  refine sg_is2 (pc := 8) C d_S_chooseLeastSent_8 ?_
  refine sg_ic (pc := 9) (v := 0) C d_S_chooseLeastSent_9 (by decide) ?_
  refine sg_is3 (pc := 10) C d_S_chooseLeastSent_10 ?_
  have loop : ∀ t k z, k + t = 8 → sm_G Γ Ω 723 0 0 11 [some (.ref (Ω.2.1 + 0)), some (.int (nI (sm_k p 12))), some (.int (nI (sm_k (cP X p k) 12))), some (.int (nI k)), z] [] (clX X p k) (sm_rf w) := by
    intro t
    induction t with
    | zero =>
      intro k z hk
      refine sg_iln (pc := 11) C d_S_chooseLeastSent_11 rfl ?_
      refine sg_bi (pc := 12) (v := 8) C d_S_chooseLeastSent_12 (by decide) ?_
      refine sg_icge (pc := 14) (tgt := 58) C d_S_chooseLeastSent_14 (by decide) (by omega) (by omega) (fun h14 => ?_) (fun h14 => absurd h14 (by omega))
      exact sg_vret (pc := 58) C I rfl d_S_chooseLeastSent_58 ⟨rfl, by rw [show k = 8 by omega], rfl⟩
    | succ t ih =>
      intro k z hk
      obtain ⟨m1, m2, m3, m4⟩ := cM_ok (X := X) h8 (k := k) (by omega)
      have hkl := sm_k_lt (cP X p k) 12
      have hf2 : swf (clX X p k) w := swf_team hf (fun a j h1 h2 h3 => clX_o h1 h2 h3)
      refine sg_iln (pc := 11) C d_S_chooseLeastSent_11 rfl ?_
      refine sg_bi (pc := 12) (v := 8) C d_S_chooseLeastSent_12 (by decide) ?_
      refine sg_icge (pc := 14) (tgt := 58) C d_S_chooseLeastSent_14 (by decide) (by omega) (by omega) (fun h14 => absurd h14 (by omega)) (fun h14 => ?_)
      refine sg_iln (pc := 17) C d_S_chooseLeastSent_17 rfl ?_
      refine sg_ifeq (pc := 18) (tgt := 58) C d_S_chooseLeastSent_18 (by decide) (by omega) (fun h18 => absurd h18 m4) (fun h18 => ?_)
      refine sg_aln (pc := 21) C d_S_chooseLeastSent_21 rfl ?_
      refine sg_iln (pc := 22) C d_S_chooseLeastSent_22 rfl ?_
      refine sm_callV (pc := 23) (As := [.int (nI (sm_k (cP X p k) 12))]) C I (c_S_leastSent l Ω hf2) cw_S_264 iw_S_leastSent (C.1.2.2.2.2 _ (List.mem_cons_of_mem _ se_S_leastSent)) (by omega) rfl rfl rfl rfl (by decide) ⟨by decide, by decide⟩ rfl (Nat.le_of_ble_eq_true rfl) d_S_chooseLeastSent_23 (sm_det_i ?_)
      rw [bst_congr (X := X) (fun n hn => clX_o (by omega) (by omega) (by omega)) 12 (Nat.le_refl 12), m1, sn_m1]
      refine sg_is4 (pc := 26) C d_S_chooseLeastSent_26 ?_
      refine sg_il (pc := 28) C d_S_chooseLeastSent_28 rfl ?_
      refine sg_icm (pc := 30) (v := -1) C d_S_chooseLeastSent_30 (by decide) ?_
      refine sr_iceq (pc := 31) (tgt := 52) C d_S_chooseLeastSent_31 (by decide) (fun h31 => absurd h31 (sn_nm (by omega))) (fun h31 => ?_)
      refine sg_aln (pc := 34) C d_S_chooseLeastSent_34 rfl ?_
      refine sg_getr (pc := 35) C fw_S_38 (by omega) rfl rfl rfl d_S_chooseLeastSent_35 ?_
      refine sg_il (pc := 38) C d_S_chooseLeastSent_38 rfl ?_
      refine sm_callV (pc := 40) (As := [.int (nI (cM X p k))]) C I (c_T_add l Ω (X := clX X p k) (by rw [clX_s]; omega)) cw_S_261 iw_T_add (C.1.2.2.2.2 _ (List.mem_cons_of_mem _ se_T_add)) (by omega) rfl rfl rfl rfl (by decide) ⟨by decide, by decide⟩ rfl (Nat.le_of_ble_eq_true rfl) d_S_chooseLeastSent_40 (sm_det_v ?_)
      rw [clX_s, clX_t]
      refine sg_iln (pc := 43) C d_S_chooseLeastSent_43 rfl ?_
      refine sg_ic (pc := 44) (v := 1) C d_S_chooseLeastSent_44 (by decide) ?_
      refine sg_il (pc := 45) C d_S_chooseLeastSent_45 rfl ?_
      refine sr_ishl (pc := 47) C d_S_chooseLeastSent_47 (sn_shl _ (by omega)) ?_
      refine sg_icm (pc := 48) (v := -1) C d_S_chooseLeastSent_48 (by decide) ?_
      refine sr_ixor (pc := 49) C d_S_chooseLeastSent_49 rfl ?_
      refine sr_iand (pc := 50) C d_S_chooseLeastSent_50 (sn_clr _ _) ?_
      refine sg_is2 (pc := 51) C d_S_chooseLeastSent_51 ?_
      refine sg_inc3 (pc := 52) (n := 1) C d_S_chooseLeastSent_52 (by decide) ?_
      refine sg_goto (pc := 55) (tgt := 11) C d_S_chooseLeastSent_55 (by decide) ?_
      exact ih (k + 1) (some (.int (nI (cM X p k)))) (by omega)
  have h0 := loop 8 0 none (by omega)
  rw [← clX_0] at h0
  exact h0

def ahV (X : sm_X) (w : Nat → Nat → Nat) (o x f k : Nat) : Nat := gf_h (fun i => X (83 + 51 * X 74 k + 4 * o + 2 * w (X 74 k) o) (f + i)) x 0 8
def ahX (X : sm_X) (w : Nat → Nat → Nat) (o x f : Nat) : Nat → sm_X
  | 0 => X
  | k + 1 => sm_up (sm_up (ahX X w o x f k) 76 k (ahV X w o x f k)) (79 + 51 * X 74 k) 4 (ahX X w o x f k (79 + 51 * X 74 k) 4 + 1)
theorem ahX_o {X : sm_X} {w : Nat → Nat → Nat} {o x f a j : Nat} (h1 : a ≠ 76) (h2 : j ≠ 4 ∨ ∀ k, k < 8 → a ≠ 79 + 51 * X 74 k) : ∀ k, k ≤ 8 → ahX X w o x f k a j = X a j
  | 0, _ => rfl
  | k + 1, hk => by
    show sm_up (sm_up (ahX X w o x f k) 76 k _) (79 + 51 * X 74 k) 4 _ a j = X a j
    rw [sm_up_x (h2.elim Or.inr (fun h => Or.inl (h k (by omega)))), sm_up_x (Or.inl h1), ahX_o h1 h2 k (by omega)]

set_option maxHeartbeats 4000000 in
set_option maxRecDepth 100000 in
theorem c_S_askHelpers (l : Launch) (Ω : sm_Ω) {X : sm_X} {w : Nat → Nat → Nat} (hw : ∀ n o, w n o < 2) {o x f : Nat} (ho : o < 12) (hx : x < 256) (hfr : f + 8 ≤ 64) (hG : gal X) (hM : ∀ k, k < 8 → X 74 k < 12) (hB : ∀ k, k < 8 → ∀ j, j < 8 → X (83 + 51 * X 74 k + 4 * o + 2 * w (X 74 k) o) (f + j) < 256) : sm_met l Ω y_S_askHelpers b_S_askHelpers 6 none 3 723 [.ref (Ω.2.1 + 0), .int (nI x), .int (nI o), .int (nI f)] X (sm_rf w) (sm_det none (ahX X w o x f 8) (sm_rf w)) := by
  refine sm_intro (own := RX6) (L := [some (.ref (Ω.2.1 + 0)), some (.int (nI x)), some (.int (nI o)), some (.int (nI f)), none, none]) (by decide) rfl (by simp [Value.category]) (Nat.le_of_ble_eq_true rfl) rfl ?_
  intro Γ C I
  refine sg_ic (pc := 0) (v := 0) C d_S_askHelpers_0 (by decide) ?_
  refine sg_is4 (pc := 1) C d_S_askHelpers_1 ?_
  have loop : ∀ t k z, k + t = 8 → sm_G Γ Ω 723 0 0 3 [some (.ref (Ω.2.1 + 0)), some (.int (nI x)), some (.int (nI o)), some (.int (nI f)), some (.int (nI k)), z] [] (ahX X w o x f k) (sm_rf w) := by
    intro t
    induction t with
    | zero =>
      intro k z hk
      refine sg_il (pc := 3) C d_S_askHelpers_3 rfl ?_
      refine sg_bi (pc := 5) (v := 8) C d_S_askHelpers_5 (by decide) ?_
      refine sg_icge (pc := 7) (tgt := 70) C d_S_askHelpers_7 (by decide) (by omega) (by omega) (fun h7 => ?_) (fun h7 => absurd h7 (by omega))
      exact sg_vret (pc := 70) C I rfl d_S_askHelpers_70 ⟨rfl, by rw [show k = 8 by omega], rfl⟩
    | succ t ih =>
      intro k z hk
      have hm := hM k (by omega)
      have hwk := hw (X 74 k) o
      have e74 : ahX X w o x f k 74 k = X 74 k := ahX_o (by decide) (Or.inr (fun j hj => by have := hM j hj; omega)) k (by omega)
      have ec : ∀ j, ahX X w o x f k (83 + 51 * X 74 k + 4 * o + 2 * w (X 74 k) o) j = X (83 + 51 * X 74 k + 4 * o + 2 * w (X 74 k) o) j := fun j => ahX_o (by omega) (Or.inr (fun i hi => by have := hM i hi; omega)) k (by omega)
      have gg : gal (ahX X w o x f k) := gal_of hG (fun j => ahX_o (by decide) (Or.inr (fun i hi => by omega)) k (by omega)) (fun j => ahX_o (by decide) (Or.inr (fun i hi => by omega)) k (by omega))
      refine sg_il (pc := 3) C d_S_askHelpers_3 rfl ?_
      refine sg_bi (pc := 5) (v := 8) C d_S_askHelpers_5 (by decide) ?_
      refine sg_icge (pc := 7) (tgt := 70) C d_S_askHelpers_7 (by decide) (by omega) (by omega) (fun h7 => absurd h7 (by omega)) (fun h7 => ?_)
      refine sg_aln (pc := 10) C d_S_askHelpers_10 rfl ?_
      refine sg_getr (pc := 11) C fw_S_25 (by omega) rfl rfl rfl d_S_askHelpers_11 ?_
      refine sg_aln (pc := 14) C d_S_askHelpers_14 rfl ?_
      refine sg_getr (pc := 15) C fw_S_38 (by omega) rfl rfl rfl d_S_askHelpers_15 ?_
      refine sg_getr (pc := 18) C fw_S_248 (by omega) rfl rfl rfl d_S_askHelpers_18 ?_
      refine sg_il (pc := 21) C d_S_askHelpers_21 rfl ?_
      refine sg_iald (pc := 23) (n := 8) C (by omega) rfl (by omega) (by decide) d_S_askHelpers_23 ?_
      rw [e74]
      refine sg_aald (pc := 24) (n := 12) (t := 4) C (by omega) rfl (by decide) rfl rfl (by omega) (by decide) (rf_nodes (by omega)) d_S_askHelpers_24 ?_
      refine sg_as5 (pc := 25) C d_S_askHelpers_25 ?_
      refine sg_aln (pc := 27) C d_S_askHelpers_27 rfl ?_
      refine sg_getr (pc := 28) C fw_S_42 (by omega) rfl rfl rfl d_S_askHelpers_28 ?_
      refine sg_il (pc := 31) C d_S_askHelpers_31 rfl ?_
      refine sg_aln (pc := 33) C d_S_askHelpers_33 rfl ?_
      refine sg_getr (pc := 34) C fw_S_12 (by omega) rfl rfl rfl d_S_askHelpers_34 ?_
      refine sg_iln (pc := 37) C d_S_askHelpers_37 rfl ?_
      refine sg_al (pc := 38) C d_S_askHelpers_38 rfl ?_
      refine sg_getr (pc := 40) C fw_S_174 (by omega) (sh_N (by omega)) rfl (rf_N1 (by omega)) d_S_askHelpers_40 ?_
      refine sg_iln (pc := 43) C d_S_askHelpers_43 rfl ?_
      refine sg_aald (pc := 44) (n := 12) (t := 6) C (by omega) (sh_Ns (by omega)) (by decide) rfl rfl (by omega) (by decide) (rf_Ns (by omega) (by omega)) d_S_askHelpers_44 ?_
      refine sg_getr (pc := 45) C fw_S_187 (by omega) (sh_S (by omega) (by omega) (hw _ _)) rfl (rf_S2 (by omega) (by omega) (hw _ _)) d_S_askHelpers_45 ?_
      refine sg_iln (pc := 48) C d_S_askHelpers_48 rfl ?_
      refine sm_callV (pc := 49) (As := [.int (nI x), .ref (Ω.2.1 + (83 + 51 * X 74 k + 4 * o + 2 * w (X 74 k) o)), .int (nI f)]) C I (c_G_valueAt l Ω (X := ahX X w o x f k) (p := x) (i := (83 + 51 * X 74 k + 4 * o + 2 * w (X 74 k) o)) (n := 64) (fr := f) gg hx (by omega) (sh_Sb (by omega) ho hwk) (by decide) hfr (fun j hj => by rw [ec]; exact hB k (by omega) j hj)) cw_S_251 iw_G_valueAt (C.1.2.2.2.2 _ (List.mem_cons_of_mem _ se_G_valueAt)) (by omega) rfl rfl rfl rfl (by decide) ⟨by decide, by decide⟩ rfl (Nat.le_of_ble_eq_true rfl) d_S_askHelpers_49 (sm_det_i ?_)
      rw [show gf_h (fun j => ahX X w o x f k (83 + 51 * X 74 k + 4 * o + 2 * w (X 74 k) o) (f + j)) x 0 8 = ahV X w o x f k from gf_h_congr 8 0 (fun j _ _ => ec (f + j))]
      refine sg_iast (pc := 52) (n := 8) C (by omega) rfl (by omega) (by decide) d_S_askHelpers_52 ?_
      refine sg_al (pc := 53) C d_S_askHelpers_53 rfl ?_
      refine sg_dup (pc := 55) C d_S_askHelpers_55 rfl ?_
      refine sg_geti (pc := 56) C fw_S_165 (by omega) (sh_N (by omega)) rfl d_S_askHelpers_56 ?_
      rw [sm_up_x (Or.inl (by omega))]
      refine sg_ic (pc := 59) (v := 1) C d_S_askHelpers_59 (by decide) ?_
      refine sg_add (pc := 60) C d_S_askHelpers_60 ?_
      refine sg_puti (pc := 61) C pw_S_165 (by omega) (sh_N (by omega)) rfl rfl rfl d_S_askHelpers_61 ?_
      refine sg_inc4 (pc := 64) (n := 1) C d_S_askHelpers_64 (by decide) ?_
      refine sg_goto (pc := 67) (tgt := 3) C d_S_askHelpers_67 (by decide) ?_
      exact ih (k + 1) _ (by omega)
  exact loop 8 0 none (by omega)
