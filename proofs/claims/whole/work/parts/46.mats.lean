/-! Matrices: filling, spilling, encoding, and the two helpers of decoding -/
set_option maxHeartbeats 4000000 in
set_option maxRecDepth 100000 in
theorem c_M_forgetFirstFive (l : Launch) (Ω : sm_Ω) {X : sm_X} {w : Nat → Nat → Nat} {i : Nat} (hi : i < 64) : sm_met l Ω y_M_forgetFirstFive b_M_forgetFirstFive 3 none 1 723 [.ref (Ω.2.1 + 4), .ref (Ω.2.1 + (6 + i))] X (sm_rf w) (sm_det none (sm_uf X (6 + i) (fun j => if j < 5 then 0 else X (6 + i) j)) (sm_rf w)) := by
  refine sm_intro (own := RX2) (L := [some (.ref (Ω.2.1 + 4)), some (.ref (Ω.2.1 + (6 + i))), none]) (by decide) rfl (by simp [Value.category]) (Nat.le_of_ble_eq_true rfl) rfl ?_
  intro Γ C I
  refine sg_ic (pc := 0) (v := 0) C d_M_forgetFirstFive_0 (by decide) ?_
  refine sg_is2 (pc := 1) C d_M_forgetFirstFive_1 ?_
  have loop : ∀ t k, k + t = 5 → sm_G Γ Ω 723 0 0 2 [some (.ref (Ω.2.1 + 4)), some (.ref (Ω.2.1 + (6 + i))), some (.int (nI k))] [] (sm_uf X (6 + i) (fun j => if j < k then 0 else X (6 + i) j)) (sm_rf w) := by
    intro t
    induction t with
    | zero =>
      intro k hk
      refine sg_iln (pc := 2) C d_M_forgetFirstFive_2 rfl ?_
      refine sg_ic (pc := 3) (v := 5) C d_M_forgetFirstFive_3 (by decide) ?_
      refine sg_icge (pc := 4) (tgt := 17) C d_M_forgetFirstFive_4 (by decide) (by omega) (by omega) (fun h4 => ?_) (fun h4 => absurd h4 (by omega))
      exact sg_vret (pc := 17) C I rfl d_M_forgetFirstFive_17 ⟨rfl, by rw [show k = 5 by omega], rfl⟩
    | succ t ih =>
      intro k hk
      refine sg_iln (pc := 2) C d_M_forgetFirstFive_2 rfl ?_
      refine sg_ic (pc := 3) (v := 5) C d_M_forgetFirstFive_3 (by decide) ?_
      refine sg_icge (pc := 4) (tgt := 17) C d_M_forgetFirstFive_4 (by decide) (by omega) (by omega) (fun h4 => absurd h4 (by omega)) (fun h4 => ?_)
      refine sg_aln (pc := 7) C d_M_forgetFirstFive_7 rfl ?_
      refine sg_iln (pc := 8) C d_M_forgetFirstFive_8 rfl ?_
      refine sg_ic (pc := 9) (v := 0) C d_M_forgetFirstFive_9 (by decide) ?_
      refine sg_iast (pc := 10) (n := 8) C (by omega) (sh_R (by omega)) (by omega) (by decide) d_M_forgetFirstFive_10 ?_
      rw [sm_uf_up, show (fun j => if j = k then 0 else if j < k then 0 else X (6 + i) j) = (fun j => if j < k + 1 then 0 else X (6 + i) j) from funext fun j => by by_cases e1 : j = k <;> by_cases e2 : j < k <;> simp [e1, e2] <;> omega]
      refine sg_inc2 (pc := 11) (n := 1) C d_M_forgetFirstFive_11 (by decide) ?_
      refine sg_goto (pc := 14) (tgt := 2) C d_M_forgetFirstFive_14 (by decide) ?_
      exact ih (k + 1) (by omega)
  have h0 := loop 5 0 (by omega)
  rw [show (sm_uf X (6 + i) (fun j => if j < 0 then 0 else X (6 + i) j)) = X from (sm_uf_c (fun j => if_neg (Nat.not_lt_zero j))).trans sm_uf_self] at h0
  exact h0

def sf (X : sm_X) (i : Nat) : Nat → sm_X
  | 0 => X
  | k + 1 => sm_up (sm_up (sf X i k) (6 + i) k (X 70 k)) (6 + (i - i % 8 + k)) (i % 8) (X 70 k)
theorem sf_70 {X : sm_X} {i : Nat} (hi : i < 64) {a b : Nat} (ha : a < 6 ∨ 70 ≤ a) : ∀ k, k ≤ 5 → sf X i k a b = X a b
  | 0, _ => rfl
  | k + 1, hk => by
    show sm_up (sm_up (sf X i k) (6 + i) k (X 70 k)) (6 + (i - i % 8 + k)) (i % 8) (X 70 k) a b = X a b
    rw [sm_up_x (Or.inl (by omega)), sm_up_x (Or.inl (by omega)), sf_70 hi ha k (by omega)]
theorem sf_at {X : sm_X} {i r j : Nat} (hi : i < 64) : ∀ k, k ≤ 5 → sf X i k (6 + r) j = if j = i % 8 ∧ i - i % 8 ≤ r ∧ r < i - i % 8 + k then X 70 (r - (i - i % 8)) else if r = i ∧ j < k then X 70 j else X (6 + r) j
  | 0, _ => by
    rw [if_neg (by omega), if_neg (by omega)]
    rfl
  | k + 1, hk => by
    have ih := sf_at (X := X) (r := r) (j := j) hi k (by omega)
    show sm_up (sm_up (sf X i k) (6 + i) k (X 70 k)) (6 + (i - i % 8 + k)) (i % 8) (X 70 k) (6 + r) j = _
    by_cases h1 : r = i - i % 8 + k ∧ j = i % 8
    · obtain ⟨h1, h2⟩ := h1
      rw [show (6 + r) = 6 + (i - i % 8 + k) by omega, h2, sm_up_s, if_pos ⟨rfl, by omega, by omega⟩]
      congr 1
      omega
    · rw [sm_up_x (by omega)]
      by_cases h2 : r = i ∧ j = k
      · obtain ⟨rfl, rfl⟩ := h2
        rw [sm_up_s]
        by_cases h3 : j = r % 8 ∧ r - r % 8 ≤ r ∧ r < r - r % 8 + (j + 1)
        · rw [if_pos h3]
          congr 1
          omega
        · rw [if_neg h3, if_pos ⟨rfl, by omega⟩]
      · rw [sm_up_x (by omega), ih]
        by_cases h3 : j = i % 8 ∧ i - i % 8 ≤ r ∧ r < i - i % 8 + k
        · rw [if_pos h3, if_pos ⟨h3.1, h3.2.1, by omega⟩]
        · have h5 : ¬ (j = i % 8 ∧ i - i % 8 ≤ r ∧ r < i - i % 8 + (k + 1)) := by omega
          rw [if_neg h3, if_neg h5]
          by_cases h4 : r = i ∧ j < k
          · rw [if_pos h4, if_pos ⟨h4.1, by omega⟩]
          · have h6 : ¬ (r = i ∧ j < k + 1) := by omega
            rw [if_neg h4, if_neg h6]

set_option maxHeartbeats 4000000 in
set_option maxRecDepth 100000 in
theorem c_M_setFirstFive (l : Launch) (Ω : sm_Ω) {X : sm_X} {w : Nat → Nat → Nat} {i : Nat} (hi : i < 64) : sm_met l Ω y_M_setFirstFive b_M_setFirstFive 4 none 1 723 [.ref (Ω.2.1 + 4), .int (nI i)] X (sm_rf w) (sm_det none (sf X i 5) (sm_rf w)) := by
  refine sm_intro (own := RX2) (L := [some (.ref (Ω.2.1 + 4)), some (.int (nI i)), none, none]) (by decide) rfl (by simp [Value.category]) (Nat.le_of_ble_eq_true rfl) rfl ?_
  intro Γ C I
  refine sg_iln (pc := 0) C d_M_setFirstFive_0 rfl ?_
  refine sg_bi (pc := 1) (v := 8) C d_M_setFirstFive_1 (by decide) ?_
  refine sg_rem (pc := 3) C d_M_setFirstFive_3 (by omega) (by decide) (by decide) ?_
  refine sg_is2 (pc := 4) C d_M_setFirstFive_4 ?_
  refine sg_ic (pc := 5) (v := 0) C d_M_setFirstFive_5 (by decide) ?_
  refine sg_is3 (pc := 6) C d_M_setFirstFive_6 ?_
  have loop : ∀ t k, k + t = 5 → sm_G Γ Ω 723 0 0 7 [some (.ref (Ω.2.1 + 4)), some (.int (nI i)), some (.int (nI (i % 8))), some (.int (nI k))] [] (sf X i k) (sm_rf w) := by
    intro t
    induction t with
    | zero =>
      intro k hk
      refine sg_iln (pc := 7) C d_M_setFirstFive_7 rfl ?_
      refine sg_ic (pc := 8) (v := 5) C d_M_setFirstFive_8 (by decide) ?_
      refine sg_icge (pc := 9) (tgt := 50) C d_M_setFirstFive_9 (by decide) (by omega) (by omega) (fun h9 => ?_) (fun h9 => absurd h9 (by omega))
      exact sg_vret (pc := 50) C I rfl d_M_setFirstFive_50 ⟨rfl, by rw [show k = 5 by omega], rfl⟩
    | succ t ih =>
      intro k hk
      refine sg_iln (pc := 7) C d_M_setFirstFive_7 rfl ?_
      refine sg_ic (pc := 8) (v := 5) C d_M_setFirstFive_8 (by decide) ?_
      refine sg_icge (pc := 9) (tgt := 50) C d_M_setFirstFive_9 (by decide) (by omega) (by omega) (fun h9 => absurd h9 (by omega)) (fun h9 => ?_)
      refine sg_aln (pc := 12) C d_M_setFirstFive_12 rfl ?_
      refine sg_getr (pc := 13) C fw_M_11 (by omega) rfl rfl rfl d_M_setFirstFive_13 ?_
      refine sg_iln (pc := 16) C d_M_setFirstFive_16 rfl ?_
      refine sg_aald (pc := 17) (n := 64) (t := 3) C (by omega) rfl (by decide) rfl rfl (by omega) (by decide) (rf_rows (by omega)) d_M_setFirstFive_17 ?_
      refine sg_iln (pc := 18) C d_M_setFirstFive_18 rfl ?_
      refine sg_aln (pc := 19) C d_M_setFirstFive_19 rfl ?_
      refine sg_getr (pc := 20) C fw_M_16 (by omega) rfl rfl rfl d_M_setFirstFive_20 ?_
      refine sg_iln (pc := 23) C d_M_setFirstFive_23 rfl ?_
      refine sg_iald (pc := 24) (n := 5) C (by omega) rfl (by omega) (by decide) d_M_setFirstFive_24 ?_
      rw [sf_70 hi (Or.inr (by decide)) k (by omega)]
      refine sg_iast (pc := 25) (n := 8) C (by omega) (sh_R (by omega)) (by omega) (by decide) d_M_setFirstFive_25 ?_
      refine sg_aln (pc := 26) C d_M_setFirstFive_26 rfl ?_
      refine sg_getr (pc := 27) C fw_M_11 (by omega) rfl rfl rfl d_M_setFirstFive_27 ?_
      refine sg_iln (pc := 30) C d_M_setFirstFive_30 rfl ?_
      refine sg_iln (pc := 31) C d_M_setFirstFive_31 rfl ?_
      refine sg_sub (pc := 32) C d_M_setFirstFive_32 (by omega) ?_
      refine sg_iln (pc := 33) C d_M_setFirstFive_33 rfl ?_
      refine sg_add (pc := 34) C d_M_setFirstFive_34 ?_
      refine sg_aald (pc := 35) (n := 64) (t := 3) C (by omega) rfl (by decide) rfl rfl (by omega) (by decide) (rf_rows (by omega)) d_M_setFirstFive_35 ?_
      refine sg_iln (pc := 36) C d_M_setFirstFive_36 rfl ?_
      refine sg_aln (pc := 37) C d_M_setFirstFive_37 rfl ?_
      refine sg_getr (pc := 38) C fw_M_16 (by omega) rfl rfl rfl d_M_setFirstFive_38 ?_
      refine sg_iln (pc := 41) C d_M_setFirstFive_41 rfl ?_
      refine sg_iald (pc := 42) (n := 5) C (by omega) rfl (by omega) (by decide) d_M_setFirstFive_42 ?_
      rw [sm_up_x (Or.inl (by omega)), sf_70 hi (Or.inr (by decide)) k (by omega)]
      refine sg_iast (pc := 43) (n := 8) C (by omega) (sh_R (by omega)) (by omega) (by decide) d_M_setFirstFive_43 ?_
      refine sg_inc3 (pc := 44) (n := 1) C d_M_setFirstFive_44 (by decide) ?_
      refine sg_goto (pc := 47) (tgt := 7) C d_M_setFirstFive_47 (by decide) ?_
      exact ih (k + 1) (by omega)
  exact loop 5 0 (by omega)

def mv (X : sm_X) (n q : Nat) : Nat := if q < n then X 77 q else 0
def mf (X : sm_X) (n : Nat) : Nat → sm_X
  | 0 => X
  | q + 1 => sm_up (sm_up (mf X n q) (6 + (8 * (q / 30) + sm_row (q % 30))) (sm_col (q % 30)) (mv X n q)) (6 + (8 * (q / 30) + sm_col (q % 30))) (sm_row (q % 30)) (mv X n q)
theorem mf_o {X : sm_X} {n a b : Nat} (ha : a < 6 ∨ 70 ≤ a) : ∀ q, q ≤ 240 → mf X n q a b = X a b
  | 0, _ => rfl
  | q + 1, hq => by
    have hm := mx_rc (q % 30) (Nat.mod_lt _ (by decide))
    show sm_up (sm_up (mf X n q) (6 + (8 * (q / 30) + sm_row (q % 30))) (sm_col (q % 30)) (mv X n q)) (6 + (8 * (q / 30) + sm_col (q % 30))) (sm_row (q % 30)) (mv X n q) a b = X a b
    rw [sm_up_x (Or.inl (by omega)), sm_up_x (Or.inl (by omega)), mf_o ha q (by omega)]

set_option maxHeartbeats 4000000 in
set_option maxRecDepth 100000 in
theorem c_M_fill (l : Launch) (Ω : sm_Ω) {X : sm_X} {w : Nat → Nat → Nat} {n : Nat} (hn : n ≤ 240) : sm_met l Ω y_M_fill b_M_fill 9 none 2 723 [.ref (Ω.2.1 + 4), .ref (Ω.2.1 + 77), .int (nI n)] X (sm_rf w) (sm_det none (mf X n (30 * ((n + 29) / 30))) (sm_rf w)) := by
  refine sm_intro (own := RX2) (L := [some (.ref (Ω.2.1 + 4)), some (.ref (Ω.2.1 + 77)), some (.int (nI n)), none, none, none, none, none, none]) (by decide) rfl (by simp [Value.category]) (Nat.le_of_ble_eq_true rfl) rfl ?_
  intro Γ C I
  refine sg_bi (pc := 0) (v := 30) C d_M_fill_0 (by decide) ?_
  refine sg_iln (pc := 2) C d_M_fill_2 rfl ?_
  refine sm_callSN (pc := 3) (As := [.int (nI n)]) C I (c_S_stripesOf l Ω (by omega)) nw_code nw_init sw_S_stripesOf (by decide) rfl (by decide) ⟨by decide, by decide⟩ rfl (Nat.le_of_ble_eq_true rfl) d_M_fill_3 (sm_det_i ?_)
  refine sg_mul (pc := 6) C d_M_fill_6 ?_
  refine sg_is3 (pc := 7) C d_M_fill_7 ?_
  refine sg_ic (pc := 8) (v := 0) C d_M_fill_8 (by decide) ?_
  refine sg_is4 (pc := 9) C d_M_fill_9 ?_
  have loop : ∀ t q z5 z6 z7 z8, q + t = (30 * ((n + 29) / 30)) → sm_G Γ Ω 723 0 0 11 [some (.ref (Ω.2.1 + 4)), some (.ref (Ω.2.1 + 77)), some (.int (nI n)), some (.int (nI (30 * ((n + 29) / 30)))), some (.int (nI q)), z5, z6, z7, z8] [] (mf X n q) (sm_rf w) := by
    intro t
    induction t with
    | zero =>
      intro q z5 z6 z7 z8 hq
      refine sg_il (pc := 11) C d_M_fill_11 rfl ?_
      refine sg_iln (pc := 13) C d_M_fill_13 rfl ?_
      refine sg_icge (pc := 14) (tgt := 101) C d_M_fill_14 (by decide) (by omega) (by omega) (fun h14 => ?_) (fun h14 => absurd h14 (by omega))
      exact sg_vret (pc := 101) C I rfl d_M_fill_101 ⟨rfl, by rw [show q = (30 * ((n + 29) / 30)) by omega], rfl⟩
    | succ t ih =>
      intro q z5 z6 z7 z8 hq
      have hm := mx_rc (q % 30) (Nat.mod_lt _ (by decide))
      refine sg_il (pc := 11) C d_M_fill_11 rfl ?_
      refine sg_iln (pc := 13) C d_M_fill_13 rfl ?_
      refine sg_icge (pc := 14) (tgt := 101) C d_M_fill_14 (by decide) (by omega) (by omega) (fun h14 => absurd h14 (by omega)) (fun h14 => ?_)
      refine sg_bi (pc := 17) (v := 8) C d_M_fill_17 (by decide) ?_
      refine sg_il (pc := 19) C d_M_fill_19 rfl ?_
      refine sg_bi (pc := 21) (v := 30) C d_M_fill_21 (by decide) ?_
      refine sg_div (pc := 23) C d_M_fill_23 (by omega) (by decide) (by decide) ?_
      refine sg_mul (pc := 24) C d_M_fill_24 ?_
      refine sg_is5 (pc := 25) C d_M_fill_25 ?_
      refine sg_gets1 (pc := 27) C gs_M_24 d_M_fill_27 ?_
      refine sg_il (pc := 30) C d_M_fill_30 rfl ?_
      refine sg_bi (pc := 32) (v := 30) C d_M_fill_32 (by decide) ?_
      refine sg_rem (pc := 34) C d_M_fill_34 (by omega) (by decide) (by decide) ?_
      refine sg_tald1 (pc := 35) C (by omega) d_M_fill_35 ?_
      refine sg_is6 (pc := 36) C d_M_fill_36 ?_
      refine sg_gets2 (pc := 38) C gs_M_27 d_M_fill_38 ?_
      refine sg_il (pc := 41) C d_M_fill_41 rfl ?_
      refine sg_bi (pc := 43) (v := 30) C d_M_fill_43 (by decide) ?_
      refine sg_rem (pc := 45) C d_M_fill_45 (by omega) (by decide) (by decide) ?_
      refine sg_tald2 (pc := 46) C (by omega) d_M_fill_46 ?_
      refine sg_is7 (pc := 47) C d_M_fill_47 ?_
      refine sg_il (pc := 49) C d_M_fill_49 rfl ?_
      refine sg_iln (pc := 51) C d_M_fill_51 rfl ?_
      refine sg_icge (pc := 52) (tgt := 62) C d_M_fill_52 (by decide) (by omega) (by omega) (fun h52 => ?_) (fun h52 => ?_)
      · refine sg_ic (pc := 62) (v := 0) C d_M_fill_62 (by decide) ?_
        refine sg_top (y := nI (mv X n q)) C (by rw [show mv X n q = 0 from if_neg (by omega)]) ?_
        refine sg_is8 (pc := 63) C d_M_fill_63 ?_
        refine sg_aln (pc := 65) C d_M_fill_65 rfl ?_
        refine sg_getr (pc := 66) C fw_M_11 (by omega) rfl rfl rfl d_M_fill_66 ?_
        refine sg_il (pc := 69) C d_M_fill_69 rfl ?_
        refine sg_il (pc := 71) C d_M_fill_71 rfl ?_
        refine sg_add (pc := 73) C d_M_fill_73 ?_
        refine sg_aald (pc := 74) (n := 64) (t := 3) C (by omega) rfl (by decide) rfl rfl (by omega) (by decide) (rf_rows (by omega)) d_M_fill_74 ?_
        refine sg_il (pc := 75) C d_M_fill_75 rfl ?_
        refine sg_il (pc := 77) C d_M_fill_77 rfl ?_
        refine sg_iast (pc := 79) (n := 8) C (by omega) (sh_R (by omega)) (by omega) (by decide) d_M_fill_79 ?_
        refine sg_aln (pc := 80) C d_M_fill_80 rfl ?_
        refine sg_getr (pc := 81) C fw_M_11 (by omega) rfl rfl rfl d_M_fill_81 ?_
        refine sg_il (pc := 84) C d_M_fill_84 rfl ?_
        refine sg_il (pc := 86) C d_M_fill_86 rfl ?_
        refine sg_add (pc := 88) C d_M_fill_88 ?_
        refine sg_aald (pc := 89) (n := 64) (t := 3) C (by omega) rfl (by decide) rfl rfl (by omega) (by decide) (rf_rows (by omega)) d_M_fill_89 ?_
        refine sg_il (pc := 90) C d_M_fill_90 rfl ?_
        refine sg_il (pc := 92) C d_M_fill_92 rfl ?_
        refine sg_iast (pc := 94) (n := 8) C (by omega) (sh_R (by omega)) (by omega) (by decide) d_M_fill_94 ?_
        refine sg_inc4 (pc := 95) (n := 1) C d_M_fill_95 (by decide) ?_
        refine sg_goto (pc := 98) (tgt := 11) C d_M_fill_98 (by decide) ?_
        exact ih (q + 1) _ _ _ _ (by omega)
      · refine sg_aln (pc := 55) C d_M_fill_55 rfl ?_
        refine sg_il (pc := 56) C d_M_fill_56 rfl ?_
        refine sg_iald (pc := 58) (n := 240) C (by omega) rfl (by omega) (by decide) d_M_fill_58 ?_
        rw [mf_o (Or.inr (by decide)) q (by omega), show X 77 q = mv X n q from (if_pos h52).symm]
        refine sg_goto (pc := 59) (tgt := 63) C d_M_fill_59 (by decide) ?_
        refine sg_is8 (pc := 63) C d_M_fill_63 ?_
        refine sg_aln (pc := 65) C d_M_fill_65 rfl ?_
        refine sg_getr (pc := 66) C fw_M_11 (by omega) rfl rfl rfl d_M_fill_66 ?_
        refine sg_il (pc := 69) C d_M_fill_69 rfl ?_
        refine sg_il (pc := 71) C d_M_fill_71 rfl ?_
        refine sg_add (pc := 73) C d_M_fill_73 ?_
        refine sg_aald (pc := 74) (n := 64) (t := 3) C (by omega) rfl (by decide) rfl rfl (by omega) (by decide) (rf_rows (by omega)) d_M_fill_74 ?_
        refine sg_il (pc := 75) C d_M_fill_75 rfl ?_
        refine sg_il (pc := 77) C d_M_fill_77 rfl ?_
        refine sg_iast (pc := 79) (n := 8) C (by omega) (sh_R (by omega)) (by omega) (by decide) d_M_fill_79 ?_
        refine sg_aln (pc := 80) C d_M_fill_80 rfl ?_
        refine sg_getr (pc := 81) C fw_M_11 (by omega) rfl rfl rfl d_M_fill_81 ?_
        refine sg_il (pc := 84) C d_M_fill_84 rfl ?_
        refine sg_il (pc := 86) C d_M_fill_86 rfl ?_
        refine sg_add (pc := 88) C d_M_fill_88 ?_
        refine sg_aald (pc := 89) (n := 64) (t := 3) C (by omega) rfl (by decide) rfl rfl (by omega) (by decide) (rf_rows (by omega)) d_M_fill_89 ?_
        refine sg_il (pc := 90) C d_M_fill_90 rfl ?_
        refine sg_il (pc := 92) C d_M_fill_92 rfl ?_
        refine sg_iast (pc := 94) (n := 8) C (by omega) (sh_R (by omega)) (by omega) (by decide) d_M_fill_94 ?_
        refine sg_inc4 (pc := 95) (n := 1) C d_M_fill_95 (by decide) ?_
        refine sg_goto (pc := 98) (tgt := 11) C d_M_fill_98 (by decide) ?_
        exact ih (q + 1) _ _ _ _ (by omega)
  exact loop (30 * ((n + 29) / 30)) 0 none none none none (by omega)

set_option maxHeartbeats 4000000 in
set_option maxRecDepth 100000 in
theorem c_M_spill (l : Launch) (Ω : sm_Ω) {X : sm_X} {w : Nat → Nat → Nat} {n : Nat} (hn : n ≤ 240) : sm_met l Ω y_M_spill b_M_spill 5 none 1 723 [.ref (Ω.2.1 + 4), .ref (Ω.2.1 + 78), .int (nI n)] X (sm_rf w) (sm_det none (sm_uf X 78 (fun j => if j < n then X (6 + (8 * (j / 30) + sm_row (j % 30))) (sm_col (j % 30)) else X 78 j)) (sm_rf w)) := by
  refine sm_intro (own := RX2) (L := [some (.ref (Ω.2.1 + 4)), some (.ref (Ω.2.1 + 78)), some (.int (nI n)), none, none]) (by decide) rfl (by simp [Value.category]) (Nat.le_of_ble_eq_true rfl) rfl ?_
  intro Γ C I
  refine sg_ic (pc := 0) (v := 0) C d_M_spill_0 (by decide) ?_
  refine sg_is3 (pc := 1) C d_M_spill_1 ?_
  have loop : ∀ t q z, q + t = n → sm_G Γ Ω 723 0 0 2 [some (.ref (Ω.2.1 + 4)), some (.ref (Ω.2.1 + 78)), some (.int (nI n)), some (.int (nI q)), z] [] (sm_uf X 78 (fun j => if j < q then X (6 + (8 * (j / 30) + sm_row (j % 30))) (sm_col (j % 30)) else X 78 j)) (sm_rf w) := by
    intro t
    induction t with
    | zero =>
      intro q z hq
      refine sg_iln (pc := 2) C d_M_spill_2 rfl ?_
      refine sg_iln (pc := 3) C d_M_spill_3 rfl ?_
      refine sg_icge (pc := 4) (tgt := 50) C d_M_spill_4 (by decide) (by omega) (by omega) (fun h4 => ?_) (fun h4 => absurd h4 (by omega))
      exact sg_vret (pc := 50) C I rfl d_M_spill_50 ⟨rfl, by rw [show q = n by omega], rfl⟩
    | succ t ih =>
      intro q z hq
      have hm := mx_rc (q % 30) (Nat.mod_lt _ (by decide))
      refine sg_iln (pc := 2) C d_M_spill_2 rfl ?_
      refine sg_iln (pc := 3) C d_M_spill_3 rfl ?_
      refine sg_icge (pc := 4) (tgt := 50) C d_M_spill_4 (by decide) (by omega) (by omega) (fun h4 => absurd h4 (by omega)) (fun h4 => ?_)
      refine sg_bi (pc := 7) (v := 8) C d_M_spill_7 (by decide) ?_
      refine sg_iln (pc := 9) C d_M_spill_9 rfl ?_
      refine sg_bi (pc := 10) (v := 30) C d_M_spill_10 (by decide) ?_
      refine sg_div (pc := 12) C d_M_spill_12 (by omega) (by decide) (by decide) ?_
      refine sg_mul (pc := 13) C d_M_spill_13 ?_
      refine sg_is4 (pc := 14) C d_M_spill_14 ?_
      refine sg_aln (pc := 16) C d_M_spill_16 rfl ?_
      refine sg_iln (pc := 17) C d_M_spill_17 rfl ?_
      refine sg_aln (pc := 18) C d_M_spill_18 rfl ?_
      refine sg_getr (pc := 19) C fw_M_11 (by omega) rfl rfl rfl d_M_spill_19 ?_
      refine sg_il (pc := 22) C d_M_spill_22 rfl ?_
      refine sg_gets1 (pc := 24) C gs_M_24 d_M_spill_24 ?_
      refine sg_iln (pc := 27) C d_M_spill_27 rfl ?_
      refine sg_bi (pc := 28) (v := 30) C d_M_spill_28 (by decide) ?_
      refine sg_rem (pc := 30) C d_M_spill_30 (by omega) (by decide) (by decide) ?_
      refine sg_tald1 (pc := 31) C (by omega) d_M_spill_31 ?_
      refine sg_add (pc := 32) C d_M_spill_32 ?_
      refine sg_aald (pc := 33) (n := 64) (t := 3) C (by omega) rfl (by decide) rfl rfl (by omega) (by decide) (rf_rows (by omega)) d_M_spill_33 ?_
      refine sg_gets2 (pc := 34) C gs_M_27 d_M_spill_34 ?_
      refine sg_iln (pc := 37) C d_M_spill_37 rfl ?_
      refine sg_bi (pc := 38) (v := 30) C d_M_spill_38 (by decide) ?_
      refine sg_rem (pc := 40) C d_M_spill_40 (by omega) (by decide) (by decide) ?_
      refine sg_tald2 (pc := 41) C (by omega) d_M_spill_41 ?_
      refine sg_iald (pc := 42) (n := 8) C (by omega) (sh_R (by omega)) (by omega) (by decide) d_M_spill_42 ?_
      rw [sm_uf_o (by omega)]
      refine sg_iast (pc := 43) (n := 240) C (by omega) rfl (by omega) (by decide) d_M_spill_43 ?_
      rw [sm_uf_up, show (fun k => if k = q then X (6 + (8 * (q / 30) + sm_row (q % 30))) (sm_col (q % 30)) else if k < q then X (6 + (8 * (k / 30) + sm_row (k % 30))) (sm_col (k % 30)) else X 78 k) = (fun j => if j < q + 1 then X (6 + (8 * (j / 30) + sm_row (j % 30))) (sm_col (j % 30)) else X 78 j) from funext fun j => by
          by_cases e1 : j = q
          · subst e1; rw [if_pos rfl, if_pos (by omega)]
          · rw [if_neg e1]
            by_cases e2 : j < q
            · rw [if_pos e2, if_pos (by omega)]
            · rw [if_neg e2, if_neg (by omega)]]
      refine sg_inc3 (pc := 44) (n := 1) C d_M_spill_44 (by decide) ?_
      refine sg_goto (pc := 47) (tgt := 2) C d_M_spill_47 (by decide) ?_
      exact ih (q + 1) _ (by omega)
  have h0 := loop n 0 none (by omega)
  rw [show (sm_uf X 78 (fun j => if j < 0 then X (6 + (8 * (j / 30) + sm_row (j % 30))) (sm_col (j % 30)) else X 78 j)) = X from (sm_uf_c (fun j => if_neg (Nat.not_lt_zero j))).trans sm_uf_self] at h0
  exact h0

theorem gf_h_uf {X : sm_X} {c i p : Nat} {f : Nat → Nat} (h : i ≠ c) : gf_h (fun j => sm_uf X c f i (0 + j)) p 0 8 = gf_h (X i) p 0 8 := by
  congr 1
  funext j
  rw [sm_uf_o h, Nat.zero_add]

set_option maxHeartbeats 4000000 in
set_option maxRecDepth 100000 in
theorem c_M_encode (l : Launch) (Ω : sm_Ω) {X : sm_X} {w : Nat → Nat → Nat} {n o b p : Nat} (hn : n < 12) (ho : o < 12) (hb : b < 2) (hG : gal X) (hp : p < 256) (hl : X (82 + 51 * n + 4 * o + 2 * b) 1 ≤ 240) (hr : ∀ r, r < 64 → ∀ j, j < 8 → X (6 + r) j < 256) : sm_met l Ω y_M_encode b_M_encode 6 none 3 723 [.ref (Ω.2.1 + 4), .ref (Ω.2.1 + 1), .int (nI p), .ref (Ω.2.1 + (82 + 51 * n + 4 * o + 2 * b))] X (sm_rf w) (sm_det none (sm_uf X (83 + 51 * n + 4 * o + 2 * b) (fun j => if j < (8 * ((X (82 + 51 * n + 4 * o + 2 * b) 1 + 29) / 30)) then gf_h (X (6 + j)) p 0 8 else X (83 + 51 * n + 4 * o + 2 * b) j)) (sm_rf w)) := by
  refine sm_intro (own := RX2) (L := [some (.ref (Ω.2.1 + 4)), some (.ref (Ω.2.1 + 1)), some (.int (nI p)), some (.ref (Ω.2.1 + (82 + 51 * n + 4 * o + 2 * b))), none, none]) (by decide) rfl (by simp [Value.category]) (Nat.le_of_ble_eq_true rfl) rfl ?_
  intro Γ C I
  refine sg_bi (pc := 0) (v := 8) C d_M_encode_0 (by decide) ?_
  refine sg_aln (pc := 2) C d_M_encode_2 rfl ?_
  refine sg_geti (pc := 3) C fw_M_30 (by omega) (sh_S hn ho hb) rfl d_M_encode_3 ?_
  refine sm_callSN (pc := 6) (As := [.int (nI (X (82 + 51 * n + 4 * o + 2 * b) 1))]) C I (c_S_stripesOf l Ω (by omega)) nw_code nw_init sw_S_stripesOf (by decide) rfl (by decide) ⟨by decide, by decide⟩ rfl (Nat.le_of_ble_eq_true rfl) d_M_encode_6 (sm_det_i ?_)
  refine sg_mul (pc := 9) C d_M_encode_9 ?_
  refine sg_is4 (pc := 10) C d_M_encode_10 ?_
  refine sg_ic (pc := 12) (v := 0) C d_M_encode_12 (by decide) ?_
  refine sg_is5 (pc := 13) C d_M_encode_13 ?_
  have loop : ∀ t k, k + t = (8 * ((X (82 + 51 * n + 4 * o + 2 * b) 1 + 29) / 30)) → sm_G Γ Ω 723 0 0 15 [some (.ref (Ω.2.1 + 4)), some (.ref (Ω.2.1 + 1)), some (.int (nI p)), some (.ref (Ω.2.1 + (82 + 51 * n + 4 * o + 2 * b))), some (.int (nI (8 * ((X (82 + 51 * n + 4 * o + 2 * b) 1 + 29) / 30)))), some (.int (nI k))] [] (sm_uf X (83 + 51 * n + 4 * o + 2 * b) (fun j => if j < k then gf_h (X (6 + j)) p 0 8 else X (83 + 51 * n + 4 * o + 2 * b) j)) (sm_rf w) := by
    intro t
    induction t with
    | zero =>
      intro k hk
      refine sg_il (pc := 15) C d_M_encode_15 rfl ?_
      refine sg_il (pc := 17) C d_M_encode_17 rfl ?_
      refine sg_icge (pc := 19) (tgt := 48) C d_M_encode_19 (by decide) (by omega) (by omega) (fun h19 => ?_) (fun h19 => absurd h19 (by omega))
      exact sg_vret (pc := 48) C I rfl d_M_encode_48 ⟨rfl, by rw [show k = (8 * ((X (82 + 51 * n + 4 * o + 2 * b) 1 + 29) / 30)) by omega], rfl⟩
    | succ t ih =>
      intro k hk
      refine sg_il (pc := 15) C d_M_encode_15 rfl ?_
      refine sg_il (pc := 17) C d_M_encode_17 rfl ?_
      refine sg_icge (pc := 19) (tgt := 48) C d_M_encode_19 (by decide) (by omega) (by omega) (fun h19 => absurd h19 (by omega)) (fun h19 => ?_)
      refine sg_aln (pc := 22) C d_M_encode_22 rfl ?_
      refine sg_getr (pc := 23) C fw_M_36 (by omega) (sh_S hn ho hb) rfl (rf_S2 hn ho hb) d_M_encode_23 ?_
      refine sg_il (pc := 26) C d_M_encode_26 rfl ?_
      refine sg_aln (pc := 28) C d_M_encode_28 rfl ?_
      refine sg_iln (pc := 29) C d_M_encode_29 rfl ?_
      refine sg_aln (pc := 30) C d_M_encode_30 rfl ?_
      refine sg_getr (pc := 31) C fw_M_11 (by omega) rfl rfl rfl d_M_encode_31 ?_
      refine sg_il (pc := 34) C d_M_encode_34 rfl ?_
      refine sg_aald (pc := 36) (n := 64) (t := 3) C (by omega) rfl (by decide) rfl rfl (by omega) (by decide) (rf_rows (by omega)) d_M_encode_36 ?_
      refine sg_ic (pc := 37) (v := 0) C d_M_encode_37 (by decide) ?_
      refine sm_callV (pc := 38) (As := [.int (nI p), .ref (Ω.2.1 + (6 + k)), .int (nI 0)]) C I (c_G_valueAt l Ω (i := 6 + k) (n := 8) (fr := 0) (gal_uf hG (by omega) (by omega)) hp (by omega) (sh_R (by omega)) (by decide) (by decide) (fun j hj => by rw [sm_uf_o (by omega), Nat.zero_add]; exact hr k (by omega) j hj)) cw_M_39 iw_G_valueAt (C.1.2.2.2.2 _ (List.mem_cons_of_mem _ se_G_valueAt)) (by omega) rfl rfl rfl rfl (by decide) ⟨by decide, by decide⟩ rfl (Nat.le_of_ble_eq_true rfl) d_M_encode_38 (sm_det_i ?_)
      rw [gf_h_uf (by omega)]
      refine sg_iast (pc := 41) (n := 64) C (by omega) (sh_Sb hn ho hb) (by omega) (by decide) d_M_encode_41 ?_
      rw [sm_uf_up, show (fun j => if j = k then gf_h (X (6 + k)) p 0 8 else if j < k then gf_h (X (6 + j)) p 0 8 else X (83 + 51 * n + 4 * o + 2 * b) j) = (fun j => if j < k + 1 then gf_h (X (6 + j)) p 0 8 else X (83 + 51 * n + 4 * o + 2 * b) j) from funext fun j => by
          by_cases e1 : j = k
          · subst e1; rw [if_pos rfl, if_pos (by omega)]
          · rw [if_neg e1]
            by_cases e2 : j < k
            · rw [if_pos e2, if_pos (by omega)]
            · rw [if_neg e2, if_neg (by omega)]]
      refine sg_inc5 (pc := 42) (n := 1) C d_M_encode_42 (by decide) ?_
      refine sg_goto (pc := 45) (tgt := 15) C d_M_encode_45 (by decide) ?_
      exact ih (k + 1) (by omega)
  have h0 := loop (8 * ((X (82 + 51 * n + 4 * o + 2 * b) 1 + 29) / 30)) 0 (by omega)
  rw [show (sm_uf X (83 + 51 * n + 4 * o + 2 * b) (fun j => if j < 0 then gf_h (X (6 + j)) p 0 8 else X (83 + 51 * n + 4 * o + 2 * b) j)) = X from (sm_uf_c (fun j => if_neg (Nat.not_lt_zero j))).trans sm_uf_self] at h0
  exact h0
