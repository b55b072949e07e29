/-! The small classes: Item, Share, Team, Node -/
theorem gs_M_24 : Cond.fieldLink RX2 24 sm_RM "ROW_OF" "[I" ∈ sm_ws := sm_inT 346 (by decide +kernel) (by decide +kernel)
theorem gs_M_27 : Cond.fieldLink RX2 27 sm_RM "COLUMN_OF" "[I" ∈ sm_ws := sm_inT 348 (by decide +kernel) (by decide +kernel)
theorem nw_code : Cond.code y_S_stripesOf b_S_stripesOf 1 (some .int) ∈ sm_ws := sm_inT 345 (by decide +kernel) (by decide +kernel)
theorem nw_init : Cond.initialized RX6 ∈ sm_ws := sm_inT 1 (by decide +kernel) (by decide +kernel)
set_option maxHeartbeats 4000000 in
set_option maxRecDepth 100000 in
theorem c_I_begin (l : Launch) (Ω : sm_Ω) {X : sm_X} {w : Nat → Nat → Nat} {c : Nat} (hi : c < 723) (hs : sm_sh c = .inl (1, [false, false, false, false, false])) {n : Nat} : sm_met l Ω y_I_begin b_I_begin 2 none 1 723 [.ref (Ω.2.1 + c), .int (nI n)] X (sm_rf w) (sm_det none (sm_up (sm_up (sm_up X c 2 (X c 2 + 1)) c 3 n) c 4 1) (sm_rf w)) := by
  refine sm_intro (own := RX1) (L := [some (.ref (Ω.2.1 + c)), some (.int (nI n))]) (by decide) rfl (by simp [Value.category]) (Nat.le_of_ble_eq_true rfl) rfl ?_
  intro Γ C I
  refine sg_aln (pc := 0) C d_I_begin_0 rfl ?_
  refine sg_dup (pc := 1) C d_I_begin_1 rfl ?_
  refine sg_geti (pc := 2) C fw_I_16 hi hs rfl d_I_begin_2 ?_
  refine sg_ic (pc := 5) (v := 1) C d_I_begin_5 (by decide) ?_
  refine sg_add (pc := 6) C d_I_begin_6 ?_
  refine sg_puti (pc := 7) C pw_I_16 hi hs rfl rfl rfl d_I_begin_7 ?_
  refine sg_aln (pc := 10) C d_I_begin_10 rfl ?_
  refine sg_iln (pc := 11) C d_I_begin_11 rfl ?_
  refine sg_puti (pc := 12) C pw_I_19 hi hs rfl rfl rfl d_I_begin_12 ?_
  refine sg_aln (pc := 15) C d_I_begin_15 rfl ?_
  refine sg_ic (pc := 16) (v := 1) C d_I_begin_16 (by decide) ?_
  refine sg_puti (pc := 17) C pw_I_22 hi hs rfl (sn_b (by omega)) (sn_bf (by omega)) d_I_begin_17 ?_
  exact sg_vret (pc := 20) C I rfl d_I_begin_20 ⟨rfl, rfl, rfl⟩

set_option maxHeartbeats 4000000 in
set_option maxRecDepth 100000 in
theorem c_I_finish0 (l : Launch) (Ω : sm_Ω) {X : sm_X} {w : Nat → Nat → Nat} {c : Nat} (hi : c < 723) (hs : sm_sh c = .inl (1, [false, false, false, false, false])) : sm_met l Ω y_I_finish b_I_finish 2 none 1 723 [.ref (Ω.2.1 + c), .int (nI 0)] X (sm_rf w) (sm_det none (sm_up X c 4 0) (sm_rf w)) := by
  refine sm_intro (own := RX1) (L := [some (.ref (Ω.2.1 + c)), some (.int (nI 0))]) (by decide) rfl (by simp [Value.category]) (Nat.le_of_ble_eq_true rfl) rfl ?_
  intro Γ C I
  refine sg_iln (pc := 0) C d_I_finish_0 rfl ?_
  refine sg_ifeq (pc := 1) (tgt := 20) C d_I_finish_1 (by decide) (by omega) (fun h1 => ?_) (fun h1 => absurd rfl h1)
  refine sg_aln (pc := 20) C d_I_finish_20 rfl ?_
  refine sg_ic (pc := 21) (v := 0) C d_I_finish_21 (by decide) ?_
  refine sg_puti (pc := 22) C pw_I_22 hi hs rfl (sn_b (by omega)) (sn_bf (by omega)) d_I_finish_22 ?_
  exact sg_vret (pc := 25) C I rfl d_I_finish_25 ⟨rfl, rfl, rfl⟩

set_option maxHeartbeats 4000000 in
set_option maxRecDepth 100000 in
theorem c_I_finish1 (l : Launch) (Ω : sm_Ω) {X : sm_X} {w : Nat → Nat → Nat} {c : Nat} (hi : c < 723) (hs : sm_sh c = .inl (1, [false, false, false, false, false])) : sm_met l Ω y_I_finish b_I_finish 2 none 1 723 [.ref (Ω.2.1 + c), .int (nI 1)] X (sm_rf w) (sm_det none (sm_up (sm_up (sm_up X c 0 (X c 2)) c 1 (X c 3)) c 4 0) (sm_rf w)) := by
  refine sm_intro (own := RX1) (L := [some (.ref (Ω.2.1 + c)), some (.int (nI 1))]) (by decide) rfl (by simp [Value.category]) (Nat.le_of_ble_eq_true rfl) rfl ?_
  intro Γ C I
  refine sg_iln (pc := 0) C d_I_finish_0 rfl ?_
  refine sg_ifeq (pc := 1) (tgt := 20) C d_I_finish_1 (by decide) (by omega) (fun h1 => absurd h1 (by decide)) (fun h1 => ?_)
  refine sg_aln (pc := 4) C d_I_finish_4 rfl ?_
  refine sg_aln (pc := 5) C d_I_finish_5 rfl ?_
  refine sg_geti (pc := 6) C fw_I_16 hi hs rfl d_I_finish_6 ?_
  refine sg_puti (pc := 9) C pw_I_7 hi hs rfl rfl rfl d_I_finish_9 ?_
  refine sg_aln (pc := 12) C d_I_finish_12 rfl ?_
  refine sg_aln (pc := 13) C d_I_finish_13 rfl ?_
  refine sg_geti (pc := 14) C fw_I_19 hi hs rfl d_I_finish_14 ?_
  rw [sm_up_x (Or.inr (by decide))]
  refine sg_puti (pc := 17) C pw_I_13 hi hs rfl rfl rfl d_I_finish_17 ?_
  refine sg_aln (pc := 20) C d_I_finish_20 rfl ?_
  refine sg_ic (pc := 21) (v := 0) C d_I_finish_21 (by decide) ?_
  refine sg_puti (pc := 22) C pw_I_22 hi hs rfl (sn_b (by omega)) (sn_bf (by omega)) d_I_finish_22 ?_
  exact sg_vret (pc := 25) C I rfl d_I_finish_25 ⟨rfl, rfl, rfl⟩

set_option maxHeartbeats 4000000 in
set_option maxRecDepth 100000 in
theorem c_H_become (l : Launch) (Ω : sm_Ω) {X : sm_X} {w : Nat → Nat → Nat} {c : Nat} (hi : c < 723) (hs : sm_sh c = .inl (4, [false, false, true])) {v n : Nat} : sm_met l Ω y_H_become b_H_become 3 none 1 723 [.ref (Ω.2.1 + c), .int (nI v), .int (nI n)] X (sm_rf w) (sm_det none (sm_up (sm_up X c 0 v) c 1 n) (sm_rf w)) := by
  refine sm_intro (own := RX4) (L := [some (.ref (Ω.2.1 + c)), some (.int (nI v)), some (.int (nI n))]) (by decide) rfl (by simp [Value.category]) (Nat.le_of_ble_eq_true rfl) rfl ?_
  intro Γ C I
  refine sg_aln (pc := 0) C d_H_become_0 rfl ?_
  refine sg_iln (pc := 1) C d_H_become_1 rfl ?_
  refine sg_puti (pc := 2) C pw_H_9 hi hs rfl rfl rfl d_H_become_2 ?_
  refine sg_aln (pc := 5) C d_H_become_5 rfl ?_
  refine sg_iln (pc := 6) C d_H_become_6 rfl ?_
  refine sg_puti (pc := 7) C pw_H_15 hi hs rfl rfl rfl d_H_become_7 ?_
  exact sg_vret (pc := 10) C I rfl d_H_become_10 ⟨rfl, rfl, rfl⟩

set_option maxHeartbeats 4000000 in
set_option maxRecDepth 100000 in
theorem c_T_clear (l : Launch) (Ω : sm_Ω) {X : sm_X} {w : Nat → Nat → Nat} : sm_met l Ω y_T_clear b_T_clear 1 none 1 723 [.ref (Ω.2.1 + 73)] X (sm_rf w) (sm_det none (sm_up X 73 2 0) (sm_rf w)) := by
  refine sm_intro (own := RX5) (L := [some (.ref (Ω.2.1 + 73))]) (by decide) rfl (by simp [Value.category]) (Nat.le_of_ble_eq_true rfl) rfl ?_
  intro Γ C I
  refine sg_aln (pc := 0) C d_T_clear_0 rfl ?_
  refine sg_ic (pc := 1) (v := 0) C d_T_clear_1 (by decide) ?_
  refine sg_puti (pc := 2) C pw_T_18 (by omega) rfl rfl rfl rfl d_T_clear_2 ?_
  exact sg_vret (pc := 5) C I rfl d_T_clear_5 ⟨rfl, rfl, rfl⟩

set_option maxHeartbeats 4000000 in
set_option maxRecDepth 100000 in
theorem c_T_add (l : Launch) (Ω : sm_Ω) {X : sm_X} {w : Nat → Nat → Nat} {k : Nat} (h8 : X 73 2 < 8) : sm_met l Ω y_T_add b_T_add 2 none 1 723 [.ref (Ω.2.1 + 73), .int (nI k)] X (sm_rf w) (sm_det none (sm_up (sm_up (sm_up X 74 (X 73 2) k) 75 (X 73 2) (k + 1)) 73 2 (X 73 2 + 1)) (sm_rf w)) := by
  refine sm_intro (own := RX5) (L := [some (.ref (Ω.2.1 + 73)), some (.int (nI k))]) (by decide) rfl (by simp [Value.category]) (Nat.le_of_ble_eq_true rfl) rfl ?_
  intro Γ C I
  refine sg_aln (pc := 0) C d_T_add_0 rfl ?_
  refine sg_geti (pc := 1) C fw_T_18 (by omega) rfl rfl d_T_add_1 ?_
  refine sg_bi (pc := 4) (v := 8) C d_T_add_4 (by decide) ?_
  refine sg_icge (pc := 6) (tgt := 41) C d_T_add_6 (by decide) (by omega) (by omega) (fun h6 => absurd h6 (by omega)) (fun h6 => ?_)
  refine sg_aln (pc := 9) C d_T_add_9 rfl ?_
  refine sg_getr (pc := 10) C fw_T_9 (by omega) rfl rfl rfl d_T_add_10 ?_
  refine sg_aln (pc := 13) C d_T_add_13 rfl ?_
  refine sg_geti (pc := 14) C fw_T_18 (by omega) rfl rfl d_T_add_14 ?_
  refine sg_iln (pc := 17) C d_T_add_17 rfl ?_
  refine sg_iast (pc := 18) (n := 8) C (by omega) rfl (by omega) (by decide) d_T_add_18 ?_
  refine sg_aln (pc := 19) C d_T_add_19 rfl ?_
  refine sg_getr (pc := 20) C fw_T_15 (by omega) rfl rfl rfl d_T_add_20 ?_
  refine sg_aln (pc := 23) C d_T_add_23 rfl ?_
  refine sg_geti (pc := 24) C fw_T_18 (by omega) rfl rfl d_T_add_24 ?_
  rw [sm_up_x (Or.inl (by decide))]
  refine sg_iln (pc := 27) C d_T_add_27 rfl ?_
  refine sg_ic (pc := 28) (v := 1) C d_T_add_28 (by decide) ?_
  refine sg_add (pc := 29) C d_T_add_29 ?_
  refine sg_iast (pc := 30) (n := 8) C (by omega) rfl (by omega) (by decide) d_T_add_30 ?_
  refine sg_aln (pc := 31) C d_T_add_31 rfl ?_
  refine sg_dup (pc := 32) C d_T_add_32 rfl ?_
  refine sg_geti (pc := 33) C fw_T_18 (by omega) rfl rfl d_T_add_33 ?_
  rw [sm_up_x (Or.inl (by decide)), sm_up_x (Or.inl (by decide))]
  refine sg_ic (pc := 36) (v := 1) C d_T_add_36 (by decide) ?_
  refine sg_add (pc := 37) C d_T_add_37 ?_
  refine sg_puti (pc := 38) C pw_T_18 (by omega) rfl rfl rfl rfl d_T_add_38 ?_
  exact sg_vret (pc := 41) C I rfl d_T_add_41 ⟨rfl, rfl, rfl⟩

def tw (w : Nat → Nat → Nat) (n o : Nat) : Nat → Nat → Nat := fun a b => if a = n ∧ b = o then 1 - w n o else w a b
theorem tw_s {w : Nat → Nat → Nat} {n o : Nat} : tw w n o n o = 1 - w n o := if_pos ⟨rfl, rfl⟩
theorem tw_n {w : Nat → Nat → Nat} {n o a b : Nat} (h : a ≠ n ∨ b ≠ o) : tw w n o a b = w a b := if_neg (fun q => h.elim (fun z => z q.1) (fun z => z q.2))
theorem rf_turn {w : Nat → Nat → Nat} {n o : Nat} (hn : n < 12) (ho : o < 12) (hw : w n o < 2) : sm_ur (sm_ur (sm_rf w) (80 + 51 * n) o (some (82 + 51 * n + 4 * o + 2 * (1 - w n o)))) (81 + 51 * n) o (some (82 + 51 * n + 4 * o + 2 * w n o)) = sm_rf (tw w n o) := by
  funext i j
  by_cases h1 : i = 81 + 51 * n ∧ j = o
  · obtain ⟨rfl, rfl⟩ := h1
    rw [sm_ur_s, rf_Nh hn ho, tw_s]
    congr 1
    omega
  by_cases h2 : i = 80 + 51 * n ∧ j = o
  · obtain ⟨rfl, rfl⟩ := h2
    rw [sm_ur_o (by omega), sm_ur_s, rf_Ns hn ho, tw_s]
  · have e : sm_ur (sm_ur (sm_rf w) (80 + 51 * n) o (some (82 + 51 * n + 4 * o + 2 * (1 - w n o)))) (81 + 51 * n) o (some (82 + 51 * n + 4 * o + 2 * w n o)) i j = sm_rf w i j := (if_neg h1).trans (if_neg h2)
    rw [e]
    unfold sm_rf
    by_cases h3 : i < 6
    · rw [if_pos h3, if_pos h3]
    rw [if_neg h3, if_neg h3]
    by_cases h4 : i < 79
    · rw [if_pos h4, if_pos h4]
    rw [if_neg h4, if_neg h4]
    by_cases h5 : i < 691
    · rw [if_pos h5, if_pos h5]
      by_cases h6 : (i - 79) % 51 = 0
      · rw [if_pos h6, if_pos h6]
      rw [if_neg h6, if_neg h6]
      by_cases h7 : (i - 79) % 51 = 1
      · rw [if_pos h7, if_pos h7, tw_n (by omega)]
      rw [if_neg h7, if_neg h7]
      by_cases h8 : (i - 79) % 51 = 2
      · rw [if_pos h8, if_pos h8, tw_n (by omega)]
      rw [if_neg h8, if_neg h8]
    · rw [if_neg h5, if_neg h5]

set_option maxHeartbeats 4000000 in
set_option maxRecDepth 100000 in
theorem c_N_turnShadow (l : Launch) (Ω : sm_Ω) {X : sm_X} {w : Nat → Nat → Nat} (hw : ∀ n o, w n o < 2) {n : Nat} (hn : n < 12) {o : Nat} (ho : o < 12) : sm_met l Ω y_N_turnShadow b_N_turnShadow 3 none 2 723 [.ref (Ω.2.1 + (79 + 51 * n)), .int (nI o)] X (sm_rf w) (sm_det none (sm_up (sm_up X (82 + 51 * n + 4 * o + 2 * w n o) 0 0) (82 + 51 * n + 4 * o + 2 * w n o) 1 0) (sm_rf (tw w n o))) := by
  refine sm_intro (own := RX3) (L := [some (.ref (Ω.2.1 + (79 + 51 * n))), some (.int (nI o)), none]) (by decide) rfl (by simp [Value.category]) (Nat.le_of_ble_eq_true rfl) rfl ?_
  intro Γ C I
  refine sg_aln (pc := 0) C d_N_turnShadow_0 rfl ?_
  refine sg_getr (pc := 1) C fw_N_11 (by omega) (sh_N (by omega)) rfl (rf_N1 (by omega)) d_N_turnShadow_1 ?_
  refine sg_iln (pc := 4) C d_N_turnShadow_4 rfl ?_
  refine sg_aald (pc := 5) (n := 12) (t := 6) C (by omega) (sh_Ns (by omega)) (by decide) rfl rfl (by omega) (by decide) (rf_Ns (by omega) (by omega)) d_N_turnShadow_5 ?_
  refine sg_as2 (pc := 6) C d_N_turnShadow_6 ?_
  refine sg_aln (pc := 7) C d_N_turnShadow_7 rfl ?_
  refine sg_getr (pc := 8) C fw_N_11 (by omega) (sh_N (by omega)) rfl (rf_N1 (by omega)) d_N_turnShadow_8 ?_
  refine sg_iln (pc := 11) C d_N_turnShadow_11 rfl ?_
  refine sg_aln (pc := 12) C d_N_turnShadow_12 rfl ?_
  refine sg_getr (pc := 13) C fw_N_17 (by omega) (sh_N (by omega)) rfl (rf_N2 (by omega)) d_N_turnShadow_13 ?_
  refine sg_iln (pc := 16) C d_N_turnShadow_16 rfl ?_
  refine sg_aald (pc := 17) (n := 12) (t := 6) C (by omega) (sh_Nh (by omega)) (by decide) rfl rfl (by omega) (by decide) (rf_Nh (by omega) (by omega)) d_N_turnShadow_17 ?_
  refine sg_aast (pc := 18) (n := 12) (t := 6) C (by omega) (sh_Ns (by omega)) (by decide) rfl (by omega) (sh_S (by omega) (by omega) (by omega)) rfl (by omega) (by decide) d_N_turnShadow_18 ?_
  refine sg_aln (pc := 19) C d_N_turnShadow_19 rfl ?_
  refine sg_getr (pc := 20) C fw_N_17 (by omega) (sh_N (by omega)) rfl (by rw [sm_ur_o (by omega)]; exact rf_N2 (by omega)) d_N_turnShadow_20 ?_
  refine sg_iln (pc := 23) C d_N_turnShadow_23 rfl ?_
  refine sg_aln (pc := 24) C d_N_turnShadow_24 rfl ?_
  refine sg_aast (pc := 25) (n := 12) (t := 6) C (by have := hw n o; omega) (sh_Nh (by omega)) (by decide) rfl (by have := hw n o; omega) (sh_S (by omega) (by omega) (hw _ _)) rfl (by omega) (by decide) d_N_turnShadow_25 ?_
  refine sg_aln (pc := 26) C d_N_turnShadow_26 rfl ?_
  refine sg_ic (pc := 27) (v := 0) C d_N_turnShadow_27 (by decide) ?_
  refine sg_ic (pc := 28) (v := 0) C d_N_turnShadow_28 (by decide) ?_
  rw [rf_turn hn ho (hw n o)]
  refine sm_callV (pc := 29) (As := [.int (nI 0), .int (nI 0)]) C I (c_H_become l Ω (by have := hw n o; omega) (sh_S hn ho (hw n o))) cw_N_32 iw_H_become (C.1.2.2.2.2 _ (List.mem_cons_of_mem _ se_H_become)) (by have := hw n o; omega) (sh_S (by omega) (by omega) (hw _ _)) rfl rfl rfl (by decide) ⟨by decide, by decide⟩ rfl (Nat.le_of_ble_eq_true rfl) d_N_turnShadow_29 (sm_det_v ?_)
  exact sg_vret (pc := 32) C I rfl d_N_turnShadow_32 ⟨rfl, rfl, rfl⟩

def nb (X : sm_X) (w : Nat → Nat → Nat) (n e : Nat) : Nat → sm_X
  | 0 => sm_up X (79 + 51 * n) 3 1
  | k + 1 => if e = 0 then sm_up (sm_up (nb X w n e k) (82 + 51 * n + 4 * k + 2 * (1 - w n k)) 0 0) (82 + 51 * n + 4 * k + 2 * (1 - w n k)) 1 0
    else sm_up (sm_up (sm_up (sm_up (nb X w n e k) (82 + 51 * n + 4 * k + 2 * (1 - w n k)) 0 0) (82 + 51 * n + 4 * k + 2 * (1 - w n k)) 1 0) (82 + 51 * n + 4 * k + 2 * w n k) 0 0) (82 + 51 * n + 4 * k + 2 * w n k) 1 0

set_option maxHeartbeats 4000000 in
set_option maxRecDepth 100000 in
theorem c_N_comeBack0 (l : Launch) (Ω : sm_Ω) {X : sm_X} {w : Nat → Nat → Nat} (hw : ∀ n o, w n o < 2) {n : Nat} (hn : n < 12) : sm_met l Ω y_N_comeBack b_N_comeBack 3 none 2 723 [.ref (Ω.2.1 + (79 + 51 * n)), .int (nI 0)] X (sm_rf w) (sm_det none (nb X w n 0 12) (sm_rf w)) := by
  refine sm_intro (own := RX3) (L := [some (.ref (Ω.2.1 + (79 + 51 * n))), some (.int (nI 0)), none]) (by decide) rfl (by simp [Value.category]) (Nat.le_of_ble_eq_true rfl) rfl ?_
  intro Γ C I
  refine sg_aln (pc := 0) C d_N_comeBack_0 rfl ?_
  refine sg_ic (pc := 1) (v := 1) C d_N_comeBack_1 (by decide) ?_
  refine sg_puti (pc := 2) C pw_N_20 (by omega) (sh_N (by omega)) rfl (sn_b (by omega)) (sn_bf (by omega)) d_N_comeBack_2 ?_
  refine sg_ic (pc := 5) (v := 0) C d_N_comeBack_5 (by decide) ?_
  refine sg_is2 (pc := 6) C d_N_comeBack_6 ?_
  have loop : ∀ t k, k + t = 12 → sm_G Γ Ω 723 0 0 7 [some (.ref (Ω.2.1 + (79 + 51 * n))), some (.int (nI 0)), some (.int (nI k))] [] (nb X w n 0 k) (sm_rf w) := by
    intro t
    induction t with
    | zero =>
      intro k hk
      refine sg_iln (pc := 7) C d_N_comeBack_7 rfl ?_
      refine sg_bi (pc := 8) (v := 12) C d_N_comeBack_8 (by decide) ?_
      refine sg_icge (pc := 10) (tgt := 45) C d_N_comeBack_10 (by decide) (by omega) (by omega) (fun h10 => ?_) (fun h10 => absurd h10 (by omega))
      exact sg_vret (pc := 45) C I rfl d_N_comeBack_45 ⟨rfl, by rw [show k = 12 by omega], rfl⟩
    | succ t ih =>
      intro k hk
      have hwk := hw n k
      refine sg_iln (pc := 7) C d_N_comeBack_7 rfl ?_
      refine sg_bi (pc := 8) (v := 12) C d_N_comeBack_8 (by decide) ?_
      refine sg_icge (pc := 10) (tgt := 45) C d_N_comeBack_10 (by decide) (by omega) (by omega) (fun h10 => absurd h10 (by omega)) (fun h10 => ?_)
      refine sg_aln (pc := 13) C d_N_comeBack_13 rfl ?_
      refine sg_getr (pc := 14) C fw_N_17 (by omega) (sh_N (by omega)) rfl (rf_N2 (by omega)) d_N_comeBack_14 ?_
      refine sg_iln (pc := 17) C d_N_comeBack_17 rfl ?_
      refine sg_aald (pc := 18) (n := 12) (t := 6) C (by omega) (sh_Nh (by omega)) (by decide) rfl rfl (by omega) (by decide) (rf_Nh (by omega) (by omega)) d_N_comeBack_18 ?_
      refine sg_ic (pc := 19) (v := 0) C d_N_comeBack_19 (by decide) ?_
      refine sg_ic (pc := 20) (v := 0) C d_N_comeBack_20 (by decide) ?_
      refine sm_callV (pc := 21) (As := [.int (nI 0), .int (nI 0)]) C I (c_H_become l Ω (by omega) (sh_S hn (by omega) (by omega))) cw_N_32 iw_H_become (C.1.2.2.2.2 _ (List.mem_cons_of_mem _ se_H_become)) (by omega) (sh_S (by omega) (by omega) (by omega)) rfl rfl rfl (by decide) ⟨by decide, by decide⟩ rfl (Nat.le_of_ble_eq_true rfl) d_N_comeBack_21 (sm_det_v ?_)
      refine sg_iln (pc := 24) C d_N_comeBack_24 rfl ?_
      refine sg_ifeq (pc := 25) (tgt := 39) C d_N_comeBack_25 (by decide) (by omega) (fun h25 => ?_) (fun h25 => absurd rfl h25)
      refine sg_inc2 (pc := 39) (n := 1) C d_N_comeBack_39 (by decide) ?_
      refine sg_goto (pc := 42) (tgt := 7) C d_N_comeBack_42 (by decide) ?_
      exact ih (k + 1) (by omega)
  exact loop 12 0 (by omega)

set_option maxHeartbeats 4000000 in
set_option maxRecDepth 100000 in
theorem c_N_comeBack1 (l : Launch) (Ω : sm_Ω) {X : sm_X} {w : Nat → Nat → Nat} (hw : ∀ n o, w n o < 2) {n : Nat} (hn : n < 12) : sm_met l Ω y_N_comeBack b_N_comeBack 3 none 2 723 [.ref (Ω.2.1 + (79 + 51 * n)), .int (nI 1)] X (sm_rf w) (sm_det none (nb X w n 1 12) (sm_rf w)) := by
  refine sm_intro (own := RX3) (L := [some (.ref (Ω.2.1 + (79 + 51 * n))), some (.int (nI 1)), none]) (by decide) rfl (by simp [Value.category]) (Nat.le_of_ble_eq_true rfl) rfl ?_
  intro Γ C I
  refine sg_aln (pc := 0) C d_N_comeBack_0 rfl ?_
  refine sg_ic (pc := 1) (v := 1) C d_N_comeBack_1 (by decide) ?_
  refine sg_puti (pc := 2) C pw_N_20 (by omega) (sh_N (by omega)) rfl (sn_b (by omega)) (sn_bf (by omega)) d_N_comeBack_2 ?_
  refine sg_ic (pc := 5) (v := 0) C d_N_comeBack_5 (by decide) ?_
  refine sg_is2 (pc := 6) C d_N_comeBack_6 ?_
  have loop : ∀ t k, k + t = 12 → sm_G Γ Ω 723 0 0 7 [some (.ref (Ω.2.1 + (79 + 51 * n))), some (.int (nI 1)), some (.int (nI k))] [] (nb X w n 1 k) (sm_rf w) := by
    intro t
    induction t with
    | zero =>
      intro k hk
      refine sg_iln (pc := 7) C d_N_comeBack_7 rfl ?_
      refine sg_bi (pc := 8) (v := 12) C d_N_comeBack_8 (by decide) ?_
      refine sg_icge (pc := 10) (tgt := 45) C d_N_comeBack_10 (by decide) (by omega) (by omega) (fun h10 => ?_) (fun h10 => absurd h10 (by omega))
      exact sg_vret (pc := 45) C I rfl d_N_comeBack_45 ⟨rfl, by rw [show k = 12 by omega], rfl⟩
    | succ t ih =>
      intro k hk
      have hwk := hw n k
      refine sg_iln (pc := 7) C d_N_comeBack_7 rfl ?_
      refine sg_bi (pc := 8) (v := 12) C d_N_comeBack_8 (by decide) ?_
      refine sg_icge (pc := 10) (tgt := 45) C d_N_comeBack_10 (by decide) (by omega) (by omega) (fun h10 => absurd h10 (by omega)) (fun h10 => ?_)
      refine sg_aln (pc := 13) C d_N_comeBack_13 rfl ?_
      refine sg_getr (pc := 14) C fw_N_17 (by omega) (sh_N (by omega)) rfl (rf_N2 (by omega)) d_N_comeBack_14 ?_
      refine sg_iln (pc := 17) C d_N_comeBack_17 rfl ?_
      refine sg_aald (pc := 18) (n := 12) (t := 6) C (by omega) (sh_Nh (by omega)) (by decide) rfl rfl (by omega) (by decide) (rf_Nh (by omega) (by omega)) d_N_comeBack_18 ?_
      refine sg_ic (pc := 19) (v := 0) C d_N_comeBack_19 (by decide) ?_
      refine sg_ic (pc := 20) (v := 0) C d_N_comeBack_20 (by decide) ?_
      refine sm_callV (pc := 21) (As := [.int (nI 0), .int (nI 0)]) C I (c_H_become l Ω (by omega) (sh_S hn (by omega) (by omega))) cw_N_32 iw_H_become (C.1.2.2.2.2 _ (List.mem_cons_of_mem _ se_H_become)) (by omega) (sh_S (by omega) (by omega) (by omega)) rfl rfl rfl (by decide) ⟨by decide, by decide⟩ rfl (Nat.le_of_ble_eq_true rfl) d_N_comeBack_21 (sm_det_v ?_)
      refine sg_iln (pc := 24) C d_N_comeBack_24 rfl ?_
      refine sg_ifeq (pc := 25) (tgt := 39) C d_N_comeBack_25 (by decide) (by omega) (fun h25 => absurd h25 (by decide)) (fun h25 => ?_)
      refine sg_aln (pc := 28) C d_N_comeBack_28 rfl ?_
      refine sg_getr (pc := 29) C fw_N_11 (by omega) (sh_N (by omega)) rfl (rf_N1 (by omega)) d_N_comeBack_29 ?_
      refine sg_iln (pc := 32) C d_N_comeBack_32 rfl ?_
      refine sg_aald (pc := 33) (n := 12) (t := 6) C (by omega) (sh_Ns (by omega)) (by decide) rfl rfl (by omega) (by decide) (rf_Ns (by omega) (by omega)) d_N_comeBack_33 ?_
      refine sg_ic (pc := 34) (v := 0) C d_N_comeBack_34 (by decide) ?_
      refine sg_ic (pc := 35) (v := 0) C d_N_comeBack_35 (by decide) ?_
      refine sm_callV (pc := 36) (As := [.int (nI 0), .int (nI 0)]) C I (c_H_become l Ω (by omega) (sh_S hn (by omega) (hw n k))) cw_N_32 iw_H_become (C.1.2.2.2.2 _ (List.mem_cons_of_mem _ se_H_become)) (by omega) (sh_S (by omega) (by omega) (hw _ _)) rfl rfl rfl (by decide) ⟨by decide, by decide⟩ rfl (Nat.le_of_ble_eq_true rfl) d_N_comeBack_36 (sm_det_v ?_)
      refine sg_inc2 (pc := 39) (n := 1) C d_N_comeBack_39 (by decide) ?_
      refine sg_goto (pc := 42) (tgt := 7) C d_N_comeBack_42 (by decide) ?_
      exact ih (k + 1) (by omega)
  exact loop 12 0 (by omega)

set_option maxHeartbeats 4000000 in
set_option maxRecDepth 100000 in
theorem c_N_countShadows (l : Launch) (Ω : sm_Ω) {X : sm_X} {w : Nat → Nat → Nat} (hw : ∀ n o, w n o < 2) {n : Nat} (hn : n < 12) (hb : ∀ k, k < 12 → X (82 + 51 * n + 4 * k + 2 * (1 - w n k)) 0 < 2 ^ 31) : sm_met l Ω y_N_countShadows b_N_countShadows 3 (some .int) 1 723 [.ref (Ω.2.1 + (79 + 51 * n))] X (sm_rf w) (sm_det (some (.int (nI (sm_n (fun k => decide (X (82 + 51 * n + 4 * k + 2 * (1 - w n k)) 0 ≠ 0)) 12)))) X (sm_rf w)) := by
  refine sm_intro (own := RX3) (L := [some (.ref (Ω.2.1 + (79 + 51 * n))), none, none]) (by decide) rfl (by simp [Value.category]) (Nat.le_of_ble_eq_true rfl) rfl ?_
  intro Γ C I
  refine sg_ic (pc := 0) (v := 0) C d_N_countShadows_0 (by decide) ?_
  refine sg_is1 (pc := 1) C d_N_countShadows_1 ?_
  refine sg_ic (pc := 2) (v := 0) C d_N_countShadows_2 (by decide) ?_
  refine sg_is2 (pc := 3) C d_N_countShadows_3 ?_
  have loop : ∀ t k, k + t = 12 → sm_G Γ Ω 723 0 0 4 [some (.ref (Ω.2.1 + (79 + 51 * n))), some (.int (nI (sm_n (fun k => decide (X (82 + 51 * n + 4 * k + 2 * (1 - w n k)) 0 ≠ 0)) k))), some (.int (nI k))] [] X (sm_rf w) := by
    intro t
    induction t with
    | zero =>
      intro k hk
      refine sg_iln (pc := 4) C d_N_countShadows_4 rfl ?_
      refine sg_bi (pc := 5) (v := 12) C d_N_countShadows_5 (by decide) ?_
      refine sg_icge (pc := 7) (tgt := 31) C d_N_countShadows_7 (by decide) (by omega) (by omega) (fun h7 => ?_) (fun h7 => absurd h7 (by omega))
      refine sg_iln (pc := 31) C d_N_countShadows_31 rfl ?_
      exact sg_iret (pc := 32) C I rfl rfl d_N_countShadows_32 ⟨by rw [show k = 12 by omega], rfl, rfl⟩
    | succ t ih =>
      intro k hk
      have hwk := hw n k
      have hbk := hb k (by omega)
      refine sg_iln (pc := 4) C d_N_countShadows_4 rfl ?_
      refine sg_bi (pc := 5) (v := 12) C d_N_countShadows_5 (by decide) ?_
      refine sg_icge (pc := 7) (tgt := 31) C d_N_countShadows_7 (by decide) (by omega) (by omega) (fun h7 => absurd h7 (by omega)) (fun h7 => ?_)
      refine sg_aln (pc := 10) C d_N_countShadows_10 rfl ?_
      refine sg_getr (pc := 11) C fw_N_17 (by omega) (sh_N (by omega)) rfl (rf_N2 (by omega)) d_N_countShadows_11 ?_
      refine sg_iln (pc := 14) C d_N_countShadows_14 rfl ?_
      refine sg_aald (pc := 15) (n := 12) (t := 6) C (by omega) (sh_Nh (by omega)) (by decide) rfl rfl (by omega) (by decide) (rf_Nh (by omega) (by omega)) d_N_countShadows_15 ?_
      refine sg_geti (pc := 16) C fw_N_36 (by omega) (sh_S (by omega) (by omega) (by omega)) rfl d_N_countShadows_16 ?_
      refine sg_ifeq (pc := 19) (tgt := 25) C d_N_countShadows_19 (by decide) (by omega) (fun h19 => ?_) (fun h19 => ?_)
      · refine sg_inc2 (pc := 25) (n := 1) C d_N_countShadows_25 (by decide) ?_
        refine sg_goto (pc := 28) (tgt := 4) C d_N_countShadows_28 (by decide) ?_
        have h := ih (k + 1) (by omega)
        rw [show sm_n (fun k => decide (X (82 + 51 * n + 4 * k + 2 * (1 - w n k)) 0 ≠ 0)) (k + 1) = sm_n (fun k => decide (X (82 + 51 * n + 4 * k + 2 * (1 - w n k)) 0 ≠ 0)) k + (if (fun k => decide (X (82 + 51 * n + 4 * k + 2 * (1 - w n k)) 0 ≠ 0)) k = true then 1 else 0) from rfl] at h
        first | (rw [if_neg (by simpa using h19)] at h; exact h) | (rw [if_pos (by simpa using h19)] at h; exact h)
      · refine sg_inc1 (pc := 22) (n := 1) C d_N_countShadows_22 (by decide) ?_
        refine sg_inc2 (pc := 25) (n := 1) C d_N_countShadows_25 (by decide) ?_
        refine sg_goto (pc := 28) (tgt := 4) C d_N_countShadows_28 (by decide) ?_
        have h := ih (k + 1) (by omega)
        rw [show sm_n (fun k => decide (X (82 + 51 * n + 4 * k + 2 * (1 - w n k)) 0 ≠ 0)) (k + 1) = sm_n (fun k => decide (X (82 + 51 * n + 4 * k + 2 * (1 - w n k)) 0 ≠ 0)) k + (if (fun k => decide (X (82 + 51 * n + 4 * k + 2 * (1 - w n k)) 0 ≠ 0)) k = true then 1 else 0) from rfl] at h
        first | (rw [if_neg (by simpa using h19)] at h; exact h) | (rw [if_pos (by simpa using h19)] at h; exact h)
  exact loop 12 0 (by omega)

set_option maxHeartbeats 4000000 in
set_option maxRecDepth 100000 in
theorem c_S_stripesOf (l : Launch) (Ω : sm_Ω) {X : sm_X} {w : Nat → Nat → Nat} {n : Nat} (hn : n < 2 ^ 30) : sm_met l Ω y_S_stripesOf b_S_stripesOf 1 (some .int) 1 723 [.int (nI n)] X (sm_rf w) (sm_det (some (.int (nI ((n + 29) / 30)))) X (sm_rf w)) := by
  refine sm_intro (own := RX6) (L := [some (.int (nI n))]) (by decide) rfl (by simp [Value.category]) (Nat.le_of_ble_eq_true rfl) rfl ?_
  intro Γ C I
  refine sg_iln (pc := 0) C d_S_stripesOf_0 rfl ?_
  refine sg_bi (pc := 1) (v := 30) C d_S_stripesOf_1 (by decide) ?_
  refine sg_add (pc := 3) C d_S_stripesOf_3 ?_
  refine sg_ic (pc := 4) (v := 1) C d_S_stripesOf_4 (by decide) ?_
  refine sg_sub (pc := 5) C d_S_stripesOf_5 (by omega) ?_
  refine sg_bi (pc := 6) (v := 30) C d_S_stripesOf_6 (by decide) ?_
  refine sg_div (pc := 8) C d_S_stripesOf_8 (by omega) (by decide) (by decide) ?_
  exact sg_iret (pc := 9) C I rfl rfl d_S_stripesOf_9 ⟨by rw [show n + 30 - 1 = n + 29 by omega], rfl, rfl⟩
