/-! The shelf's private methods that write: messages, shadows -/
theorem sn_nm {q : Nat} (h : q < 2 ^ 31) : ¬ nI q = -1 := fun e => nI_pos h (by rw [e]; decide)
theorem sm_n_mono (p : Nat → Bool) {a b : Nat} (h : a ≤ b) : sm_n p a ≤ sm_n p b := by
  induction b with
  | zero => rw [Nat.le_zero.mp h]; exact Nat.le_refl _
  | succ b ih =>
    by_cases e : a = b + 1
    · rw [e]; exact Nat.le_refl _
    · exact Nat.le_trans (ih (by omega)) (Nat.le_add_right _ _)

set_option maxHeartbeats 4000000 in
set_option maxRecDepth 100000 in
theorem c_S_takeMessages0 (l : Launch) (Ω : sm_Ω) {X : sm_X} {w : Nat → Nat → Nat} {a : Nat} (ha : a < 2 ^ 31) (h : X 0 9 = 4294967295) : sm_met l Ω y_S_takeMessages b_S_takeMessages 3 (some .int) 1 723 [.ref (Ω.2.1 + 0), .int (nI a)] X (sm_rf w) (sm_det (some (.int (nI a))) (sm_up X 0 9 4294967295) (sm_rf w)) := by
  refine sm_intro (own := RX6) (L := [some (.ref (Ω.2.1 + 0)), some (.int (nI a)), none]) (by decide) rfl (by simp [Value.category]) (Nat.le_of_ble_eq_true rfl) rfl ?_
  intro Γ C I
  refine sg_aln (pc := 0) C d_S_takeMessages_0 rfl ?_
  refine sg_geti (pc := 1) C fw_S_56 (by omega) rfl rfl d_S_takeMessages_1 ?_
  refine sg_is2 (pc := 4) C d_S_takeMessages_4 ?_
  refine sg_aln (pc := 5) C d_S_takeMessages_5 rfl ?_
  refine sg_icm (pc := 6) (v := -1) C d_S_takeMessages_6 (by decide) ?_
  refine sg_top (y := nI 4294967295) C (by decide) ?_
  refine sg_puti (pc := 7) C pw_S_56 (by omega) rfl rfl rfl rfl d_S_takeMessages_7 ?_
  refine sg_iln (pc := 10) C d_S_takeMessages_10 rfl ?_
  refine sg_icm (pc := 11) (v := -1) C d_S_takeMessages_11 (by decide) ?_
  refine sr_iceq (pc := 12) (tgt := 20) C d_S_takeMessages_12 (by decide) (fun h12 => ?_) (fun h12 => absurd (by rw [h]; decide) h12)
  refine sg_iln (pc := 20) C d_S_takeMessages_20 rfl ?_
  refine sg_goto (pc := 21) (tgt := 25) C d_S_takeMessages_21 (by decide) ?_
  exact sg_iret (pc := 25) C I rfl rfl d_S_takeMessages_25 ⟨rfl, rfl, rfl⟩

set_option maxHeartbeats 4000000 in
set_option maxRecDepth 100000 in
theorem c_S_takeMessages1 (l : Launch) (Ω : sm_Ω) {X : sm_X} {w : Nat → Nat → Nat} {a : Nat} (ha : a < 2 ^ 31) {q : Nat} (h : X 0 9 = q) (hq : q < 2 ^ 31) : sm_met l Ω y_S_takeMessages b_S_takeMessages 3 (some .int) 1 723 [.ref (Ω.2.1 + 0), .int (nI a)] X (sm_rf w) (sm_det (some (.int (nI (if q ≤ a then q else a)))) (sm_up X 0 9 4294967295) (sm_rf w)) := by
  refine sm_intro (own := RX6) (L := [some (.ref (Ω.2.1 + 0)), some (.int (nI a)), none]) (by decide) rfl (by simp [Value.category]) (Nat.le_of_ble_eq_true rfl) rfl ?_
  intro Γ C I
  refine sg_aln (pc := 0) C d_S_takeMessages_0 rfl ?_
  refine sg_geti (pc := 1) C fw_S_56 (by omega) rfl rfl d_S_takeMessages_1 ?_
  refine sg_is2 (pc := 4) C d_S_takeMessages_4 ?_
  refine sg_aln (pc := 5) C d_S_takeMessages_5 rfl ?_
  refine sg_icm (pc := 6) (v := -1) C d_S_takeMessages_6 (by decide) ?_
  refine sg_top (y := nI 4294967295) C (by decide) ?_
  refine sg_puti (pc := 7) C pw_S_56 (by omega) rfl rfl rfl rfl d_S_takeMessages_7 ?_
  refine sg_iln (pc := 10) C d_S_takeMessages_10 rfl ?_
  refine sg_icm (pc := 11) (v := -1) C d_S_takeMessages_11 (by decide) ?_
  refine sr_iceq (pc := 12) (tgt := 20) C d_S_takeMessages_12 (by decide) (fun h12 => absurd h12 (sn_nm (by omega))) (fun h12 => ?_)
  refine sg_iln (pc := 15) C d_S_takeMessages_15 rfl ?_
  refine sg_iln (pc := 16) C d_S_takeMessages_16 rfl ?_
  refine sg_icle (pc := 17) (tgt := 24) C d_S_takeMessages_17 (by decide) (by omega) (by omega) (fun h17 => ?_) (fun h17 => ?_)
  · refine sg_iln (pc := 24) C d_S_takeMessages_24 rfl ?_
    exact sg_iret (pc := 25) C I rfl rfl d_S_takeMessages_25 ⟨by rw [h, if_pos (by omega)], rfl, rfl⟩
  · refine sg_iln (pc := 20) C d_S_takeMessages_20 rfl ?_
    refine sg_goto (pc := 21) (tgt := 25) C d_S_takeMessages_21 (by decide) ?_
    exact sg_iret (pc := 25) C I rfl rfl d_S_takeMessages_25 ⟨by rw [if_neg (by omega)], rfl, rfl⟩

def sds (X : sm_X) (w : Nat → Nat → Nat) (o k : Nat) : sm_X := fun a j => if (a - 79) / 51 < k ∧ slv X ((a - 79) / 51) = true ∧ a = 82 + 51 * ((a - 79) / 51) + 4 * o + 2 * (1 - w ((a - 79) / 51) o) ∧ j < 2 then 0 else X a j
theorem sds_o {X : sm_X} {w : Nat → Nat → Nat} {o k a j : Nat} (h : ¬ ((a - 79) / 51 < k ∧ slv X ((a - 79) / 51) = true ∧ a = 82 + 51 * ((a - 79) / 51) + 4 * o + 2 * (1 - w ((a - 79) / 51) o) ∧ j < 2)) : sds X w o k a j = X a j := if_neg h
theorem sds_0 {X : sm_X} {w : Nat → Nat → Nat} {o : Nat} : sds X w o 0 = X := funext fun a => funext fun j => sds_o (by omega)
theorem sds_f {X : sm_X} {w : Nat → Nat → Nat} {o k : Nat} (h : slv X k = false) : sds X w o (k + 1) = sds X w o k := by
  funext a j
  unfold sds
  by_cases e : (a - 79) / 51 = k
  · rw [e, if_neg (by rw [h]; simp), if_neg (by omega)]
  · by_cases h2 : (a - 79) / 51 < k ∧ slv X ((a - 79) / 51) = true ∧ a = 82 + 51 * ((a - 79) / 51) + 4 * o + 2 * (1 - w ((a - 79) / 51) o) ∧ j < 2
    · rw [if_pos h2, if_pos ⟨by omega, h2.2⟩]
    · rw [if_neg h2, if_neg (fun q => h2 ⟨by omega, q.2⟩)]
theorem sds_t {X : sm_X} {w : Nat → Nat → Nat} {o k : Nat} (ho : o < 12) (h : slv X k = true) : sm_up (sm_up (sds X w o k) (82 + 51 * k + 4 * o + 2 * (1 - w k o)) 0 0) (82 + 51 * k + 4 * o + 2 * (1 - w k o)) 1 0 = sds X w o (k + 1) := by
  have e0 : (82 + 51 * k + 4 * o + 2 * (1 - w k o) - 79) / 51 = k := by omega
  funext a j
  by_cases e : a = 82 + 51 * k + 4 * o + 2 * (1 - w k o)
  · subst e
    by_cases h1 : j = 1
    · subst h1
      rw [sm_up_s]
      unfold sds
      rw [e0, if_pos ⟨by omega, h, rfl, by decide⟩]
    · rw [sm_up_n h1]
      by_cases h0 : j = 0
      · subst h0
        rw [sm_up_s]
        unfold sds
        rw [e0, if_pos ⟨by omega, h, rfl, by decide⟩]
      · rw [sm_up_n h0, sds_o (by rw [e0]; omega), sds_o (by rw [e0]; omega)]
  · rw [sm_up_x (Or.inl e), sm_up_x (Or.inl e)]
    unfold sds
    by_cases h2 : (a - 79) / 51 < k ∧ slv X ((a - 79) / 51) = true ∧ a = 82 + 51 * ((a - 79) / 51) + 4 * o + 2 * (1 - w ((a - 79) / 51) o) ∧ j < 2
    · rw [if_pos h2, if_pos ⟨by omega, h2.2⟩]
    · rw [if_neg h2, if_neg (fun q => h2 ⟨by
        have q1 := q.1
        by_cases e5 : (a - 79) / 51 = k
        · rw [e5] at q; exact absurd q.2.2.1 e
        · omega, q.2⟩)]

set_option maxHeartbeats 4000000 in
set_option maxRecDepth 100000 in
theorem c_S_dropShadows (l : Launch) (Ω : sm_Ω) {X : sm_X} {w : Nat → Nat → Nat} (hf : swf X w) {o : Nat} (ho : o < 12) : sm_met l Ω y_S_dropShadows b_S_dropShadows 3 none 2 723 [.ref (Ω.2.1 + 0), .int (nI o)] X (sm_rf w) (sm_det none (sds X w o 12) (sm_rf w)) := by
  refine sm_intro (own := RX6) (L := [some (.ref (Ω.2.1 + 0)), some (.int (nI o)), none]) (by decide) rfl (by simp [Value.category]) (Nat.le_of_ble_eq_true rfl) rfl ?_
  intro Γ C I
  have hw := hf.1
  refine sg_ic (pc := 0) (v := 0) C d_S_dropShadows_0 (by decide) ?_
  refine sg_is2 (pc := 1) C d_S_dropShadows_1 ?_
  have loop : ∀ t k, k + t = 12 → sm_G Γ Ω 723 0 0 2 [some (.ref (Ω.2.1 + 0)), some (.int (nI o)), some (.int (nI k))] [] (sds X w o k) (sm_rf w) := by
    intro t
    induction t with
    | zero =>
      intro k hk
      refine sg_iln (pc := 2) C d_S_dropShadows_2 rfl ?_
      refine sg_bi (pc := 3) (v := 12) C d_S_dropShadows_3 (by decide) ?_
      refine sg_icge (pc := 5) (tgt := 42) C d_S_dropShadows_5 (by decide) (by omega) (by omega) (fun h5 => ?_) (fun h5 => absurd h5 (by omega))
      exact sg_vret (pc := 42) C I rfl d_S_dropShadows_42 ⟨rfl, by rw [show k = 12 by omega], rfl⟩
    | succ t ih =>
      intro k hk
      have hbk := hf.2.1 k (by omega)
      have e3 : sds X w o k (79 + 51 * k) 3 = X (79 + 51 * k) 3 := sds_o (by omega)
      refine sg_iln (pc := 2) C d_S_dropShadows_2 rfl ?_
      refine sg_bi (pc := 3) (v := 12) C d_S_dropShadows_3 (by decide) ?_
      refine sg_icge (pc := 5) (tgt := 42) C d_S_dropShadows_5 (by decide) (by omega) (by omega) (fun h5 => absurd h5 (by omega)) (fun h5 => ?_)
      refine sg_aln (pc := 8) C d_S_dropShadows_8 rfl ?_
      refine sg_getr (pc := 9) C fw_S_25 (by omega) rfl rfl rfl d_S_dropShadows_9 ?_
      refine sg_iln (pc := 12) C d_S_dropShadows_12 rfl ?_
      refine sg_aald (pc := 13) (n := 12) (t := 4) C (by omega) rfl (by decide) rfl rfl (by omega) (by decide) (rf_nodes (by omega)) d_S_dropShadows_13 ?_
      refine sg_geti (pc := 14) C fw_S_149 (by omega) (sh_N (by omega)) rfl d_S_dropShadows_14 ?_
      rw [e3]
      refine sg_ifeq (pc := 17) (tgt := 36) C d_S_dropShadows_17 (by decide) (by omega) (fun h17 => ?_) (fun h17 => ?_)
      · refine sg_inc2 (pc := 36) (n := 1) C d_S_dropShadows_36 (by decide) ?_
        refine sg_goto (pc := 39) (tgt := 2) C d_S_dropShadows_39 (by decide) ?_
        rw [← sds_f (show slv X k = false by simp [slv, h17])]
        exact ih (k + 1) (by omega)
      · refine sg_aln (pc := 20) C d_S_dropShadows_20 rfl ?_
        refine sg_getr (pc := 21) C fw_S_25 (by omega) rfl rfl rfl d_S_dropShadows_21 ?_
        refine sg_iln (pc := 24) C d_S_dropShadows_24 rfl ?_
        refine sg_aald (pc := 25) (n := 12) (t := 4) C (by omega) rfl (by decide) rfl rfl (by omega) (by decide) (rf_nodes (by omega)) d_S_dropShadows_25 ?_
        refine sg_getr (pc := 26) C fw_S_212 (by omega) (sh_N (by omega)) rfl (rf_N2 (by omega)) d_S_dropShadows_26 ?_
        refine sg_iln (pc := 29) C d_S_dropShadows_29 rfl ?_
        refine sg_aald (pc := 30) (n := 12) (t := 6) C (by omega) (sh_Nh (by omega)) (by decide) rfl rfl (by omega) (by decide) (rf_Nh (by omega) (by omega)) d_S_dropShadows_30 ?_
        refine sg_ic (pc := 31) (v := 0) C d_S_dropShadows_31 (by decide) ?_
        refine sg_ic (pc := 32) (v := 0) C d_S_dropShadows_32 (by decide) ?_
        refine sm_callV (pc := 33) (As := [.int (nI 0), .int (nI 0)]) C I (c_H_become l Ω (by omega) (sh_S (by omega) ho (by omega))) cw_S_215 iw_H_become (C.1.2.2.2.2 _ (List.mem_cons_of_mem _ se_H_become)) (by omega) (sh_S (by omega) (by omega) (by omega)) rfl rfl rfl (by decide) ⟨by decide, by decide⟩ rfl (Nat.le_of_ble_eq_true rfl) d_S_dropShadows_33 (sm_det_v ?_)
        refine sg_inc2 (pc := 36) (n := 1) C d_S_dropShadows_36 (by decide) ?_
        refine sg_goto (pc := 39) (tgt := 2) C d_S_dropShadows_39 (by decide) ?_
        rw [sds_t ho (show slv X k = true by simp [slv, h17])]
        exact ih (k + 1) (by omega)
  have h0 := loop 12 0 (by omega)
  rw [sds_0] at h0
  exact h0

def stp (X : sm_X) (w : Nat → Nat → Nat) (o k : Nat) : Bool := slv X k && decide (X (82 + 51 * k + 4 * o + 2 * (1 - w k o)) 0 = X (691 + o) 2)
def stT (X : sm_X) (w : Nat → Nat → Nat) (o c k : Nat) : Bool := stp X w o k && decide (sm_n (stp X w o) k < c)
def stX (T : Nat → Bool) (X : sm_X) (w : Nat → Nat → Nat) (o k : Nat) : sm_X := fun a j => if (a - 79) / 51 < k ∧ T ((a - 79) / 51) = true ∧ a = 82 + 51 * ((a - 79) / 51) + 4 * o + 2 * w ((a - 79) / 51) o ∧ j < 2 then 0 else X a j
def stW (T : Nat → Bool) (w : Nat → Nat → Nat) (o k : Nat) : Nat → Nat → Nat := fun a b => if b = o ∧ a < k ∧ T a = true then 1 - w a b else w a b
section
variable {T : Nat → Bool} {X : sm_X} {w : Nat → Nat → Nat} {o k : Nat}
theorem stX_o {a j : Nat} (h : ¬ ((a - 79) / 51 < k ∧ T ((a - 79) / 51) = true ∧ a = 82 + 51 * ((a - 79) / 51) + 4 * o + 2 * w ((a - 79) / 51) o ∧ j < 2)) : stX T X w o k a j = X a j := if_neg h
theorem stX_0 : stX T X w o 0 = X := funext fun a => funext fun j => stX_o (by omega)
theorem stW_0 : stW T w o 0 = w := funext fun a => funext fun b => if_neg (by omega)
theorem stW_k : stW T w o k k o = w k o := if_neg (by omega)
theorem stW_lt (hw : ∀ n o, w n o < 2) : ∀ n p, stW T w o k n p < 2 := by
  intro n p
  unfold stW
  split
  · omega
  · exact hw n p
theorem stX_f (h : T k = false) : stX T X w o (k + 1) = stX T X w o k := by
  funext a j
  unfold stX
  by_cases e : (a - 79) / 51 = k
  · rw [e, if_neg (by rw [h]; simp), if_neg (by omega)]
  · by_cases h2 : (a - 79) / 51 < k ∧ T ((a - 79) / 51) = true ∧ a = 82 + 51 * ((a - 79) / 51) + 4 * o + 2 * w ((a - 79) / 51) o ∧ j < 2
    · rw [if_pos h2, if_pos ⟨by omega, h2.2⟩]
    · rw [if_neg h2, if_neg (fun q => h2 ⟨by omega, q.2⟩)]
theorem stW_f (h : T k = false) : stW T w o (k + 1) = stW T w o k := by
  funext a b
  unfold stW
  by_cases e : a = k
  · subst e; rw [if_neg (by rw [h]; simp), if_neg (by omega)]
  · by_cases h2 : b = o ∧ a < k ∧ T a = true
    · rw [if_pos h2, if_pos ⟨h2.1, by omega, h2.2.2⟩]
    · rw [if_neg h2, if_neg (fun q => h2 ⟨q.1, by omega, q.2.2⟩)]
theorem stX_t (ho : o < 12) (hw : w k o < 2) (h : T k = true) : sm_up (sm_up (stX T X w o k) (82 + 51 * k + 4 * o + 2 * w k o) 0 0) (82 + 51 * k + 4 * o + 2 * w k o) 1 0 = stX T X w o (k + 1) := by
  have e0 : (82 + 51 * k + 4 * o + 2 * w k o - 79) / 51 = k := by omega
  funext a j
  by_cases e : a = 82 + 51 * k + 4 * o + 2 * w k o
  · subst e
    by_cases h1 : j = 1
    · subst h1
      rw [sm_up_s]
      unfold stX
      rw [e0, if_pos ⟨by omega, h, rfl, by decide⟩]
    · rw [sm_up_n h1]
      by_cases h0 : j = 0
      · subst h0
        rw [sm_up_s]
        unfold stX
        rw [e0, if_pos ⟨by omega, h, rfl, by decide⟩]
      · rw [sm_up_n h0, stX_o (by rw [e0]; omega), stX_o (by rw [e0]; omega)]
  · rw [sm_up_x (Or.inl e), sm_up_x (Or.inl e)]
    unfold stX
    by_cases h2 : (a - 79) / 51 < k ∧ T ((a - 79) / 51) = true ∧ a = 82 + 51 * ((a - 79) / 51) + 4 * o + 2 * w ((a - 79) / 51) o ∧ j < 2
    · rw [if_pos h2, if_pos ⟨by omega, h2.2⟩]
    · rw [if_neg h2, if_neg (fun q => h2 ⟨by
        have q1 := q.1
        by_cases e5 : (a - 79) / 51 = k
        · rw [e5] at q; exact absurd q.2.2.1 e
        · omega, q.2⟩)]
theorem stW_t (h : T k = true) : tw (stW T w o k) k o = stW T w o (k + 1) := by
  funext a b
  unfold tw
  by_cases e : a = k ∧ b = o
  · obtain ⟨rfl, rfl⟩ := e
    rw [if_pos ⟨rfl, rfl⟩, stW_k]
    unfold stW
    rw [if_pos ⟨rfl, by omega, h⟩]
  · rw [if_neg e]
    unfold stW
    by_cases h2 : b = o ∧ a < k ∧ T a = true
    · rw [if_pos h2, if_pos ⟨h2.1, by omega, h2.2.2⟩]
    · rw [if_neg h2, if_neg (fun q => h2 ⟨q.1, by omega, q.2.2⟩)]
theorem stX_end : ∀ d, (∀ j, k ≤ j → j < k + d → T j = false) → stX T X w o (k + d) = stX T X w o k ∧ stW T w o (k + d) = stW T w o k
  | 0, _ => ⟨rfl, rfl⟩
  | d + 1, h => by
    have ih := stX_end d (fun j h1 h2 => h j h1 (by omega))
    have hk := h (k + d) (by omega) (by omega)
    exact ⟨(stX_f hk).trans ih.1, (stW_f hk).trans ih.2⟩
end

set_option maxHeartbeats 4000000 in
set_option maxRecDepth 100000 in
theorem c_S_turnShadows (l : Launch) (Ω : sm_Ω) {X : sm_X} {w : Nat → Nat → Nat} (hf : swf X w) {o c : Nat} (ho : o < 12) (hc : c < 2 ^ 31) : sm_met l Ω y_S_turnShadows b_S_turnShadows 5 none 3 723 [.ref (Ω.2.1 + 0), .int (nI o), .int (nI c)] X (sm_rf w) (sm_det none (stX (stT X w o c) X w o 12) (sm_rf (stW (stT X w o c) w o 12))) := by
  refine sm_intro (own := RX6) (L := [some (.ref (Ω.2.1 + 0)), some (.int (nI o)), some (.int (nI c)), none, none]) (by decide) rfl (by simp [Value.category]) (Nat.le_of_ble_eq_true rfl) rfl ?_
  intro Γ C I
  have hw := hf.1
  refine sg_iln (pc := 0) C d_S_turnShadows_0 rfl ?_
  refine sg_is3 (pc := 1) C d_S_turnShadows_1 ?_
  refine sg_ic (pc := 2) (v := 0) C d_S_turnShadows_2 (by decide) ?_
  refine sg_is4 (pc := 3) C d_S_turnShadows_3 ?_
  have loop : ∀ t k, k + t = 12 → sm_G Γ Ω 723 0 0 5 [some (.ref (Ω.2.1 + 0)), some (.int (nI o)), some (.int (nI c)), some (.int (nI (c - sm_n (stp X w o) k))), some (.int (nI k))] [] (stX (stT X w o c) X w o k) (sm_rf (stW (stT X w o c) w o k)) := by
    intro t
    induction t with
    | zero =>
      intro k hk
      refine sg_il (pc := 5) C d_S_turnShadows_5 rfl ?_
      refine sg_bi (pc := 7) (v := 12) C d_S_turnShadows_7 (by decide) ?_
      refine sg_icge (pc := 9) (tgt := 76) C d_S_turnShadows_9 (by decide) (by omega) (by omega) (fun h9 => ?_) (fun h9 => absurd h9 (by omega))
      exact sg_vret (pc := 76) C I rfl d_S_turnShadows_76 ⟨rfl, by rw [show k = 12 by omega], by rw [show k = 12 by omega]⟩
    | succ t ih =>
      intro k hk
      have hbk := hf.2.1 k (by omega)
      have hwk := hw k o
      have g1 := hf.2.2.2 k o (1 - w k o) (by omega) ho (by omega)
      have g2 := (hf.2.2.1 o ho).1 2 (by decide)
      have e3 : (stX (stT X w o c) X w o k) (79 + 51 * k) 3 = X (79 + 51 * k) 3 := stX_o (by omega)
      have e4 : (stX (stT X w o c) X w o k) (691 + o) 2 = X (691 + o) 2 := stX_o (by omega)
      have e5 : (stX (stT X w o c) X w o k) (82 + 51 * k + 4 * o + 2 * (1 - w k o)) 0 = X (82 + 51 * k + 4 * o + 2 * (1 - w k o)) 0 := stX_o (by omega)
      have en : sm_n (stp X w o) (k + 1) = sm_n (stp X w o) k + (if stp X w o k = true then 1 else 0) := rfl
      refine sg_il (pc := 5) C d_S_turnShadows_5 rfl ?_
      refine sg_bi (pc := 7) (v := 12) C d_S_turnShadows_7 (by decide) ?_
      refine sg_icge (pc := 9) (tgt := 76) C d_S_turnShadows_9 (by decide) (by omega) (by omega) (fun h9 => absurd h9 (by omega)) (fun h9 => ?_)
      refine sg_iln (pc := 12) C d_S_turnShadows_12 rfl ?_
      refine sg_ifle (pc := 13) (tgt := 76) C d_S_turnShadows_13 (by decide) (by omega) (fun h13 => ?_) (fun h13 => ?_)
      · exact sg_vret (pc := 76) C I rfl d_S_turnShadows_76 (by
            have hz : ∀ j, k ≤ j → j < k + (12 - k) → stT X w o c j = false := fun j h1 h2 => by
              have := sm_n_mono (stp X w o) h1
              simp [stT]; omega
            have he := stX_end (X := X) (w := w) (o := o) (12 - k) hz
            rw [show k + (12 - k) = 12 by omega] at he
            exact ⟨rfl, he.1.symm, by rw [he.2]⟩)
      · refine sg_aln (pc := 16) C d_S_turnShadows_16 rfl ?_
        refine sg_getr (pc := 17) C fw_S_25 (by omega) rfl rfl rfl d_S_turnShadows_17 ?_
        refine sg_il (pc := 20) C d_S_turnShadows_20 rfl ?_
        refine sg_aald (pc := 22) (n := 12) (t := 4) C (by omega) rfl (by decide) rfl rfl (by omega) (by decide) (rf_nodes (by omega)) d_S_turnShadows_22 ?_
        refine sg_geti (pc := 23) C fw_S_149 (by omega) (sh_N (by omega)) rfl d_S_turnShadows_23 ?_
        rw [e3]
        refine sg_ifeq (pc := 26) (tgt := 70) C d_S_turnShadows_26 (by decide) (by omega) (fun h26 => ?_) (fun h26 => ?_)
        · refine sg_inc4 (pc := 70) (n := 1) C d_S_turnShadows_70 (by decide) ?_
          refine sg_goto (pc := 73) (tgt := 5) C d_S_turnShadows_73 (by decide) ?_
          have hp : stp X w o k = false := by simp [stp, slv, h26]
          have hT : stT X w o c k = false := by simp [stT, hp]
          have h := ih (k + 1) (by omega)
          rw [en, hp, stX_f hT, stW_f hT] at h
          exact h
        · refine sg_aln (pc := 29) C d_S_turnShadows_29 rfl ?_
          refine sg_getr (pc := 30) C fw_S_25 (by omega) rfl rfl rfl d_S_turnShadows_30 ?_
          refine sg_il (pc := 33) C d_S_turnShadows_33 rfl ?_
          refine sg_aald (pc := 35) (n := 12) (t := 4) C (by omega) rfl (by decide) rfl rfl (by omega) (by decide) (rf_nodes (by omega)) d_S_turnShadows_35 ?_
          refine sg_getr (pc := 36) C fw_S_212 (by omega) (sh_N (by omega)) rfl (rf_N2 (by omega)) d_S_turnShadows_36 ?_
          refine sg_iln (pc := 39) C d_S_turnShadows_39 rfl ?_
          refine sg_aald (pc := 40) (n := 12) (t := 6) C (by omega) (sh_Nh (by omega)) (by decide) rfl rfl (by omega) (by decide) (rf_Nh (by omega) (by omega)) d_S_turnShadows_40 ?_
          rw [stW_k]
          refine sg_geti (pc := 41) C fw_S_178 (by omega) (sh_S (by omega) (by omega) (by omega)) rfl d_S_turnShadows_41 ?_
          rw [e5]
          refine sg_aln (pc := 44) C d_S_turnShadows_44 rfl ?_
          refine sg_getr (pc := 45) C fw_S_31 (by omega) rfl rfl rfl d_S_turnShadows_45 ?_
          refine sg_iln (pc := 48) C d_S_turnShadows_48 rfl ?_
          refine sg_aald (pc := 49) (n := 12) (t := 5) C (by omega) rfl (by decide) rfl rfl (by omega) (by decide) (rf_items (by omega)) d_S_turnShadows_49 ?_
          refine sg_geti (pc := 50) C fw_S_97 (by omega) (sh_I (by omega)) rfl d_S_turnShadows_50 ?_
          rw [e4]
          refine sg_icne (pc := 53) (tgt := 70) C d_S_turnShadows_53 (by decide) (by omega) (by omega) (fun h53 => ?_) (fun h53 => ?_)
          · refine sg_inc4 (pc := 70) (n := 1) C d_S_turnShadows_70 (by decide) ?_
            refine sg_goto (pc := 73) (tgt := 5) C d_S_turnShadows_73 (by decide) ?_
            have hp : stp X w o k = false := by simp [stp, h53]
            have hT : stT X w o c k = false := by simp [stT, hp]
            have h := ih (k + 1) (by omega)
            rw [en, hp, stX_f hT, stW_f hT] at h
            exact h
          · refine sg_aln (pc := 56) C d_S_turnShadows_56 rfl ?_
            refine sg_getr (pc := 57) C fw_S_25 (by omega) rfl rfl rfl d_S_turnShadows_57 ?_
            refine sg_il (pc := 60) C d_S_turnShadows_60 rfl ?_
            refine sg_aald (pc := 62) (n := 12) (t := 4) C (by omega) rfl (by decide) rfl rfl (by omega) (by decide) (rf_nodes (by omega)) d_S_turnShadows_62 ?_
            refine sg_iln (pc := 63) C d_S_turnShadows_63 rfl ?_
            refine sm_callV (pc := 64) (As := [.int (nI o)]) C I (c_N_turnShadow l Ω (X := (stX (stT X w o c) X w o k)) (w := (stW (stT X w o c) w o k)) (stW_lt hw) (n := k) (by omega) ho) cw_S_225 iw_N_turnShadow (C.1.2.2.2.2 _ (List.mem_cons_of_mem _ se_N_turnShadow)) (by omega) (sh_N (by omega)) rfl rfl rfl (by decide) ⟨by decide, by decide⟩ rfl (Nat.le_of_ble_eq_true rfl) d_S_turnShadows_64 (sm_det_v ?_)
            have hT : stT X w o c k = true := by simp [stT, stp, slv, h26, h53]; omega
            rw [stW_k, stX_t ho (hw k o) hT, stW_t hT]
            refine sg_dec3 (pc := 67) C d_S_turnShadows_67 ?_
            refine sg_inc4 (pc := 70) (n := 1) C d_S_turnShadows_70 (by decide) ?_
            refine sg_goto (pc := 73) (tgt := 5) C d_S_turnShadows_73 (by decide) ?_
            have hp : stp X w o k = true := by simp [stp, slv, h26, h53]
            have h := ih (k + 1) (by omega)
            rw [en, hp, if_pos rfl] at h
            rw [show c - sm_n (stp X w o) k = c - (sm_n (stp X w o) k + 1) + 1 by omega, sn_m1]
            exact h
  have h0 := loop 12 0 (by omega)
  rw [stX_0, stW_0] at h0
  exact h0

set_option maxHeartbeats 4000000 in
set_option maxRecDepth 100000 in
theorem c_S_turnShadowsN (l : Launch) (Ω : sm_Ω) {X : sm_X} {w : Nat → Nat → Nat} {o : Nat} {x : Int32} (hx : x ≤ 0) : sm_met l Ω y_S_turnShadows b_S_turnShadows 5 none 3 723 [.ref (Ω.2.1 + 0), .int (nI o), .int x] X (sm_rf w) (sm_det none X (sm_rf w)) := by
  refine sm_intro (own := RX6) (L := [some (.ref (Ω.2.1 + 0)), some (.int (nI o)), some (.int x), none, none]) (by decide) rfl (by simp [Value.category]) (Nat.le_of_ble_eq_true rfl) rfl ?_
  intro Γ C I
  refine sg_iln (pc := 0) C d_S_turnShadows_0 rfl ?_
  refine sg_is3 (pc := 1) C d_S_turnShadows_1 ?_
  refine sg_ic (pc := 2) (v := 0) C d_S_turnShadows_2 (by decide) ?_
  refine sg_is4 (pc := 3) C d_S_turnShadows_3 ?_
  refine sg_il (pc := 5) C d_S_turnShadows_5 rfl ?_
  refine sg_bi (pc := 7) (v := 12) C d_S_turnShadows_7 (by decide) ?_
  refine sg_icge (pc := 9) (tgt := 76) C d_S_turnShadows_9 (by decide) (by omega) (by omega) (fun h9 => absurd h9 (by decide)) (fun h9 => ?_)
  refine sg_iln (pc := 12) C d_S_turnShadows_12 rfl ?_
  refine sr_ifle (pc := 13) (tgt := 76) C d_S_turnShadows_13 (by decide) (fun h13 => ?_) (fun h13 => absurd hx h13)
  exact sg_vret (pc := 76) C I rfl d_S_turnShadows_76 ⟨rfl, rfl, rfl⟩
