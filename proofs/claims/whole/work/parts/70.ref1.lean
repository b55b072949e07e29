/-! The reference: its small methods -/
theorem sm_up_up {X : sm_X} {c j a b : Nat} : sm_up (sm_up X c j a) c j b = sm_up X c j b := by
  funext x y
  unfold sm_up
  split <;> rfl
theorem rt_a {v : Nat} (h : v * 2 ^ 1 ≤ 255) : gf_x v = v * 2 ^ 1 := by
  unfold gf_x
  rw [if_pos (by omega)]
  omega
theorem rt_b {v : Nat} (h : 255 < v * 2 ^ 1) : gf_x v = v * 2 ^ 1 ^^^ 285 := by
  unfold gf_x
  rw [if_neg (by omega), show v * 2 ^ 1 = 2 * v by omega]
theorem sn_ix {x : Int32} {n : Nat} (hn : n + 1 < 2 ^ 31) (h : x < 0 ∨ nI (n + 1) ≤ x) : x < nI 0 ∨ nI n < x := by
  rcases h with h | h
  · exact Or.inl h
  · exact Or.inr (Int32.lt_of_lt_of_le (nI_lt (by omega) hn) h)
/-- booleans are 0 or 1, numbers are small -/
def rwf (X : sm_X) : Prop := (∀ o, o < 12 → X 706 o < 2 ^ 30 ∧ X 707 o ≤ 240 ∧ X 708 o < 2 ^ 30 ∧ X 709 o ≤ 240 ∧ X 710 o < 2 ∧ X 711 o < 2 ∧ X 712 o < 2 ^ 30) ∧ ∀ k, k < 144 → X 713 k < 2 ^ 30 ∧ X 714 k ≤ 240 ∧ X 716 k < 2 ^ 30 ∧ X 717 k ≤ 240

set_option maxHeartbeats 4000000 in
set_option maxRecDepth 100000 in
theorem c_R_thrown (l : Launch) (Ω : sm_Ω) {X : sm_X} {w : Nat → Nat → Nat} : sm_met l Ω y_R_thrown b_R_thrown 1 (some .int) 1 723 [.ref (Ω.2.1 + 703)] X (sm_rf w) (sm_det (some (.int (nI (X 703 0)))) X (sm_rf w)) := by
  refine sm_intro (own := RX7) (L := [some (.ref (Ω.2.1 + 703))]) (by decide) rfl (by simp [Value.category]) (Nat.le_of_ble_eq_true rfl) rfl ?_
  intro Γ C I
  refine sg_aln (pc := 0) C d_R_thrown_0 rfl ?_
  refine sg_geti (pc := 1) C fw_R_70 (by omega) rfl rfl d_R_thrown_1 ?_
  exact sg_iret (pc := 4) C I rfl rfl d_R_thrown_4 ⟨rfl, rfl, rfl⟩

set_option maxHeartbeats 4000000 in
set_option maxRecDepth 100000 in
theorem c_R_fails (l : Launch) (Ω : sm_Ω) {X : sm_X} {w : Nat → Nat → Nat} {c : Nat} : sm_met l Ω y_R_fails b_R_fails 2 (some .int) 1 723 [.ref (Ω.2.1 + 703), .int (nI c)] X (sm_rf w) (sm_det (some (.int (nI 0))) (sm_up X 703 0 c) (sm_rf w)) := by
  refine sm_intro (own := RX7) (L := [some (.ref (Ω.2.1 + 703)), some (.int (nI c))]) (by decide) rfl (by simp [Value.category]) (Nat.le_of_ble_eq_true rfl) rfl ?_
  intro Γ C I
  refine sg_aln (pc := 0) C d_R_fails_0 rfl ?_
  refine sg_iln (pc := 1) C d_R_fails_1 rfl ?_
  refine sg_puti (pc := 2) C pw_R_70 (by omega) rfl rfl rfl rfl d_R_fails_2 ?_
  refine sg_ic (pc := 5) (v := 0) C d_R_fails_5 (by decide) ?_
  exact sg_iret (pc := 6) C I rfl rfl d_R_fails_6 ⟨rfl, rfl, rfl⟩

set_option maxHeartbeats 4000000 in
set_option maxRecDepth 100000 in
theorem c_R_within1 (l : Launch) (Ω : sm_Ω) {X : sm_X} {w : Nat → Nat → Nat} {x y z : Int32} (h1 : ¬ x < y) (h2 : ¬ z < x) : sm_met l Ω y_R_within b_R_within 3 (some .boolean) 1 723 [.int x, .int y, .int z] X (sm_rf w) (sm_det (some (.int (nI 1))) X (sm_rf w)) := by
  refine sm_intro (own := RX7) (L := [some (.int x), some (.int y), some (.int z)]) (by decide) rfl (by simp [Value.category]) (Nat.le_of_ble_eq_true rfl) rfl ?_
  intro Γ C I
  refine sg_iln (pc := 0) C d_R_within_0 rfl ?_
  refine sg_iln (pc := 1) C d_R_within_1 rfl ?_
  refine sr_iclt (pc := 2) (tgt := 14) C d_R_within_2 (by decide) (fun q2 => absurd q2 h1) (fun q2 => ?_)
  refine sg_iln (pc := 5) C d_R_within_5 rfl ?_
  refine sg_iln (pc := 6) C d_R_within_6 rfl ?_
  refine sr_icgt (pc := 7) (tgt := 14) C d_R_within_7 (by decide) (fun q7 => absurd q7 h2) (fun q7 => ?_)
  refine sg_ic (pc := 10) (v := 1) C d_R_within_10 (by decide) ?_
  refine sg_goto (pc := 11) (tgt := 15) C d_R_within_11 (by decide) ?_
  exact sg_iret (pc := 15) C I rfl (sn_b (by decide)) d_R_within_15 ⟨rfl, rfl, rfl⟩

set_option maxHeartbeats 4000000 in
set_option maxRecDepth 100000 in
theorem c_R_within0 (l : Launch) (Ω : sm_Ω) {X : sm_X} {w : Nat → Nat → Nat} {x y z : Int32} (h : x < y ∨ z < x) : sm_met l Ω y_R_within b_R_within 3 (some .boolean) 1 723 [.int x, .int y, .int z] X (sm_rf w) (sm_det (some (.int (nI 0))) X (sm_rf w)) := by
  refine sm_intro (own := RX7) (L := [some (.int x), some (.int y), some (.int z)]) (by decide) rfl (by simp [Value.category]) (Nat.le_of_ble_eq_true rfl) rfl ?_
  intro Γ C I
  refine sg_iln (pc := 0) C d_R_within_0 rfl ?_
  refine sg_iln (pc := 1) C d_R_within_1 rfl ?_
  refine sr_iclt (pc := 2) (tgt := 14) C d_R_within_2 (by decide) (fun q2 => ?_) (fun q2 => ?_)
  · refine sg_ic (pc := 14) (v := 0) C d_R_within_14 (by decide) ?_
    exact sg_iret (pc := 15) C I rfl (sn_b (by decide)) d_R_within_15 ⟨rfl, rfl, rfl⟩
  · refine sg_iln (pc := 5) C d_R_within_5 rfl ?_
    refine sg_iln (pc := 6) C d_R_within_6 rfl ?_
    refine sr_icgt (pc := 7) (tgt := 14) C d_R_within_7 (by decide) (fun q7 => ?_) (fun q7 => absurd (h.elim (fun q => absurd q q2) id) q7)
    refine sg_ic (pc := 14) (v := 0) C d_R_within_14 (by decide) ?_
    exact sg_iret (pc := 15) C I rfl (sn_b (by decide)) d_R_within_15 ⟨rfl, rfl, rfl⟩

set_option maxHeartbeats 4000000 in
set_option maxRecDepth 100000 in
theorem c_R_isObject1 (l : Launch) (Ω : sm_Ω) {X : sm_X} {w : Nat → Nat → Nat} {i : Nat} (hi : i < 12) : sm_met l Ω y_R_isObject b_R_isObject 1 (some .boolean) 2 723 [.int (nI i)] X (sm_rf w) (sm_det (some (.int (nI 1))) X (sm_rf w)) := by
  refine sm_intro (own := RX7) (L := [some (.int (nI i))]) (by decide) rfl (by simp [Value.category]) (Nat.le_of_ble_eq_true rfl) rfl ?_
  intro Γ C I
  refine sg_iln (pc := 0) C d_R_isObject_0 rfl ?_
  refine sg_ic (pc := 1) (v := 0) C d_R_isObject_1 (by decide) ?_
  refine sg_bi (pc := 2) (v := 11) C d_R_isObject_2 (by decide) ?_
  refine sm_callS (pc := 4) (As := [.int (nI i), .int (nI 0), .int (nI 11)]) C I (c_R_within1 l Ω (nI_nlt (Nat.zero_le _) (by omega)) (nI_nlt (by omega) (by decide))) cw_R_73 sw_R_within rfl (by decide) ⟨by decide, by decide⟩ rfl (Nat.le_of_ble_eq_true rfl) d_R_isObject_4 (sm_det_i ?_)
  exact sg_iret (pc := 7) C I rfl (sn_b (by decide)) d_R_isObject_7 ⟨rfl, rfl, rfl⟩

set_option maxHeartbeats 4000000 in
set_option maxRecDepth 100000 in
theorem c_R_isObject0 (l : Launch) (Ω : sm_Ω) {X : sm_X} {w : Nat → Nat → Nat} {x : Int32} (hx : x < 0 ∨ nI 12 ≤ x) : sm_met l Ω y_R_isObject b_R_isObject 1 (some .boolean) 2 723 [.int x] X (sm_rf w) (sm_det (some (.int (nI 0))) X (sm_rf w)) := by
  refine sm_intro (own := RX7) (L := [some (.int x)]) (by decide) rfl (by simp [Value.category]) (Nat.le_of_ble_eq_true rfl) rfl ?_
  intro Γ C I
  refine sg_iln (pc := 0) C d_R_isObject_0 rfl ?_
  refine sg_ic (pc := 1) (v := 0) C d_R_isObject_1 (by decide) ?_
  refine sg_bi (pc := 2) (v := 11) C d_R_isObject_2 (by decide) ?_
  refine sm_callS (pc := 4) (As := [.int x, .int (nI 0), .int (nI 11)]) C I (c_R_within0 l Ω (sn_ix (by decide) hx)) cw_R_73 sw_R_within rfl (by decide) ⟨by decide, by decide⟩ rfl (Nat.le_of_ble_eq_true rfl) d_R_isObject_4 (sm_det_i ?_)
  exact sg_iret (pc := 7) C I rfl (sn_b (by decide)) d_R_isObject_7 ⟨rfl, rfl, rfl⟩

set_option maxHeartbeats 4000000 in
set_option maxRecDepth 100000 in
theorem c_R_isNode1 (l : Launch) (Ω : sm_Ω) {X : sm_X} {w : Nat → Nat → Nat} {i : Nat} (hi : i < 12) : sm_met l Ω y_R_isNode b_R_isNode 1 (some .boolean) 2 723 [.int (nI i)] X (sm_rf w) (sm_det (some (.int (nI 1))) X (sm_rf w)) := by
  refine sm_intro (own := RX7) (L := [some (.int (nI i))]) (by decide) rfl (by simp [Value.category]) (Nat.le_of_ble_eq_true rfl) rfl ?_
  intro Γ C I
  refine sg_iln (pc := 0) C d_R_isNode_0 rfl ?_
  refine sg_ic (pc := 1) (v := 0) C d_R_isNode_1 (by decide) ?_
  refine sg_bi (pc := 2) (v := 11) C d_R_isNode_2 (by decide) ?_
  refine sm_callS (pc := 4) (As := [.int (nI i), .int (nI 0), .int (nI 11)]) C I (c_R_within1 l Ω (nI_nlt (Nat.zero_le _) (by omega)) (nI_nlt (by omega) (by decide))) cw_R_73 sw_R_within rfl (by decide) ⟨by decide, by decide⟩ rfl (Nat.le_of_ble_eq_true rfl) d_R_isNode_4 (sm_det_i ?_)
  exact sg_iret (pc := 7) C I rfl (sn_b (by decide)) d_R_isNode_7 ⟨rfl, rfl, rfl⟩

set_option maxHeartbeats 4000000 in
set_option maxRecDepth 100000 in
theorem c_R_isNode0 (l : Launch) (Ω : sm_Ω) {X : sm_X} {w : Nat → Nat → Nat} {x : Int32} (hx : x < 0 ∨ nI 12 ≤ x) : sm_met l Ω y_R_isNode b_R_isNode 1 (some .boolean) 2 723 [.int x] X (sm_rf w) (sm_det (some (.int (nI 0))) X (sm_rf w)) := by
  refine sm_intro (own := RX7) (L := [some (.int x)]) (by decide) rfl (by simp [Value.category]) (Nat.le_of_ble_eq_true rfl) rfl ?_
  intro Γ C I
  refine sg_iln (pc := 0) C d_R_isNode_0 rfl ?_
  refine sg_ic (pc := 1) (v := 0) C d_R_isNode_1 (by decide) ?_
  refine sg_bi (pc := 2) (v := 11) C d_R_isNode_2 (by decide) ?_
  refine sm_callS (pc := 4) (As := [.int x, .int (nI 0), .int (nI 11)]) C I (c_R_within0 l Ω (sn_ix (by decide) hx)) cw_R_73 sw_R_within rfl (by decide) ⟨by decide, by decide⟩ rfl (Nat.le_of_ble_eq_true rfl) d_R_isNode_4 (sm_det_i ?_)
  exact sg_iret (pc := 7) C I rfl (sn_b (by decide)) d_R_isNode_7 ⟨rfl, rfl, rfl⟩

set_option maxHeartbeats 4000000 in
set_option maxRecDepth 100000 in
theorem c_R_at (l : Launch) (Ω : sm_Ω) {X : sm_X} {w : Nat → Nat → Nat} {d o : Nat} : sm_met l Ω y_R_at b_R_at 2 (some .int) 1 723 [.int (nI d), .int (nI o)] X (sm_rf w) (sm_det (some (.int (nI (12 * d + o)))) X (sm_rf w)) := by
  refine sm_intro (own := RX7) (L := [some (.int (nI d)), some (.int (nI o))]) (by decide) rfl (by simp [Value.category]) (Nat.le_of_ble_eq_true rfl) rfl ?_
  intro Γ C I
  refine sg_bi (pc := 0) (v := 12) C d_R_at_0 (by decide) ?_
  refine sg_iln (pc := 2) C d_R_at_2 rfl ?_
  refine sg_mul (pc := 3) C d_R_at_3 ?_
  refine sg_iln (pc := 4) C d_R_at_4 rfl ?_
  refine sg_add (pc := 5) C d_R_at_5 ?_
  exact sg_iret (pc := 6) C I rfl rfl d_R_at_6 ⟨rfl, rfl, rfl⟩

set_option maxHeartbeats 4000000 in
set_option maxRecDepth 100000 in
theorem c_R_stripes (l : Launch) (Ω : sm_Ω) {X : sm_X} {w : Nat → Nat → Nat} {n : Nat} (hn : n < 2 ^ 30) : sm_met l Ω y_R_stripes b_R_stripes 1 (some .int) 1 723 [.int (nI n)] X (sm_rf w) (sm_det (some (.int (nI ((n + 29) / 30)))) X (sm_rf w)) := by
  refine sm_intro (own := RX7) (L := [some (.int (nI n))]) (by decide) rfl (by simp [Value.category]) (Nat.le_of_ble_eq_true rfl) rfl ?_
  intro Γ C I
  refine sg_iln (pc := 0) C d_R_stripes_0 rfl ?_
  refine sg_bi (pc := 1) (v := 30) C d_R_stripes_1 (by decide) ?_
  refine sg_add (pc := 3) C d_R_stripes_3 ?_
  refine sg_ic (pc := 4) (v := 1) C d_R_stripes_4 (by decide) ?_
  refine sg_sub (pc := 5) C d_R_stripes_5 (by omega) ?_
  refine sg_bi (pc := 6) (v := 30) C d_R_stripes_6 (by decide) ?_
  refine sg_div (pc := 8) C d_R_stripes_8 (by omega) (by decide) (by decide) ?_
  exact sg_iret (pc := 9) C I rfl rfl d_R_stripes_9 ⟨by rw [show n + 30 - 1 = n + 29 by omega], rfl, rfl⟩

set_option maxHeartbeats 4000000 in
set_option maxRecDepth 100000 in
theorem c_R_times (l : Launch) (Ω : sm_Ω) {X : sm_X} {w : Nat → Nat → Nat} {a b : Nat} (ha : a < 256) (hb : b < 256) : sm_met l Ω y_R_times b_R_times 4 (some .int) 1 723 [.int (nI a), .int (nI b)] X (sm_rf w) (sm_det (some (.int (nI (gf_t a b)))) X (sm_rf w)) := by
  refine sm_intro (own := RX7) (L := [some (.int (nI a)), some (.int (nI b)), none, none]) (by decide) rfl (by simp [Value.category]) (Nat.le_of_ble_eq_true rfl) rfl ?_
  intro Γ C I
  refine sg_ic (pc := 0) (v := 0) C d_R_times_0 (by decide) ?_
  refine sg_is2 (pc := 1) C d_R_times_1 ?_
  refine sg_bi (pc := 2) (v := 7) C d_R_times_2 (by decide) ?_
  refine sg_is3 (pc := 4) C d_R_times_4 ?_
  have loop : ∀ c, c ≤ 8 → sm_G Γ Ω 723 0 0 5 [some (.int (nI a)), some (.int (nI b)), some (.int (nI (gf_t (b / 2 ^ c) a))), some (.int (nI c + (-1)))] [] X (sm_rf w) := by
    intro c
    induction c with
    | zero =>
      intro _
      refine sg_iln (pc := 5) C d_R_times_5 rfl ?_
      refine sr_iflt (pc := 6) (tgt := 45) C d_R_times_6 (by decide) (fun h6 => ?_) (fun h6 => absurd (by decide) h6)
      refine sg_iln (pc := 45) C d_R_times_45 rfl ?_
      exact sg_iret (pc := 46) C I rfl rfl d_R_times_46 ⟨by rw [show b / 2 ^ 0 = b from Nat.div_one b, gf_t_comm], rfl, rfl⟩
    | succ c ih =>
      intro hc
      rw [sn_m1]
      have hv := gf_t_lt (b / 2 ^ (c + 1)) a
      have hmk : b / 2 ^ c % 2 < 2 := Nat.mod_lt _ (by decide)
      refine sg_iln (pc := 5) C d_R_times_5 rfl ?_
      refine sr_iflt (pc := 6) (tgt := 45) C d_R_times_6 (by decide) (fun h6 => absurd h6 (nI_pos (by omega))) (fun h6 => ?_)
      refine sg_iln (pc := 9) C d_R_times_9 rfl ?_
      refine sg_ic (pc := 10) (v := 1) C d_R_times_10 (by decide) ?_
      refine sr_ishl (pc := 11) C d_R_times_11 (pk_shlN _ 1 (by decide) (by omega)) ?_
      refine sg_is2 (pc := 12) C d_R_times_12 ?_
      refine sg_iln (pc := 13) C d_R_times_13 rfl ?_
      refine sg_si (pc := 14) (v := 255) C d_R_times_14 (by decide) ?_
      refine sg_icle (pc := 17) (tgt := 26) C d_R_times_17 (by decide) (by omega) (by omega) (fun h17 => ?_) (fun h17 => ?_)
      · refine sg_iln (pc := 26) C d_R_times_26 rfl ?_
        refine sg_iln (pc := 27) C d_R_times_27 rfl ?_
        refine sr_ishr (pc := 28) C d_R_times_28 (sn_shr (by omega) (by omega)) ?_
        refine sg_ic (pc := 29) (v := 1) C d_R_times_29 (by decide) ?_
        refine sg_and (pc := 30) C d_R_times_30 ?_
        rw [Nat.and_one_is_mod]
        refine sg_ic (pc := 31) (v := 1) C d_R_times_31 (by decide) ?_
        refine sg_icne (pc := 32) (tgt := 39) C d_R_times_32 (by decide) (by omega) (by omega) (fun h32 => ?_) (fun h32 => ?_)
        · refine sg_dec3 (pc := 39) C d_R_times_39 ?_
          refine sg_goto (pc := 42) (tgt := 5) C d_R_times_42 (by decide) ?_
          have h := ih (by omega)
          rw [gf_rt ha hb, if_neg h32, rt_a h17] at h
          exact h
        · refine sg_iln (pc := 35) C d_R_times_35 rfl ?_
          refine sg_iln (pc := 36) C d_R_times_36 rfl ?_
          refine sg_xor (pc := 37) C d_R_times_37 ?_
          refine sg_is2 (pc := 38) C d_R_times_38 ?_
          refine sg_dec3 (pc := 39) C d_R_times_39 ?_
          refine sg_goto (pc := 42) (tgt := 5) C d_R_times_42 (by decide) ?_
          have h := ih (by omega)
          rw [gf_rt ha hb, if_pos h32, rt_a h17] at h
          exact h
      · refine sg_iln (pc := 20) C d_R_times_20 rfl ?_
        refine sg_si (pc := 21) (v := 285) C d_R_times_21 (by decide) ?_
        refine sg_xor (pc := 24) C d_R_times_24 ?_
        refine sg_is2 (pc := 25) C d_R_times_25 ?_
        refine sg_iln (pc := 26) C d_R_times_26 rfl ?_
        refine sg_iln (pc := 27) C d_R_times_27 rfl ?_
        refine sr_ishr (pc := 28) C d_R_times_28 (sn_shr (by omega) (by omega)) ?_
        refine sg_ic (pc := 29) (v := 1) C d_R_times_29 (by decide) ?_
        refine sg_and (pc := 30) C d_R_times_30 ?_
        rw [Nat.and_one_is_mod]
        refine sg_ic (pc := 31) (v := 1) C d_R_times_31 (by decide) ?_
        refine sg_icne (pc := 32) (tgt := 39) C d_R_times_32 (by decide) (by omega) (by omega) (fun h32 => ?_) (fun h32 => ?_)
        · refine sg_dec3 (pc := 39) C d_R_times_39 ?_
          refine sg_goto (pc := 42) (tgt := 5) C d_R_times_42 (by decide) ?_
          have h := ih (by omega)
          rw [gf_rt ha hb, if_neg h32, rt_b h17] at h
          exact h
        · refine sg_iln (pc := 35) C d_R_times_35 rfl ?_
          refine sg_iln (pc := 36) C d_R_times_36 rfl ?_
          refine sg_xor (pc := 37) C d_R_times_37 ?_
          refine sg_is2 (pc := 38) C d_R_times_38 ?_
          refine sg_dec3 (pc := 39) C d_R_times_39 ?_
          refine sg_goto (pc := 42) (tgt := 5) C d_R_times_42 (by decide) ?_
          have h := ih (by omega)
          rw [gf_rt ha hb, if_pos h32, rt_b h17] at h
          exact h
  have h0 := loop 8 (Nat.le_refl 8)
  rw [show b / 2 ^ 8 = 0 from Nat.div_eq_of_lt hb, gf_t_0l, show nI 8 + (-1) = nI 7 from by decide] at h0
  exact h0

set_option maxHeartbeats 4000000 in
set_option maxRecDepth 100000 in
theorem c_R_power (l : Launch) (Ω : sm_Ω) {X : sm_X} {w : Nat → Nat → Nat} {x n : Nat} (hx : x < 256) (hn : n < 2 ^ 30) : sm_met l Ω y_R_power b_R_power 4 (some .int) 2 723 [.int (nI x), .int (nI n)] X (sm_rf w) (sm_det (some (.int (nI (gf_pw x n)))) X (sm_rf w)) := by
  refine sm_intro (own := RX7) (L := [some (.int (nI x)), some (.int (nI n)), none, none]) (by decide) rfl (by simp [Value.category]) (Nat.le_of_ble_eq_true rfl) rfl ?_
  intro Γ C I
  refine sg_ic (pc := 0) (v := 1) C d_R_power_0 (by decide) ?_
  refine sg_is2 (pc := 1) C d_R_power_1 ?_
  refine sg_ic (pc := 2) (v := 0) C d_R_power_2 (by decide) ?_
  refine sg_is3 (pc := 3) C d_R_power_3 ?_
  have loop : ∀ t k, k + t = n → sm_G Γ Ω 723 0 0 4 [some (.int (nI x)), some (.int (nI n)), some (.int (nI (gf_pw x k))), some (.int (nI k))] [] X (sm_rf w) := by
    intro t
    induction t with
    | zero =>
      intro k hk
      refine sg_iln (pc := 4) C d_R_power_4 rfl ?_
      refine sg_iln (pc := 5) C d_R_power_5 rfl ?_
      refine sg_icge (pc := 6) (tgt := 21) C d_R_power_6 (by decide) (by omega) (by omega) (fun h6 => ?_) (fun h6 => absurd h6 (by omega))
      refine sg_iln (pc := 21) C d_R_power_21 rfl ?_
      exact sg_iret (pc := 22) C I rfl rfl d_R_power_22 ⟨by rw [show k = n by omega], rfl, rfl⟩
    | succ t ih =>
      intro k hk
      have hv := gf_pw_lt x k
      refine sg_iln (pc := 4) C d_R_power_4 rfl ?_
      refine sg_iln (pc := 5) C d_R_power_5 rfl ?_
      refine sg_icge (pc := 6) (tgt := 21) C d_R_power_6 (by decide) (by omega) (by omega) (fun h6 => absurd h6 (by omega)) (fun h6 => ?_)
      refine sg_iln (pc := 9) C d_R_power_9 rfl ?_
      refine sg_iln (pc := 10) C d_R_power_10 rfl ?_
      refine sm_callS (pc := 11) (As := [.int (nI (gf_pw x k)), .int (nI x)]) C I (c_R_times l Ω hv hx) cw_R_77 sw_R_times rfl (by decide) ⟨by decide, by decide⟩ rfl (Nat.le_of_ble_eq_true rfl) d_R_power_11 (sm_det_i ?_)
      refine sg_is2 (pc := 14) C d_R_power_14 ?_
      refine sg_inc3 (pc := 15) (n := 1) C d_R_power_15 (by decide) ?_
      refine sg_goto (pc := 18) (tgt := 4) C d_R_power_18 (by decide) ?_
      exact ih (k + 1) (by omega)
  exact loop n 0 (by omega)

def rlv (X : sm_X) (k : Nat) : Bool := decide (X 711 k = 0)
def rfr (X : sm_X) (d o : Nat) : Bool := decide (X 713 (12 * d + o) = X 706 o)

set_option maxHeartbeats 4000000 in
set_option maxRecDepth 100000 in
theorem c_R_live (l : Launch) (Ω : sm_Ω) {X : sm_X} {w : Nat → Nat → Nat} (hf : rwf X) : sm_met l Ω y_R_live b_R_live 3 (some .int) 1 723 [.ref (Ω.2.1 + 703)] X (sm_rf w) (sm_det (some (.int (nI (sm_n (rlv X) 12)))) X (sm_rf w)) := by
  refine sm_intro (own := RX7) (L := [some (.ref (Ω.2.1 + 703)), none, none]) (by decide) rfl (by simp [Value.category]) (Nat.le_of_ble_eq_true rfl) rfl ?_
  intro Γ C I
  refine sg_ic (pc := 0) (v := 0) C d_R_live_0 (by decide) ?_
  refine sg_is1 (pc := 1) C d_R_live_1 ?_
  refine sg_ic (pc := 2) (v := 0) C d_R_live_2 (by decide) ?_
  refine sg_is2 (pc := 3) C d_R_live_3 ?_
  have loop : ∀ t k, k + t = 12 → sm_G Γ Ω 723 0 0 4 [some (.ref (Ω.2.1 + 703)), some (.int (nI (sm_n (rlv X) k))), some (.int (nI k))] [] X (sm_rf w) := by
    intro t
    induction t with
    | zero =>
      intro k hk
      refine sg_iln (pc := 4) C d_R_live_4 rfl ?_
      refine sg_bi (pc := 5) (v := 12) C d_R_live_5 (by decide) ?_
      refine sg_icge (pc := 7) (tgt := 33) C d_R_live_7 (by decide) (by omega) (by omega) (fun h7 => ?_) (fun h7 => absurd h7 (by omega))
      refine sg_iln (pc := 33) C d_R_live_33 rfl ?_
      exact sg_iret (pc := 34) C I rfl rfl d_R_live_34 ⟨by rw [show k = 12 by omega], rfl, rfl⟩
    | succ t ih =>
      intro k hk
      have hb := hf.1 k (by omega)
      refine sg_iln (pc := 4) C d_R_live_4 rfl ?_
      refine sg_bi (pc := 5) (v := 12) C d_R_live_5 (by decide) ?_
      refine sg_icge (pc := 7) (tgt := 33) C d_R_live_7 (by decide) (by omega) (by omega) (fun h7 => absurd h7 (by omega)) (fun h7 => ?_)
      refine sg_iln (pc := 10) C d_R_live_10 rfl ?_
      refine sg_aln (pc := 11) C d_R_live_11 rfl ?_
      refine sg_getr (pc := 12) C fw_R_36 (by omega) rfl rfl rfl d_R_live_12 ?_
      refine sg_iln (pc := 15) C d_R_live_15 rfl ?_
      refine sg_bald (pc := 16) (n := 12) C (by omega) rfl (by omega) (by decide) d_R_live_16 ?_
      refine sg_ifeq (pc := 17) (tgt := 24) C d_R_live_17 (by decide) (by omega) (fun h17 => ?_) (fun h17 => ?_)
      · refine sg_ic (pc := 24) (v := 1) C d_R_live_24 (by decide) ?_
        refine sg_add (pc := 25) C d_R_live_25 ?_
        refine sg_is1 (pc := 26) C d_R_live_26 ?_
        refine sg_inc2 (pc := 27) (n := 1) C d_R_live_27 (by decide) ?_
        refine sg_goto (pc := 30) (tgt := 4) C d_R_live_30 (by decide) ?_
        have h := ih (k + 1) (by omega)
        rw [show sm_n (rlv X) (k + 1) = sm_n (rlv X) k + (if rlv X k = true then 1 else 0) from rfl, if_pos (show rlv X k = true from decide_eq_true h17)] at h
        exact h
      · refine sg_ic (pc := 20) (v := 0) C d_R_live_20 (by decide) ?_
        refine sg_goto (pc := 21) (tgt := 25) C d_R_live_21 (by decide) ?_
        refine sg_add (pc := 25) C d_R_live_25 ?_
        refine sg_is1 (pc := 26) C d_R_live_26 ?_
        refine sg_inc2 (pc := 27) (n := 1) C d_R_live_27 (by decide) ?_
        refine sg_goto (pc := 30) (tgt := 4) C d_R_live_30 (by decide) ?_
        have h := ih (k + 1) (by omega)
        rw [show sm_n (rlv X) (k + 1) = sm_n (rlv X) k + (if rlv X k = true then 1 else 0) from rfl, if_neg (by simp [rlv, h17])] at h
        exact h
  exact loop 12 0 (by omega)

set_option maxHeartbeats 4000000 in
set_option maxRecDepth 100000 in
theorem c_R_isFresh (l : Launch) (Ω : sm_Ω) {X : sm_X} {w : Nat → Nat → Nat} (hf : rwf X) {d o : Nat} (hd : d < 12) (ho : o < 12) : sm_met l Ω y_R_isFresh b_R_isFresh 3 (some .boolean) 2 723 [.ref (Ω.2.1 + 703), .int (nI d), .int (nI o)] X (sm_rf w) (sm_det (some (.int (nI (b2 (rfr X d o))))) X (sm_rf w)) := by
  refine sm_intro (own := RX7) (L := [some (.ref (Ω.2.1 + 703)), some (.int (nI d)), some (.int (nI o))]) (by decide) rfl (by simp [Value.category]) (Nat.le_of_ble_eq_true rfl) rfl ?_
  intro Γ C I
  have h1 := hf.1 o ho
  have h2 := hf.2 (12 * d + o) (by omega)
  refine sg_aln (pc := 0) C d_R_isFresh_0 rfl ?_
  refine sg_getr (pc := 1) C fw_R_42 (by omega) rfl rfl rfl d_R_isFresh_1 ?_
  refine sg_iln (pc := 4) C d_R_isFresh_4 rfl ?_
  refine sg_iln (pc := 5) C d_R_isFresh_5 rfl ?_
  refine sm_callS (pc := 6) (As := [.int (nI d), .int (nI o)]) C I (c_R_at l Ω) cw_R_85 sw_R_at rfl (by decide) ⟨by decide, by decide⟩ rfl (Nat.le_of_ble_eq_true rfl) d_R_isFresh_6 (sm_det_i ?_)
  refine sg_iald (pc := 9) (n := 144) C (by omega) rfl (by omega) (by decide) d_R_isFresh_9 ?_
  refine sg_aln (pc := 10) C d_R_isFresh_10 rfl ?_
  refine sg_getr (pc := 11) C fw_R_20 (by omega) rfl rfl rfl d_R_isFresh_11 ?_
  refine sg_iln (pc := 14) C d_R_isFresh_14 rfl ?_
  refine sg_iald (pc := 15) (n := 12) C (by omega) rfl (by omega) (by decide) d_R_isFresh_15 ?_
  refine sg_icne (pc := 16) (tgt := 23) C d_R_isFresh_16 (by decide) (by omega) (by omega) (fun h16 => ?_) (fun h16 => ?_)
  · refine sg_ic (pc := 23) (v := 0) C d_R_isFresh_23 (by decide) ?_
    exact sg_iret (pc := 24) C I rfl (sn_b (by decide)) d_R_isFresh_24 ⟨by rw [show rfr X d o = false from decide_eq_false h16]; rfl, rfl, rfl⟩
  · refine sg_ic (pc := 19) (v := 1) C d_R_isFresh_19 (by decide) ?_
    refine sg_goto (pc := 20) (tgt := 24) C d_R_isFresh_20 (by decide) ?_
    exact sg_iret (pc := 24) C I rfl (sn_b (by decide)) d_R_isFresh_24 ⟨by rw [show rfr X d o = true from decide_eq_true h16]; rfl, rfl, rfl⟩

set_option maxHeartbeats 4000000 in
set_option maxRecDepth 100000 in
theorem c_R_isOffered (l : Launch) (Ω : sm_Ω) {X : sm_X} {w : Nat → Nat → Nat} {m k : Nat} (hm : m < 4096) (hk : k < 12) : sm_met l Ω y_R_isOffered b_R_isOffered 2 (some .boolean) 1 723 [.int (nI m), .int (nI k)] X (sm_rf w) (sm_det (some (.int (nI (b2 (bitp m k))))) X (sm_rf w)) := by
  refine sm_intro (own := RX7) (L := [some (.int (nI m)), some (.int (nI k))]) (by decide) rfl (by simp [Value.category]) (Nat.le_of_ble_eq_true rfl) rfl ?_
  intro Γ C I
  have hmk : m / 2 ^ k % 2 < 2 := Nat.mod_lt _ (by decide)
  refine sg_iln (pc := 0) C d_R_isOffered_0 rfl ?_
  refine sg_iln (pc := 1) C d_R_isOffered_1 rfl ?_
  refine sr_ishr (pc := 2) C d_R_isOffered_2 (sn_shr (by omega) hk) ?_
  refine sg_ic (pc := 3) (v := 1) C d_R_isOffered_3 (by decide) ?_
  refine sg_and (pc := 4) C d_R_isOffered_4 ?_
  rw [Nat.and_one_is_mod]
  refine sg_ic (pc := 5) (v := 1) C d_R_isOffered_5 (by decide) ?_
  refine sg_icne (pc := 6) (tgt := 13) C d_R_isOffered_6 (by decide) (by omega) (by omega) (fun h6 => ?_) (fun h6 => ?_)
  · refine sg_ic (pc := 13) (v := 0) C d_R_isOffered_13 (by decide) ?_
    exact sg_iret (pc := 14) C I rfl (sn_b (by decide)) d_R_isOffered_14 ⟨by rw [show bitp m k = false from decide_eq_false h6]; rfl, rfl, rfl⟩
  · refine sg_ic (pc := 9) (v := 1) C d_R_isOffered_9 (by decide) ?_
    refine sg_goto (pc := 10) (tgt := 14) C d_R_isOffered_10 (by decide) ?_
    exact sg_iret (pc := 14) C I rfl (sn_b (by decide)) d_R_isOffered_14 ⟨by rw [show bitp m k = true from decide_eq_true h6]; rfl, rfl, rfl⟩

def rch (X : sm_X) (n o m d : Nat) : Bool := decide (d ≠ n) && (bitp m d && (rlv X d && rfr X d o))
def rwt (X : sm_X) (n o : Nat) : Bool := decide (X 710 o = 0) && !rfr X n o

set_option maxHeartbeats 4000000 in
set_option maxRecDepth 100000 in
theorem c_R_canHelp (l : Launch) (Ω : sm_Ω) {X : sm_X} {w : Nat → Nat → Nat} (hf : rwf X) {d n o m : Nat} (hd : d < 12) (hn : n < 12) (ho : o < 12) (hm : m < 4096) : sm_met l Ω y_R_canHelp b_R_canHelp 5 (some .boolean) 3 723 [.ref (Ω.2.1 + 703), .int (nI d), .int (nI n), .int (nI o), .int (nI m)] X (sm_rf w) (sm_det (some (.int (nI (b2 (rch X n o m d))))) X (sm_rf w)) := by
  refine sm_intro (own := RX7) (L := [some (.ref (Ω.2.1 + 703)), some (.int (nI d)), some (.int (nI n)), some (.int (nI o)), some (.int (nI m))]) (by decide) rfl (by simp [Value.category]) (Nat.le_of_ble_eq_true rfl) rfl ?_
  intro Γ C I
  have h1 := hf.1 d hd
  have b1 := b2_lt (bitp m d)
  have b3 := b2_lt (rfr X d o)
  refine sg_iln (pc := 0) C d_R_canHelp_0 rfl ?_
  refine sg_iln (pc := 1) C d_R_canHelp_1 rfl ?_
  refine sg_iceq (pc := 2) (tgt := 36) C d_R_canHelp_2 (by decide) (by omega) (by omega) (fun h2 => ?_) (fun h2 => ?_)
  · refine sg_ic (pc := 36) (v := 0) C d_R_canHelp_36 (by decide) ?_
    exact sg_iret (pc := 37) C I rfl (sn_b (by decide)) d_R_canHelp_37 ⟨by rw [show rch X n o m d = false by simp [rch, h2]]; rfl, rfl, rfl⟩
  · refine sg_il (pc := 5) C d_R_canHelp_5 rfl ?_
    refine sg_iln (pc := 7) C d_R_canHelp_7 rfl ?_
    refine sm_callS (pc := 8) (As := [.int (nI m), .int (nI d)]) C I (c_R_isOffered l Ω hm (by omega)) cw_R_104 sw_R_isOffered rfl (by decide) ⟨by decide, by decide⟩ rfl (Nat.le_of_ble_eq_true rfl) d_R_canHelp_8 (sm_det_i ?_)
    refine sg_ifeq (pc := 11) (tgt := 36) C d_R_canHelp_11 (by decide) (by omega) (fun h11 => ?_) (fun h11 => ?_)
    · refine sg_ic (pc := 36) (v := 0) C d_R_canHelp_36 (by decide) ?_
      exact sg_iret (pc := 37) C I rfl (sn_b (by decide)) d_R_canHelp_37 ⟨by rw [show rch X n o m d = false by simp [rch, b2_0 h11]]; rfl, rfl, rfl⟩
    · refine sg_aln (pc := 14) C d_R_canHelp_14 rfl ?_
      refine sg_getr (pc := 15) C fw_R_36 (by omega) rfl rfl rfl d_R_canHelp_15 ?_
      refine sg_iln (pc := 18) C d_R_canHelp_18 rfl ?_
      refine sg_bald (pc := 19) (n := 12) C (by omega) rfl (by omega) (by decide) d_R_canHelp_19 ?_
      refine sg_ifne (pc := 20) (tgt := 36) C d_R_canHelp_20 (by decide) (by omega) (fun h20 => ?_) (fun h20 => ?_)
      · refine sg_ic (pc := 36) (v := 0) C d_R_canHelp_36 (by decide) ?_
        exact sg_iret (pc := 37) C I rfl (sn_b (by decide)) d_R_canHelp_37 ⟨by rw [show rch X n o m d = false by simp [rch, rlv, h20]]; rfl, rfl, rfl⟩
      · refine sg_aln (pc := 23) C d_R_canHelp_23 rfl ?_
        refine sg_iln (pc := 24) C d_R_canHelp_24 rfl ?_
        refine sg_iln (pc := 25) C d_R_canHelp_25 rfl ?_
        refine sm_callV (pc := 26) (As := [.int (nI d), .int (nI o)]) C I (c_R_isFresh l Ω hf (by omega) (by omega)) cw_R_108 iw_R_isFresh (C.1.2.2.2.2 _ (List.mem_cons_of_mem _ se_R_isFresh)) (by omega) rfl rfl rfl rfl (by decide) ⟨by decide, by decide⟩ rfl (Nat.le_of_ble_eq_true rfl) d_R_canHelp_26 (sm_det_i ?_)
        refine sg_ifeq (pc := 29) (tgt := 36) C d_R_canHelp_29 (by decide) (by omega) (fun h29 => ?_) (fun h29 => ?_)
        · refine sg_ic (pc := 36) (v := 0) C d_R_canHelp_36 (by decide) ?_
          exact sg_iret (pc := 37) C I rfl (sn_b (by decide)) d_R_canHelp_37 ⟨by rw [show rch X n o m d = false by simp [rch, b2_0 h29]]; rfl, rfl, rfl⟩
        · refine sg_ic (pc := 32) (v := 1) C d_R_canHelp_32 (by decide) ?_
          refine sg_goto (pc := 33) (tgt := 37) C d_R_canHelp_33 (by decide) ?_
          exact sg_iret (pc := 37) C I rfl (sn_b (by decide)) d_R_canHelp_37 ⟨by rw [show rch X n o m d = true by simp [rch, rlv, h2, b2_1 h11, h20, b2_1 h29]]; rfl, rfl, rfl⟩

set_option maxHeartbeats 4000000 in
set_option maxRecDepth 100000 in
theorem c_R_isWanted (l : Launch) (Ω : sm_Ω) {X : sm_X} {w : Nat → Nat → Nat} (hf : rwf X) {n o : Nat} (hn : n < 12) (ho : o < 12) : sm_met l Ω y_R_isWanted b_R_isWanted 3 (some .boolean) 3 723 [.ref (Ω.2.1 + 703), .int (nI n), .int (nI o)] X (sm_rf w) (sm_det (some (.int (nI (b2 (rwt X n o))))) X (sm_rf w)) := by
  refine sm_intro (own := RX7) (L := [some (.ref (Ω.2.1 + 703)), some (.int (nI n)), some (.int (nI o))]) (by decide) rfl (by simp [Value.category]) (Nat.le_of_ble_eq_true rfl) rfl ?_
  intro Γ C I
  have h1 := hf.1 o ho
  have b3 := b2_lt (rfr X n o)
  refine sg_aln (pc := 0) C d_R_isWanted_0 rfl ?_
  refine sg_getr (pc := 1) C fw_R_32 (by omega) rfl rfl rfl d_R_isWanted_1 ?_
  refine sg_iln (pc := 4) C d_R_isWanted_4 rfl ?_
  refine sg_bald (pc := 5) (n := 12) C (by omega) rfl (by omega) (by decide) d_R_isWanted_5 ?_
  refine sg_ifne (pc := 6) (tgt := 22) C d_R_isWanted_6 (by decide) (by omega) (fun h6 => ?_) (fun h6 => ?_)
  · refine sg_ic (pc := 22) (v := 0) C d_R_isWanted_22 (by decide) ?_
    exact sg_iret (pc := 23) C I rfl (sn_b (by decide)) d_R_isWanted_23 ⟨by rw [show rwt X n o = false by simp [rwt, h6]]; rfl, rfl, rfl⟩
  · refine sg_aln (pc := 9) C d_R_isWanted_9 rfl ?_
    refine sg_iln (pc := 10) C d_R_isWanted_10 rfl ?_
    refine sg_iln (pc := 11) C d_R_isWanted_11 rfl ?_
    refine sm_callV (pc := 12) (As := [.int (nI n), .int (nI o)]) C I (c_R_isFresh l Ω hf (by omega) (by omega)) cw_R_108 iw_R_isFresh (C.1.2.2.2.2 _ (List.mem_cons_of_mem _ se_R_isFresh)) (by omega) rfl rfl rfl rfl (by decide) ⟨by decide, by decide⟩ rfl (Nat.le_of_ble_eq_true rfl) d_R_isWanted_12 (sm_det_i ?_)
    refine sg_ifne (pc := 15) (tgt := 22) C d_R_isWanted_15 (by decide) (by omega) (fun h15 => ?_) (fun h15 => ?_)
    · refine sg_ic (pc := 22) (v := 0) C d_R_isWanted_22 (by decide) ?_
      exact sg_iret (pc := 23) C I rfl (sn_b (by decide)) d_R_isWanted_23 ⟨by rw [show rwt X n o = false by simp [rwt, b2_1 h15]]; rfl, rfl, rfl⟩
    · refine sg_ic (pc := 18) (v := 1) C d_R_isWanted_18 (by decide) ?_
      refine sg_goto (pc := 19) (tgt := 23) C d_R_isWanted_19 (by decide) ?_
      exact sg_iret (pc := 23) C I rfl (sn_b (by decide)) d_R_isWanted_23 ⟨by rw [show rwt X n o = true by simp [rwt, h6, b2_0 h15]]; rfl, rfl, rfl⟩

set_option maxHeartbeats 4000000 in
set_option maxRecDepth 100000 in
theorem c_R_hasHelpers (l : Launch) (Ω : sm_Ω) {X : sm_X} {w : Nat → Nat → Nat} (hf : rwf X) {n o m : Nat} (hn : n < 12) (ho : o < 12) (hm : m < 4096) : sm_met l Ω y_R_hasHelpers b_R_hasHelpers 6 (some .boolean) 4 723 [.ref (Ω.2.1 + 703), .int (nI n), .int (nI o), .int (nI m)] X (sm_rf w) (sm_det (some (.int (nI (b2 (decide (8 ≤ sm_n (rch X n o m) 12)))))) X (sm_rf w)) := by
  refine sm_intro (own := RX7) (L := [some (.ref (Ω.2.1 + 703)), some (.int (nI n)), some (.int (nI o)), some (.int (nI m)), none, none]) (by decide) rfl (by simp [Value.category]) (Nat.le_of_ble_eq_true rfl) rfl ?_
  intro Γ C I
  have hle : ∀ k, sm_n (rch X n o m) k ≤ k := sm_n_le (rch X n o m)
  refine sg_ic (pc := 0) (v := 0) C d_R_hasHelpers_0 (by decide) ?_
  refine sg_is4 (pc := 1) C d_R_hasHelpers_1 ?_
  refine sg_ic (pc := 3) (v := 0) C d_R_hasHelpers_3 (by decide) ?_
  refine sg_is5 (pc := 4) C d_R_hasHelpers_4 ?_
  have loop : ∀ t k, k + t = 12 → sm_G Γ Ω 723 0 0 6 [some (.ref (Ω.2.1 + 703)), some (.int (nI n)), some (.int (nI o)), some (.int (nI m)), some (.int (nI (sm_n (rch X n o m) k))), some (.int (nI k))] [] X (sm_rf w) := by
    intro t
    induction t with
    | zero =>
      intro k hk
      refine sg_il (pc := 6) C d_R_hasHelpers_6 rfl ?_
      refine sg_bi (pc := 8) (v := 12) C d_R_hasHelpers_8 (by decide) ?_
      refine sg_icge (pc := 10) (tgt := 41) C d_R_hasHelpers_10 (by decide) (by omega) (by omega) (fun h10 => ?_) (fun h10 => absurd h10 (by omega))
      refine sg_il (pc := 41) C d_R_hasHelpers_41 rfl ?_
      have hk12 : k = 12 := by omega
      subst hk12
      have hl2 := hle 12
      refine sg_bi (pc := 43) (v := 8) C d_R_hasHelpers_43 (by decide) ?_
      refine sg_iclt (pc := 45) (tgt := 52) C d_R_hasHelpers_45 (by decide) (by omega) (by omega) (fun h45 => ?_) (fun h45 => ?_)
      · refine sg_ic (pc := 52) (v := 0) C d_R_hasHelpers_52 (by decide) ?_
        exact sg_iret (pc := 53) C I rfl (sn_b (by decide)) d_R_hasHelpers_53 ⟨by rw [show decide (8 ≤ sm_n (rch X n o m) 12) = false from decide_eq_false (by omega)]; rfl, rfl, rfl⟩
      · refine sg_ic (pc := 48) (v := 1) C d_R_hasHelpers_48 (by decide) ?_
        refine sg_goto (pc := 49) (tgt := 53) C d_R_hasHelpers_49 (by decide) ?_
        exact sg_iret (pc := 53) C I rfl (sn_b (by decide)) d_R_hasHelpers_53 ⟨by rw [show decide (8 ≤ sm_n (rch X n o m) 12) = true from decide_eq_true (by omega)]; rfl, rfl, rfl⟩
    | succ t ih =>
      intro k hk
      have b3 := b2_lt ((rch X n o m) k)
      have en : sm_n (rch X n o m) (k + 1) = sm_n (rch X n o m) k + (if (rch X n o m) k = true then 1 else 0) := rfl
      refine sg_il (pc := 6) C d_R_hasHelpers_6 rfl ?_
      refine sg_bi (pc := 8) (v := 12) C d_R_hasHelpers_8 (by decide) ?_
      refine sg_icge (pc := 10) (tgt := 41) C d_R_hasHelpers_10 (by decide) (by omega) (by omega) (fun h10 => absurd h10 (by omega)) (fun h10 => ?_)
      refine sg_il (pc := 13) C d_R_hasHelpers_13 rfl ?_
      refine sg_aln (pc := 15) C d_R_hasHelpers_15 rfl ?_
      refine sg_il (pc := 16) C d_R_hasHelpers_16 rfl ?_
      refine sg_iln (pc := 18) C d_R_hasHelpers_18 rfl ?_
      refine sg_iln (pc := 19) C d_R_hasHelpers_19 rfl ?_
      refine sg_iln (pc := 20) C d_R_hasHelpers_20 rfl ?_
      refine sm_callV (pc := 21) (As := [.int (nI k), .int (nI n), .int (nI o), .int (nI m)]) C I (c_R_canHelp l Ω hf (by omega) hn ho hm) cw_R_117 iw_R_canHelp (C.1.2.2.2.2 _ (List.mem_cons_of_mem _ se_R_canHelp)) (by omega) rfl rfl rfl rfl (by decide) ⟨by decide, by decide⟩ rfl (Nat.le_of_ble_eq_true rfl) d_R_hasHelpers_21 (sm_det_i ?_)
      refine sg_ifeq (pc := 24) (tgt := 31) C d_R_hasHelpers_24 (by decide) (by omega) (fun h24 => ?_) (fun h24 => ?_)
      · refine sg_ic (pc := 31) (v := 0) C d_R_hasHelpers_31 (by decide) ?_
        refine sg_add (pc := 32) C d_R_hasHelpers_32 ?_
        refine sg_is4 (pc := 33) C d_R_hasHelpers_33 ?_
        refine sg_inc5 (pc := 35) (n := 1) C d_R_hasHelpers_35 (by decide) ?_
        refine sg_goto (pc := 38) (tgt := 6) C d_R_hasHelpers_38 (by decide) ?_
        have h := ih (k + 1) (by omega)
        rw [en, if_neg (by rw [b2_0 h24]; decide)] at h
        exact h
      · refine sg_ic (pc := 27) (v := 1) C d_R_hasHelpers_27 (by decide) ?_
        refine sg_goto (pc := 28) (tgt := 32) C d_R_hasHelpers_28 (by decide) ?_
        refine sg_add (pc := 32) C d_R_hasHelpers_32 ?_
        refine sg_is4 (pc := 33) C d_R_hasHelpers_33 ?_
        refine sg_inc5 (pc := 35) (n := 1) C d_R_hasHelpers_35 (by decide) ?_
        refine sg_goto (pc := 38) (tgt := 6) C d_R_hasHelpers_38 (by decide) ?_
        have h := ih (k + 1) (by omega)
        rw [en, if_pos (b2_1 h24)] at h
        exact h
  exact loop 12 0 (by omega)

/-- a block of a row anew: i values from the place b on -/
def blk (b : Nat) (f g : Nat → Nat) (i : Nat) : Nat → Nat := fun j => if b ≤ j ∧ j < b + i then f (j - b) else g j
theorem blk_0 {b : Nat} {f g : Nat → Nat} : blk b f g 0 = g := funext fun j => if_neg (by omega)
theorem blk_s {b i : Nat} {f g : Nat → Nat} : (fun k => if k = b + i then f i else blk b f g i k) = blk b f g (i + 1) := by
  funext j
  unfold blk
  by_cases e1 : j = b + i
  · subst e1
    rw [if_pos rfl, if_pos (by omega), show b + i - b = i by omega]
  · rw [if_neg e1]
    by_cases e2 : b ≤ j ∧ j < b + i
    · rw [if_pos e2, if_pos (by omega)]
    · rw [if_neg e2, if_neg (by omega)]
theorem blk_in {b i j : Nat} {f g : Nat → Nat} (h : j < i) : blk b f g i (b + j) = f j := by
  unfold blk
  rw [if_pos (by omega), show b + j - b = j by omega]
theorem blk_out {b i j : Nat} {f g : Nat → Nat} (h : ¬ (b ≤ j ∧ j < b + i)) : blk b f g i j = g j := if_neg h
theorem blk_up {X : sm_X} {c b i : Nat} {f g : Nat → Nat} : sm_up (sm_uf X c (blk b f g i)) c (b + i) (f i) = sm_uf X c (blk b f g (i + 1)) := by
  rw [sm_uf_up, blk_s]

set_option maxHeartbeats 4000000 in
set_option maxRecDepth 100000 in
theorem c_R_cast (l : Launch) (Ω : sm_Ω) {X : sm_X} {w : Nat → Nat → Nat} {d o n : Nat} (hd : d < 12) (ho : o < 12) (hn : n ≤ 240) : sm_met l Ω y_R_cast b_R_cast 6 none 2 723 [.ref (Ω.2.1 + 703), .int (nI d), .int (nI o), .int (nI n)] X (sm_rf w) (sm_det none (sm_uf (sm_up (sm_up X 716 (12 * d + o) (X 708 o)) 717 (12 * d + o) n) 718 (blk (240 * (12 * d + o)) (fun j => if j < n then X 704 j else 0) (X 718) 240)) (sm_rf w)) := by
  refine sm_intro (own := RX7) (L := [some (.ref (Ω.2.1 + 703)), some (.int (nI d)), some (.int (nI o)), some (.int (nI n)), none, none]) (by decide) rfl (by simp [Value.category]) (Nat.le_of_ble_eq_true rfl) rfl ?_
  intro Γ C I
  refine sg_iln (pc := 0) C d_R_cast_0 rfl ?_
  refine sg_iln (pc := 1) C d_R_cast_1 rfl ?_
  refine sm_callS (pc := 2) (As := [.int (nI d), .int (nI o)]) C I (c_R_at l Ω) cw_R_85 sw_R_at rfl (by decide) ⟨by decide, by decide⟩ rfl (Nat.le_of_ble_eq_true rfl) d_R_cast_2 (sm_det_i ?_)
  refine sg_is4 (pc := 5) C d_R_cast_5 ?_
  refine sg_aln (pc := 7) C d_R_cast_7 rfl ?_
  refine sg_getr (pc := 8) C fw_R_52 (by omega) rfl rfl rfl d_R_cast_8 ?_
  refine sg_il (pc := 11) C d_R_cast_11 rfl ?_
  refine sg_aln (pc := 13) C d_R_cast_13 rfl ?_
  refine sg_getr (pc := 14) C fw_R_26 (by omega) rfl rfl rfl d_R_cast_14 ?_
  refine sg_iln (pc := 17) C d_R_cast_17 rfl ?_
  refine sg_iald (pc := 18) (n := 12) C (by omega) rfl (by omega) (by decide) d_R_cast_18 ?_
  refine sg_iast (pc := 19) (n := 144) C (by omega) rfl (by omega) (by decide) d_R_cast_19 ?_
  refine sg_aln (pc := 20) C d_R_cast_20 rfl ?_
  refine sg_getr (pc := 21) C fw_R_55 (by omega) rfl rfl rfl d_R_cast_21 ?_
  refine sg_il (pc := 24) C d_R_cast_24 rfl ?_
  refine sg_iln (pc := 26) C d_R_cast_26 rfl ?_
  refine sg_iast (pc := 27) (n := 144) C (by omega) rfl (by omega) (by decide) d_R_cast_27 ?_
  refine sg_ic (pc := 28) (v := 0) C d_R_cast_28 (by decide) ?_
  refine sg_is5 (pc := 29) C d_R_cast_29 ?_
  have loop : ∀ t i, i + t = 240 → sm_G Γ Ω 723 0 0 31 [some (.ref (Ω.2.1 + 703)), some (.int (nI d)), some (.int (nI o)), some (.int (nI n)), some (.int (nI (12 * d + o))), some (.int (nI i))] [] (sm_uf (sm_up (sm_up X 716 (12 * d + o) (X 708 o)) 717 (12 * d + o) n) 718 (blk (240 * (12 * d + o)) (fun j => if j < n then X 704 j else 0) (X 718) i)) (sm_rf w) := by
    intro t
    induction t with
    | zero =>
      intro i hi
      refine sg_il (pc := 31) C d_R_cast_31 rfl ?_
      refine sg_si (pc := 33) (v := 240) C d_R_cast_33 (by decide) ?_
      refine sg_icge (pc := 36) (tgt := 76) C d_R_cast_36 (by decide) (by omega) (by omega) (fun h36 => ?_) (fun h36 => absurd h36 (by omega))
      exact sg_vret (pc := 76) C I rfl d_R_cast_76 ⟨rfl, by rw [show i = 240 by omega], rfl⟩
    | succ t ih =>
      intro i hi
      refine sg_il (pc := 31) C d_R_cast_31 rfl ?_
      refine sg_si (pc := 33) (v := 240) C d_R_cast_33 (by decide) ?_
      refine sg_icge (pc := 36) (tgt := 76) C d_R_cast_36 (by decide) (by omega) (by omega) (fun h36 => absurd h36 (by omega)) (fun h36 => ?_)
      refine sg_aln (pc := 39) C d_R_cast_39 rfl ?_
      refine sg_getr (pc := 40) C fw_R_58 (by omega) rfl rfl rfl d_R_cast_40 ?_
      refine sg_si (pc := 43) (v := 240) C d_R_cast_43 (by decide) ?_
      refine sg_il (pc := 46) C d_R_cast_46 rfl ?_
      refine sg_mul (pc := 48) C d_R_cast_48 ?_
      refine sg_il (pc := 49) C d_R_cast_49 rfl ?_
      refine sg_add (pc := 51) C d_R_cast_51 ?_
      refine sg_il (pc := 52) C d_R_cast_52 rfl ?_
      refine sg_iln (pc := 54) C d_R_cast_54 rfl ?_
      refine sg_icge (pc := 55) (tgt := 68) C d_R_cast_55 (by decide) (by omega) (by omega) (fun h55 => ?_) (fun h55 => ?_)
      · refine sg_ic (pc := 68) (v := 0) C d_R_cast_68 (by decide) ?_
        refine sg_top (y := nI ((fun j => if j < n then X 704 j else 0) i)) C (by rw [show (fun j => if j < n then X 704 j else 0) i = 0 from if_neg (by omega)]) ?_
        refine sg_iast (pc := 69) (n := 34560) C (by omega) rfl (by omega) (by decide) d_R_cast_69 ?_
        rw [blk_up]
        refine sg_inc5 (pc := 70) (n := 1) C d_R_cast_70 (by decide) ?_
        refine sg_goto (pc := 73) (tgt := 31) C d_R_cast_73 (by decide) ?_
        exact ih (i + 1) (by omega)
      · refine sg_aln (pc := 58) C d_R_cast_58 rfl ?_
        refine sg_getr (pc := 59) C fw_R_7 (by omega) rfl rfl rfl d_R_cast_59 ?_
        refine sg_il (pc := 62) C d_R_cast_62 rfl ?_
        refine sg_iald (pc := 64) (n := 240) C (by omega) rfl (by omega) (by decide) d_R_cast_64 ?_
        rw [sm_uf_o (by decide), sm_up_x (Or.inl (by decide)), sm_up_x (Or.inl (by decide)), show X 704 i = (fun j => if j < n then X 704 j else 0) i from (if_pos h55).symm]
        refine sg_goto (pc := 65) (tgt := 69) C d_R_cast_65 (by decide) ?_
        refine sg_iast (pc := 69) (n := 34560) C (by omega) rfl (by omega) (by decide) d_R_cast_69 ?_
        rw [blk_up]
        refine sg_inc5 (pc := 70) (n := 1) C d_R_cast_70 (by decide) ?_
        refine sg_goto (pc := 73) (tgt := 31) C d_R_cast_73 (by decide) ?_
        exact ih (i + 1) (by omega)
  have h0 := loop 240 0 (by omega)
  rw [blk_0, show sm_uf (sm_up (sm_up X 716 (12 * d + o) (X 708 o)) 717 (12 * d + o) n) 718 (X 718) = (sm_up (sm_up X 716 (12 * d + o) (X 708 o)) 717 (12 * d + o) n) from (sm_uf_c (fun j => ((sm_up_x (Or.inl (by decide))).trans (sm_up_x (Or.inl (by decide)))).symm)).trans sm_uf_self] at h0
  exact h0

set_option maxHeartbeats 4000000 in
set_option maxRecDepth 100000 in
theorem c_R_settleNode (l : Launch) (Ω : sm_Ω) {X : sm_X} {w : Nat → Nat → Nat} {d o : Nat} (hd : d < 12) (ho : o < 12) : sm_met l Ω y_R_settleNode b_R_settleNode 5 none 2 723 [.ref (Ω.2.1 + 703), .int (nI d), .int (nI o)] X (sm_rf w) (sm_det none (sm_up (sm_uf (sm_up (sm_up X 713 (12 * d + o) (X 716 (12 * d + o))) 714 (12 * d + o) (X 717 (12 * d + o))) 715 (blk (240 * (12 * d + o)) (fun j => X 718 (240 * (12 * d + o) + j)) (X 715) 240)) 716 (12 * d + o) 0) (sm_rf w)) := by
  refine sm_intro (own := RX7) (L := [some (.ref (Ω.2.1 + 703)), some (.int (nI d)), some (.int (nI o)), none, none]) (by decide) rfl (by simp [Value.category]) (Nat.le_of_ble_eq_true rfl) rfl ?_
  intro Γ C I
  refine sg_iln (pc := 0) C d_R_settleNode_0 rfl ?_
  refine sg_iln (pc := 1) C d_R_settleNode_1 rfl ?_
  refine sm_callS (pc := 2) (As := [.int (nI d), .int (nI o)]) C I (c_R_at l Ω) cw_R_85 sw_R_at rfl (by decide) ⟨by decide, by decide⟩ rfl (Nat.le_of_ble_eq_true rfl) d_R_settleNode_2 (sm_det_i ?_)
  refine sg_is3 (pc := 5) C d_R_settleNode_5 ?_
  refine sg_aln (pc := 6) C d_R_settleNode_6 rfl ?_
  refine sg_getr (pc := 7) C fw_R_42 (by omega) rfl rfl rfl d_R_settleNode_7 ?_
  refine sg_iln (pc := 10) C d_R_settleNode_10 rfl ?_
  refine sg_aln (pc := 11) C d_R_settleNode_11 rfl ?_
  refine sg_getr (pc := 12) C fw_R_52 (by omega) rfl rfl rfl d_R_settleNode_12 ?_
  refine sg_iln (pc := 15) C d_R_settleNode_15 rfl ?_
  refine sg_iald (pc := 16) (n := 144) C (by omega) rfl (by omega) (by decide) d_R_settleNode_16 ?_
  refine sg_iast (pc := 17) (n := 144) C (by omega) rfl (by omega) (by decide) d_R_settleNode_17 ?_
  refine sg_aln (pc := 18) C d_R_settleNode_18 rfl ?_
  refine sg_getr (pc := 19) C fw_R_45 (by omega) rfl rfl rfl d_R_settleNode_19 ?_
  refine sg_iln (pc := 22) C d_R_settleNode_22 rfl ?_
  refine sg_aln (pc := 23) C d_R_settleNode_23 rfl ?_
  refine sg_getr (pc := 24) C fw_R_55 (by omega) rfl rfl rfl d_R_settleNode_24 ?_
  refine sg_iln (pc := 27) C d_R_settleNode_27 rfl ?_
  refine sg_iald (pc := 28) (n := 144) C (by omega) rfl (by omega) (by decide) d_R_settleNode_28 ?_
  rw [sm_up_x (Or.inl (by decide))]
  refine sg_iast (pc := 29) (n := 144) C (by omega) rfl (by omega) (by decide) d_R_settleNode_29 ?_
  refine sg_ic (pc := 30) (v := 0) C d_R_settleNode_30 (by decide) ?_
  refine sg_is4 (pc := 31) C d_R_settleNode_31 ?_
  have loop : ∀ t i, i + t = 240 → sm_G Γ Ω 723 0 0 33 [some (.ref (Ω.2.1 + 703)), some (.int (nI d)), some (.int (nI o)), some (.int (nI (12 * d + o))), some (.int (nI i))] [] (sm_uf (sm_up (sm_up X 713 (12 * d + o) (X 716 (12 * d + o))) 714 (12 * d + o) (X 717 (12 * d + o))) 715 (blk (240 * (12 * d + o)) (fun j => X 718 (240 * (12 * d + o) + j)) (X 715) i)) (sm_rf w) := by
    intro t
    induction t with
    | zero =>
      intro i hi
      refine sg_il (pc := 33) C d_R_settleNode_33 rfl ?_
      refine sg_si (pc := 35) (v := 240) C d_R_settleNode_35 (by decide) ?_
      refine sg_icge (pc := 38) (tgt := 73) C d_R_settleNode_38 (by decide) (by omega) (by omega) (fun h38 => ?_) (fun h38 => absurd h38 (by omega))
      rw [show i = 240 by omega]
      refine sg_aln (pc := 73) C d_R_settleNode_73 rfl ?_
      refine sg_getr (pc := 74) C fw_R_52 (by omega) rfl rfl rfl d_R_settleNode_74 ?_
      refine sg_iln (pc := 77) C d_R_settleNode_77 rfl ?_
      refine sg_ic (pc := 78) (v := 0) C d_R_settleNode_78 (by decide) ?_
      refine sg_iast (pc := 79) (n := 144) C (by omega) rfl (by omega) (by decide) d_R_settleNode_79 ?_
      exact sg_vret (pc := 80) C I rfl d_R_settleNode_80 ⟨rfl, rfl, rfl⟩
    | succ t ih =>
      intro i hi
      refine sg_il (pc := 33) C d_R_settleNode_33 rfl ?_
      refine sg_si (pc := 35) (v := 240) C d_R_settleNode_35 (by decide) ?_
      refine sg_icge (pc := 38) (tgt := 73) C d_R_settleNode_38 (by decide) (by omega) (by omega) (fun h38 => absurd h38 (by omega)) (fun h38 => ?_)
      refine sg_aln (pc := 41) C d_R_settleNode_41 rfl ?_
      refine sg_getr (pc := 42) C fw_R_49 (by omega) rfl rfl rfl d_R_settleNode_42 ?_
      refine sg_si (pc := 45) (v := 240) C d_R_settleNode_45 (by decide) ?_
      refine sg_iln (pc := 48) C d_R_settleNode_48 rfl ?_
      refine sg_mul (pc := 49) C d_R_settleNode_49 ?_
      refine sg_il (pc := 50) C d_R_settleNode_50 rfl ?_
      refine sg_add (pc := 52) C d_R_settleNode_52 ?_
      refine sg_aln (pc := 53) C d_R_settleNode_53 rfl ?_
      refine sg_getr (pc := 54) C fw_R_58 (by omega) rfl rfl rfl d_R_settleNode_54 ?_
      refine sg_si (pc := 57) (v := 240) C d_R_settleNode_57 (by decide) ?_
      refine sg_iln (pc := 60) C d_R_settleNode_60 rfl ?_
      refine sg_mul (pc := 61) C d_R_settleNode_61 ?_
      refine sg_il (pc := 62) C d_R_settleNode_62 rfl ?_
      refine sg_add (pc := 64) C d_R_settleNode_64 ?_
      refine sg_iald (pc := 65) (n := 34560) C (by omega) rfl (by omega) (by decide) d_R_settleNode_65 ?_
      rw [sm_uf_o (by decide), sm_up_x (Or.inl (by decide)), sm_up_x (Or.inl (by decide)), show X 718 (240 * (12 * d + o) + i) = (fun j => X 718 (240 * (12 * d + o) + j)) i from rfl]
      refine sg_iast (pc := 66) (n := 34560) C (by omega) rfl (by omega) (by decide) d_R_settleNode_66 ?_
      rw [blk_up]
      refine sg_inc4 (pc := 67) (n := 1) C d_R_settleNode_67 (by decide) ?_
      refine sg_goto (pc := 70) (tgt := 33) C d_R_settleNode_70 (by decide) ?_
      exact ih (i + 1) (by omega)
  have h0 := loop 240 0 (by omega)
  rw [blk_0, show sm_uf (sm_up (sm_up X 713 (12 * d + o) (X 716 (12 * d + o))) 714 (12 * d + o) (X 717 (12 * d + o))) 715 (X 715) = (sm_up (sm_up X 713 (12 * d + o) (X 716 (12 * d + o))) 714 (12 * d + o) (X 717 (12 * d + o))) from (sm_uf_c (fun j => ((sm_up_x (Or.inl (by decide))).trans (sm_up_x (Or.inl (by decide)))).symm)).trans sm_uf_self] at h0
  exact h0

def rbo (X : sm_X) (k i : Nat) : Nat := if i < X 714 k then X 715 (240 * k + i) else 0

set_option maxHeartbeats 4000000 in
set_option maxRecDepth 100000 in
theorem c_R_byteOf (l : Launch) (Ω : sm_Ω) {X : sm_X} {w : Nat → Nat → Nat} (hf : rwf X) {k i : Nat} (hk : k < 144) (hi : i < 2 ^ 31) : sm_met l Ω y_R_byteOf b_R_byteOf 3 (some .int) 1 723 [.ref (Ω.2.1 + 703), .int (nI k), .int (nI i)] X (sm_rf w) (sm_det (some (.int (nI (rbo X k i)))) X (sm_rf w)) := by
  refine sm_intro (own := RX7) (L := [some (.ref (Ω.2.1 + 703)), some (.int (nI k)), some (.int (nI i))]) (by decide) rfl (by simp [Value.category]) (Nat.le_of_ble_eq_true rfl) rfl ?_
  intro Γ C I
  have h2 := hf.2 k hk
  refine sg_iln (pc := 0) C d_R_byteOf_0 rfl ?_
  refine sg_aln (pc := 1) C d_R_byteOf_1 rfl ?_
  refine sg_getr (pc := 2) C fw_R_45 (by omega) rfl rfl rfl d_R_byteOf_2 ?_
  refine sg_iln (pc := 5) C d_R_byteOf_5 rfl ?_
  refine sg_iald (pc := 6) (n := 144) C (by omega) rfl (by omega) (by decide) d_R_byteOf_6 ?_
  refine sg_icge (pc := 7) (tgt := 25) C d_R_byteOf_7 (by decide) (by omega) (by omega) (fun h7 => ?_) (fun h7 => ?_)
  · refine sg_ic (pc := 25) (v := 0) C d_R_byteOf_25 (by decide) ?_
    exact sg_iret (pc := 26) C I rfl rfl d_R_byteOf_26 ⟨by rw [show rbo X k i = 0 from if_neg (by omega)], rfl, rfl⟩
  · refine sg_aln (pc := 10) C d_R_byteOf_10 rfl ?_
    refine sg_getr (pc := 11) C fw_R_49 (by omega) rfl rfl rfl d_R_byteOf_11 ?_
    refine sg_si (pc := 14) (v := 240) C d_R_byteOf_14 (by decide) ?_
    refine sg_iln (pc := 17) C d_R_byteOf_17 rfl ?_
    refine sg_mul (pc := 18) C d_R_byteOf_18 ?_
    refine sg_iln (pc := 19) C d_R_byteOf_19 rfl ?_
    refine sg_add (pc := 20) C d_R_byteOf_20 ?_
    refine sg_iald (pc := 21) (n := 34560) C (by omega) rfl (by omega) (by decide) d_R_byteOf_21 ?_
    refine sg_goto (pc := 22) (tgt := 26) C d_R_byteOf_22 (by decide) ?_
    exact sg_iret (pc := 26) C I rfl rfl d_R_byteOf_26 ⟨by rw [show rbo X k i = X 715 (240 * k + i) from if_pos h7], rfl, rfl⟩
