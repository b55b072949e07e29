/-! The reference: public methods without long loops -/
theorem sn_sar {N k : Nat} (hN : N < 2 ^ 32) (hk : k < 4) : (nI N >>> (nI (24 - 8 * k) &&& 31)) &&& nI 255 = nI (N / 2 ^ (24 - 8 * k) % 256) := by
  have hs : ((nI (24 - 8 * k) &&& 31).toBitVec.smod 32).toNat = 24 - 8 * k := by
    rcases (by omega : k = 0 ∨ k = 1 ∨ k = 2 ∨ k = 3) with rfl | rfl | rfl | rfl <;> decide
  have h1 := pk_shr (nI N) (nI (24 - 8 * k) &&& 31) (24 - 8 * k) hs
  rw [pk_and _ 8 (by decide)]
  generalize nI N >>> (nI (24 - 8 * k) &&& 31) = z at h1
  have h2 : (nI N).toInt = if 2 * N < 2 ^ 32 then (N : Int) else (N : Int) - 2 ^ 32 := by
    have := BitVec.toInt_eq_toNat_cond (nI N).toBitVec
    rw [pk_tn hN] at this
    exact this
  have h3 : z.toInt = if 2 * z.toBitVec.toNat < 2 ^ 32 then (z.toBitVec.toNat : Int) else (z.toBitVec.toNat : Int) - 2 ^ 32 := BitVec.toInt_eq_toNat_cond z.toBitVec
  have h4 : z.toBitVec.toNat < 2 ^ 32 := z.toBitVec.isLt
  rw [h2, h3, Int.shiftRight_eq_div_pow] at h1
  congr 1
  generalize z.toBitVec.toNat = q at h1 h4
  rcases (by omega : k = 0 ∨ k = 1 ∨ k = 2 ∨ k = 3) with rfl | rfl | rfl | rfl
  all_goals
    simp only [Nat.mul_zero, Nat.mul_one, Nat.sub_zero, Nat.reduceMul, Nat.reduceSub, Nat.reducePow, Nat.sub_self] at h1 ⊢
    split at h1 <;> split at h1 <;> omega
theorem sn_r1 {x : Int32} {r : Nat} (hr : r ≤ 240) (h : x < 0 ∨ nI r ≤ x) : x < nI 0 ∨ nI r - nI 1 < x := by
  rcases h with h | h
  · exact Or.inl h
  · refine Or.inr ?_
    cases r with
    | zero => exact Int32.lt_of_lt_of_le (by decide : nI 0 - nI 1 < nI 0) h
    | succ r =>
      rw [pk_sub (by omega), Nat.add_sub_cancel]
      exact Int32.lt_of_lt_of_le (nI_lt (by omega) (by omega)) h
theorem sn_hi {x : Int32} {n : Nat} (h : x < 0 ∨ nI n < x) : x < nI 0 ∨ nI n < x := h

set_option maxHeartbeats 4000000 in
set_option maxRecDepth 100000 in
theorem c_R_fieldX1 (l : Launch) (Ω : sm_Ω) {X : sm_X} {w : Nat → Nat → Nat} {x z u : Int32} (hx : x < 0 ∨ nI 2 ≤ x) : sm_met l Ω y_R_field b_R_field 5 (some .int) 2 723 [.ref (Ω.2.1 + 703), .int z, .int u, .int x] X (sm_rf w) (sm_det (some (.int (nI 0))) (sm_up X 703 0 1) (sm_rf w)) := by
  refine sm_intro (own := RX7) (L := [some (.ref (Ω.2.1 + 703)), some (.int z), some (.int u), some (.int x), none]) (by decide) rfl (by simp [Value.category]) (Nat.le_of_ble_eq_true rfl) rfl ?_
  intro Γ C I
  refine sg_aln (pc := 0) C d_R_field_0 rfl ?_
  refine sg_ic (pc := 1) (v := 0) C d_R_field_1 (by decide) ?_
  refine sg_puti (pc := 2) C pw_R_70 (by omega) rfl rfl rfl rfl d_R_field_2 ?_
  refine sg_iln (pc := 5) C d_R_field_5 rfl ?_
  refine sg_ic (pc := 6) (v := 0) C d_R_field_6 (by decide) ?_
  refine sg_ic (pc := 7) (v := 1) C d_R_field_7 (by decide) ?_
  refine sm_callS (pc := 8) (As := [.int x, .int (nI 0), .int (nI 1)]) C I (c_R_within0 l Ω (sn_ix (by decide) hx)) cw_R_73 sw_R_within rfl (by decide) ⟨by decide, by decide⟩ rfl (Nat.le_of_ble_eq_true rfl) d_R_field_8 (sm_det_i ?_)
  refine sg_ifne (pc := 11) (tgt := 20) C d_R_field_11 (by decide) (by omega) (fun h11 => absurd rfl h11) (fun h11 => ?_)
  refine sg_aln (pc := 14) C d_R_field_14 rfl ?_
  refine sg_ic (pc := 15) (v := 1) C d_R_field_15 (by decide) ?_
  refine sm_callV (pc := 16) (As := [.int (nI 1)]) C I (c_R_fails l Ω) cw_R_81 iw_R_fails (C.1.2.2.2.2 _ (List.mem_cons_of_mem _ se_R_fails)) (by omega) rfl rfl rfl rfl (by decide) ⟨by decide, by decide⟩ rfl (Nat.le_of_ble_eq_true rfl) d_R_field_16 (sm_det_i ?_)
  exact sg_iret (pc := 19) C I rfl rfl d_R_field_19 ⟨rfl, sm_up_up, rfl⟩

set_option maxHeartbeats 4000000 in
set_option maxRecDepth 100000 in
theorem c_R_fieldX2 (l : Launch) (Ω : sm_Ω) {X : sm_X} {w : Nat → Nat → Nat} {x u : Int32} {q : Nat} (hq : q < 2) (hx : x < 0 ∨ nI 255 < x) : sm_met l Ω y_R_field b_R_field 5 (some .int) 2 723 [.ref (Ω.2.1 + 703), .int x, .int u, .int (nI q)] X (sm_rf w) (sm_det (some (.int (nI 0))) (sm_up X 703 0 2) (sm_rf w)) := by
  refine sm_intro (own := RX7) (L := [some (.ref (Ω.2.1 + 703)), some (.int x), some (.int u), some (.int (nI q)), none]) (by decide) rfl (by simp [Value.category]) (Nat.le_of_ble_eq_true rfl) rfl ?_
  intro Γ C I
  refine sg_aln (pc := 0) C d_R_field_0 rfl ?_
  refine sg_ic (pc := 1) (v := 0) C d_R_field_1 (by decide) ?_
  refine sg_puti (pc := 2) C pw_R_70 (by omega) rfl rfl rfl rfl d_R_field_2 ?_
  refine sg_iln (pc := 5) C d_R_field_5 rfl ?_
  refine sg_ic (pc := 6) (v := 0) C d_R_field_6 (by decide) ?_
  refine sg_ic (pc := 7) (v := 1) C d_R_field_7 (by decide) ?_
  refine sm_callS (pc := 8) (As := [.int (nI q), .int (nI 0), .int (nI 1)]) C I (c_R_within1 l Ω (nI_nlt (Nat.zero_le _) (by omega)) (nI_nlt (by omega) (by decide))) cw_R_73 sw_R_within rfl (by decide) ⟨by decide, by decide⟩ rfl (Nat.le_of_ble_eq_true rfl) d_R_field_8 (sm_det_i ?_)
  refine sg_ifne (pc := 11) (tgt := 20) C d_R_field_11 (by decide) (by omega) (fun h11 => ?_) (fun h11 => absurd h11 (by decide))
  refine sg_iln (pc := 20) C d_R_field_20 rfl ?_
  refine sg_ic (pc := 21) (v := 0) C d_R_field_21 (by decide) ?_
  refine sg_si (pc := 22) (v := 255) C d_R_field_22 (by decide) ?_
  refine sm_callS (pc := 25) (As := [.int x, .int (nI 0), .int (nI 255)]) C I (c_R_within0 l Ω (sn_hi hx)) cw_R_73 sw_R_within rfl (by decide) ⟨by decide, by decide⟩ rfl (Nat.le_of_ble_eq_true rfl) d_R_field_25 (sm_det_i ?_)
  refine sg_ifeq (pc := 28) (tgt := 51) C d_R_field_28 (by decide) (by omega) (fun h28 => ?_) (fun h28 => absurd rfl h28)
  refine sg_aln (pc := 51) C d_R_field_51 rfl ?_
  refine sg_ic (pc := 52) (v := 2) C d_R_field_52 (by decide) ?_
  refine sm_callV (pc := 53) (As := [.int (nI 2)]) C I (c_R_fails l Ω) cw_R_81 iw_R_fails (C.1.2.2.2.2 _ (List.mem_cons_of_mem _ se_R_fails)) (by omega) rfl rfl rfl rfl (by decide) ⟨by decide, by decide⟩ rfl (Nat.le_of_ble_eq_true rfl) d_R_field_53 (sm_det_i ?_)
  exact sg_iret (pc := 56) C I rfl rfl d_R_field_56 ⟨rfl, sm_up_up, rfl⟩

set_option maxHeartbeats 4000000 in
set_option maxRecDepth 100000 in
theorem c_R_fieldX3 (l : Launch) (Ω : sm_Ω) {X : sm_X} {w : Nat → Nat → Nat} {x : Int32} {a q : Nat} (hq : q < 2) (ha : a < 256) (hx : x < 0 ∨ nI 255 < x) : sm_met l Ω y_R_field b_R_field 5 (some .int) 2 723 [.ref (Ω.2.1 + 703), .int (nI a), .int x, .int (nI q)] X (sm_rf w) (sm_det (some (.int (nI 0))) (sm_up X 703 0 2) (sm_rf w)) := by
  refine sm_intro (own := RX7) (L := [some (.ref (Ω.2.1 + 703)), some (.int (nI a)), some (.int x), some (.int (nI q)), none]) (by decide) rfl (by simp [Value.category]) (Nat.le_of_ble_eq_true rfl) rfl ?_
  intro Γ C I
  refine sg_aln (pc := 0) C d_R_field_0 rfl ?_
  refine sg_ic (pc := 1) (v := 0) C d_R_field_1 (by decide) ?_
  refine sg_puti (pc := 2) C pw_R_70 (by omega) rfl rfl rfl rfl d_R_field_2 ?_
  refine sg_iln (pc := 5) C d_R_field_5 rfl ?_
  refine sg_ic (pc := 6) (v := 0) C d_R_field_6 (by decide) ?_
  refine sg_ic (pc := 7) (v := 1) C d_R_field_7 (by decide) ?_
  refine sm_callS (pc := 8) (As := [.int (nI q), .int (nI 0), .int (nI 1)]) C I (c_R_within1 l Ω (nI_nlt (Nat.zero_le _) (by omega)) (nI_nlt (by omega) (by decide))) cw_R_73 sw_R_within rfl (by decide) ⟨by decide, by decide⟩ rfl (Nat.le_of_ble_eq_true rfl) d_R_field_8 (sm_det_i ?_)
  refine sg_ifne (pc := 11) (tgt := 20) C d_R_field_11 (by decide) (by omega) (fun h11 => ?_) (fun h11 => absurd h11 (by decide))
  refine sg_iln (pc := 20) C d_R_field_20 rfl ?_
  refine sg_ic (pc := 21) (v := 0) C d_R_field_21 (by decide) ?_
  refine sg_si (pc := 22) (v := 255) C d_R_field_22 (by decide) ?_
  refine sm_callS (pc := 25) (As := [.int (nI a), .int (nI 0), .int (nI 255)]) C I (c_R_within1 l Ω (nI_nlt (Nat.zero_le _) (by omega)) (nI_nlt (by omega) (by decide))) cw_R_73 sw_R_within rfl (by decide) ⟨by decide, by decide⟩ rfl (Nat.le_of_ble_eq_true rfl) d_R_field_25 (sm_det_i ?_)
  refine sg_ifeq (pc := 28) (tgt := 51) C d_R_field_28 (by decide) (by omega) (fun h28 => absurd h28 (by decide)) (fun h28 => ?_)
  refine sg_iln (pc := 31) C d_R_field_31 rfl ?_
  refine sg_ic (pc := 32) (v := 0) C d_R_field_32 (by decide) ?_
  refine sg_si (pc := 33) (v := 255) C d_R_field_33 (by decide) ?_
  refine sm_callS (pc := 36) (As := [.int x, .int (nI 0), .int (nI 255)]) C I (c_R_within0 l Ω (sn_hi hx)) cw_R_73 sw_R_within rfl (by decide) ⟨by decide, by decide⟩ rfl (Nat.le_of_ble_eq_true rfl) d_R_field_36 (sm_det_i ?_)
  refine sg_ifeq (pc := 39) (tgt := 51) C d_R_field_39 (by decide) (by omega) (fun h39 => ?_) (fun h39 => absurd rfl h39)
  refine sg_aln (pc := 51) C d_R_field_51 rfl ?_
  refine sg_ic (pc := 52) (v := 2) C d_R_field_52 (by decide) ?_
  refine sm_callV (pc := 53) (As := [.int (nI 2)]) C I (c_R_fails l Ω) cw_R_81 iw_R_fails (C.1.2.2.2.2 _ (List.mem_cons_of_mem _ se_R_fails)) (by omega) rfl rfl rfl rfl (by decide) ⟨by decide, by decide⟩ rfl (Nat.le_of_ble_eq_true rfl) d_R_field_53 (sm_det_i ?_)
  exact sg_iret (pc := 56) C I rfl rfl d_R_field_56 ⟨rfl, sm_up_up, rfl⟩

set_option maxHeartbeats 4000000 in
set_option maxRecDepth 100000 in
theorem c_R_fieldX4 (l : Launch) (Ω : sm_Ω) {X : sm_X} {w : Nat → Nat → Nat} {b : Nat} (hb : b < 256) : sm_met l Ω y_R_field b_R_field 5 (some .int) 2 723 [.ref (Ω.2.1 + 703), .int (nI 0), .int (nI b), .int (nI 1)] X (sm_rf w) (sm_det (some (.int (nI 0))) (sm_up X 703 0 2) (sm_rf w)) := by
  refine sm_intro (own := RX7) (L := [some (.ref (Ω.2.1 + 703)), some (.int (nI 0)), some (.int (nI b)), some (.int (nI 1)), none]) (by decide) rfl (by simp [Value.category]) (Nat.le_of_ble_eq_true rfl) rfl ?_
  intro Γ C I
  refine sg_aln (pc := 0) C d_R_field_0 rfl ?_
  refine sg_ic (pc := 1) (v := 0) C d_R_field_1 (by decide) ?_
  refine sg_puti (pc := 2) C pw_R_70 (by omega) rfl rfl rfl rfl d_R_field_2 ?_
  refine sg_iln (pc := 5) C d_R_field_5 rfl ?_
  refine sg_ic (pc := 6) (v := 0) C d_R_field_6 (by decide) ?_
  refine sg_ic (pc := 7) (v := 1) C d_R_field_7 (by decide) ?_
  refine sm_callS (pc := 8) (As := [.int (nI 1), .int (nI 0), .int (nI 1)]) C I (c_R_within1 l Ω (nI_nlt (Nat.zero_le _) (by omega)) (nI_nlt (by omega) (by decide))) cw_R_73 sw_R_within rfl (by decide) ⟨by decide, by decide⟩ rfl (Nat.le_of_ble_eq_true rfl) d_R_field_8 (sm_det_i ?_)
  refine sg_ifne (pc := 11) (tgt := 20) C d_R_field_11 (by decide) (by omega) (fun h11 => ?_) (fun h11 => absurd h11 (by decide))
  refine sg_iln (pc := 20) C d_R_field_20 rfl ?_
  refine sg_ic (pc := 21) (v := 0) C d_R_field_21 (by decide) ?_
  refine sg_si (pc := 22) (v := 255) C d_R_field_22 (by decide) ?_
  refine sm_callS (pc := 25) (As := [.int (nI 0), .int (nI 0), .int (nI 255)]) C I (c_R_within1 l Ω (nI_nlt (Nat.zero_le _) (by omega)) (nI_nlt (by omega) (by decide))) cw_R_73 sw_R_within rfl (by decide) ⟨by decide, by decide⟩ rfl (Nat.le_of_ble_eq_true rfl) d_R_field_25 (sm_det_i ?_)
  refine sg_ifeq (pc := 28) (tgt := 51) C d_R_field_28 (by decide) (by omega) (fun h28 => absurd h28 (by decide)) (fun h28 => ?_)
  refine sg_iln (pc := 31) C d_R_field_31 rfl ?_
  refine sg_ic (pc := 32) (v := 0) C d_R_field_32 (by decide) ?_
  refine sg_si (pc := 33) (v := 255) C d_R_field_33 (by decide) ?_
  refine sm_callS (pc := 36) (As := [.int (nI b), .int (nI 0), .int (nI 255)]) C I (c_R_within1 l Ω (nI_nlt (Nat.zero_le _) (by omega)) (nI_nlt (by omega) (by decide))) cw_R_73 sw_R_within rfl (by decide) ⟨by decide, by decide⟩ rfl (Nat.le_of_ble_eq_true rfl) d_R_field_36 (sm_det_i ?_)
  refine sg_ifeq (pc := 39) (tgt := 51) C d_R_field_39 (by decide) (by omega) (fun h39 => absurd h39 (by decide)) (fun h39 => ?_)
  refine sg_iln (pc := 42) C d_R_field_42 rfl ?_
  refine sg_ic (pc := 43) (v := 1) C d_R_field_43 (by decide) ?_
  refine sg_icne (pc := 44) (tgt := 57) C d_R_field_44 (by decide) (by omega) (by omega) (fun h44 => absurd rfl h44) (fun h44 => ?_)
  refine sg_iln (pc := 47) C d_R_field_47 rfl ?_
  refine sg_ifne (pc := 48) (tgt := 57) C d_R_field_48 (by decide) (by omega) (fun h48 => absurd rfl h48) (fun h48 => ?_)
  refine sg_aln (pc := 51) C d_R_field_51 rfl ?_
  refine sg_ic (pc := 52) (v := 2) C d_R_field_52 (by decide) ?_
  refine sm_callV (pc := 53) (As := [.int (nI 2)]) C I (c_R_fails l Ω) cw_R_81 iw_R_fails (C.1.2.2.2.2 _ (List.mem_cons_of_mem _ se_R_fails)) (by omega) rfl rfl rfl rfl (by decide) ⟨by decide, by decide⟩ rfl (Nat.le_of_ble_eq_true rfl) d_R_field_53 (sm_det_i ?_)
  exact sg_iret (pc := 56) C I rfl rfl d_R_field_56 ⟨rfl, sm_up_up, rfl⟩

set_option maxHeartbeats 4000000 in
set_option maxRecDepth 100000 in
theorem c_R_field0 (l : Launch) (Ω : sm_Ω) {X : sm_X} {w : Nat → Nat → Nat} {a b : Nat} (ha : a < 256) (hb : b < 256) : sm_met l Ω y_R_field b_R_field 5 (some .int) 2 723 [.ref (Ω.2.1 + 703), .int (nI a), .int (nI b), .int (nI 0)] X (sm_rf w) (sm_det (some (.int (nI (gf_t a b)))) (sm_up X 703 0 0) (sm_rf w)) := by
  refine sm_intro (own := RX7) (L := [some (.ref (Ω.2.1 + 703)), some (.int (nI a)), some (.int (nI b)), some (.int (nI 0)), none]) (by decide) rfl (by simp [Value.category]) (Nat.le_of_ble_eq_true rfl) rfl ?_
  intro Γ C I
  refine sg_aln (pc := 0) C d_R_field_0 rfl ?_
  refine sg_ic (pc := 1) (v := 0) C d_R_field_1 (by decide) ?_
  refine sg_puti (pc := 2) C pw_R_70 (by omega) rfl rfl rfl rfl d_R_field_2 ?_
  refine sg_iln (pc := 5) C d_R_field_5 rfl ?_
  refine sg_ic (pc := 6) (v := 0) C d_R_field_6 (by decide) ?_
  refine sg_ic (pc := 7) (v := 1) C d_R_field_7 (by decide) ?_
  refine sm_callS (pc := 8) (As := [.int (nI 0), .int (nI 0), .int (nI 1)]) C I (c_R_within1 l Ω (nI_nlt (Nat.zero_le _) (by omega)) (nI_nlt (by omega) (by decide))) cw_R_73 sw_R_within rfl (by decide) ⟨by decide, by decide⟩ rfl (Nat.le_of_ble_eq_true rfl) d_R_field_8 (sm_det_i ?_)
  refine sg_ifne (pc := 11) (tgt := 20) C d_R_field_11 (by decide) (by omega) (fun h11 => ?_) (fun h11 => absurd h11 (by decide))
  refine sg_iln (pc := 20) C d_R_field_20 rfl ?_
  refine sg_ic (pc := 21) (v := 0) C d_R_field_21 (by decide) ?_
  refine sg_si (pc := 22) (v := 255) C d_R_field_22 (by decide) ?_
  refine sm_callS (pc := 25) (As := [.int (nI a), .int (nI 0), .int (nI 255)]) C I (c_R_within1 l Ω (nI_nlt (Nat.zero_le _) (by omega)) (nI_nlt (by omega) (by decide))) cw_R_73 sw_R_within rfl (by decide) ⟨by decide, by decide⟩ rfl (Nat.le_of_ble_eq_true rfl) d_R_field_25 (sm_det_i ?_)
  refine sg_ifeq (pc := 28) (tgt := 51) C d_R_field_28 (by decide) (by omega) (fun h28 => absurd h28 (by decide)) (fun h28 => ?_)
  refine sg_iln (pc := 31) C d_R_field_31 rfl ?_
  refine sg_ic (pc := 32) (v := 0) C d_R_field_32 (by decide) ?_
  refine sg_si (pc := 33) (v := 255) C d_R_field_33 (by decide) ?_
  refine sm_callS (pc := 36) (As := [.int (nI b), .int (nI 0), .int (nI 255)]) C I (c_R_within1 l Ω (nI_nlt (Nat.zero_le _) (by omega)) (nI_nlt (by omega) (by decide))) cw_R_73 sw_R_within rfl (by decide) ⟨by decide, by decide⟩ rfl (Nat.le_of_ble_eq_true rfl) d_R_field_36 (sm_det_i ?_)
  refine sg_ifeq (pc := 39) (tgt := 51) C d_R_field_39 (by decide) (by omega) (fun h39 => absurd h39 (by decide)) (fun h39 => ?_)
  refine sg_iln (pc := 42) C d_R_field_42 rfl ?_
  refine sg_ic (pc := 43) (v := 1) C d_R_field_43 (by decide) ?_
  refine sg_icne (pc := 44) (tgt := 57) C d_R_field_44 (by decide) (by omega) (by omega) (fun h44 => ?_) (fun h44 => absurd h44 (by decide))
  refine sg_iln (pc := 57) C d_R_field_57 rfl ?_
  refine sg_ifne (pc := 58) (tgt := 67) C d_R_field_58 (by decide) (by omega) (fun h58 => absurd rfl h58) (fun h58 => ?_)
  refine sg_iln (pc := 61) C d_R_field_61 rfl ?_
  refine sg_iln (pc := 62) C d_R_field_62 rfl ?_
  refine sm_callS (pc := 63) (As := [.int (nI a), .int (nI b)]) C I (c_R_times l Ω ha hb) cw_R_77 sw_R_times rfl (by decide) ⟨by decide, by decide⟩ rfl (Nat.le_of_ble_eq_true rfl) d_R_field_63 (sm_det_i ?_)
  exact sg_iret (pc := 66) C I rfl rfl d_R_field_66 ⟨rfl, rfl, rfl⟩

set_option maxHeartbeats 4000000 in
set_option maxRecDepth 100000 in
theorem c_R_field1 (l : Launch) (Ω : sm_Ω) {X : sm_X} {w : Nat → Nat → Nat} {a b : Nat} (ha : a < 256) (hb : b < 256) (h0 : a ≠ 0) : sm_met l Ω y_R_field b_R_field 5 (some .int) 2 723 [.ref (Ω.2.1 + 703), .int (nI a), .int (nI b), .int (nI 1)] X (sm_rf w) (sm_det (some (.int (nI (gf_d b a)))) (sm_up X 703 0 0) (sm_rf w)) := by
  refine sm_intro (own := RX7) (L := [some (.ref (Ω.2.1 + 703)), some (.int (nI a)), some (.int (nI b)), some (.int (nI 1)), none]) (by decide) rfl (by simp [Value.category]) (Nat.le_of_ble_eq_true rfl) rfl ?_
  intro Γ C I
  have hdl := gf_d_lt b a
  refine sg_aln (pc := 0) C d_R_field_0 rfl ?_
  refine sg_ic (pc := 1) (v := 0) C d_R_field_1 (by decide) ?_
  refine sg_puti (pc := 2) C pw_R_70 (by omega) rfl rfl rfl rfl d_R_field_2 ?_
  refine sg_iln (pc := 5) C d_R_field_5 rfl ?_
  refine sg_ic (pc := 6) (v := 0) C d_R_field_6 (by decide) ?_
  refine sg_ic (pc := 7) (v := 1) C d_R_field_7 (by decide) ?_
  refine sm_callS (pc := 8) (As := [.int (nI 1), .int (nI 0), .int (nI 1)]) C I (c_R_within1 l Ω (nI_nlt (Nat.zero_le _) (by omega)) (nI_nlt (by omega) (by decide))) cw_R_73 sw_R_within rfl (by decide) ⟨by decide, by decide⟩ rfl (Nat.le_of_ble_eq_true rfl) d_R_field_8 (sm_det_i ?_)
  refine sg_ifne (pc := 11) (tgt := 20) C d_R_field_11 (by decide) (by omega) (fun h11 => ?_) (fun h11 => absurd h11 (by decide))
  refine sg_iln (pc := 20) C d_R_field_20 rfl ?_
  refine sg_ic (pc := 21) (v := 0) C d_R_field_21 (by decide) ?_
  refine sg_si (pc := 22) (v := 255) C d_R_field_22 (by decide) ?_
  refine sm_callS (pc := 25) (As := [.int (nI a), .int (nI 0), .int (nI 255)]) C I (c_R_within1 l Ω (nI_nlt (Nat.zero_le _) (by omega)) (nI_nlt (by omega) (by decide))) cw_R_73 sw_R_within rfl (by decide) ⟨by decide, by decide⟩ rfl (Nat.le_of_ble_eq_true rfl) d_R_field_25 (sm_det_i ?_)
  refine sg_ifeq (pc := 28) (tgt := 51) C d_R_field_28 (by decide) (by omega) (fun h28 => absurd h28 (by decide)) (fun h28 => ?_)
  refine sg_iln (pc := 31) C d_R_field_31 rfl ?_
  refine sg_ic (pc := 32) (v := 0) C d_R_field_32 (by decide) ?_
  refine sg_si (pc := 33) (v := 255) C d_R_field_33 (by decide) ?_
  refine sm_callS (pc := 36) (As := [.int (nI b), .int (nI 0), .int (nI 255)]) C I (c_R_within1 l Ω (nI_nlt (Nat.zero_le _) (by omega)) (nI_nlt (by omega) (by decide))) cw_R_73 sw_R_within rfl (by decide) ⟨by decide, by decide⟩ rfl (Nat.le_of_ble_eq_true rfl) d_R_field_36 (sm_det_i ?_)
  refine sg_ifeq (pc := 39) (tgt := 51) C d_R_field_39 (by decide) (by omega) (fun h39 => absurd h39 (by decide)) (fun h39 => ?_)
  refine sg_iln (pc := 42) C d_R_field_42 rfl ?_
  refine sg_ic (pc := 43) (v := 1) C d_R_field_43 (by decide) ?_
  refine sg_icne (pc := 44) (tgt := 57) C d_R_field_44 (by decide) (by omega) (by omega) (fun h44 => absurd rfl h44) (fun h44 => ?_)
  refine sg_iln (pc := 47) C d_R_field_47 rfl ?_
  refine sg_ifne (pc := 48) (tgt := 57) C d_R_field_48 (by decide) (by omega) (fun h48 => ?_) (fun h48 => absurd h48 h0)
  refine sg_iln (pc := 57) C d_R_field_57 rfl ?_
  refine sg_ifne (pc := 58) (tgt := 67) C d_R_field_58 (by decide) (by omega) (fun h58 => ?_) (fun h58 => absurd h58 (by decide))
  refine sg_ic (pc := 67) (v := 0) C d_R_field_67 (by decide) ?_
  refine sg_is4 (pc := 68) C d_R_field_68 ?_
  have loop : ∀ t v, v + t = gf_d b a → sm_G Γ Ω 723 0 0 70 [some (.ref (Ω.2.1 + 703)), some (.int (nI a)), some (.int (nI b)), some (.int (nI 1)), some (.int (nI v))] [] (sm_up X 703 0 0) (sm_rf w) := by
    intro t
    induction t with
    | zero =>
      intro v hv
      have hvl : v < 256 := by omega
      have hz : gf_t a v = b := by rw [show v = gf_d b a by omega]; exact gf_t_d ha h0 hb
      have hl := gf_t_lt a v
      refine sg_iln (pc := 70) C d_R_field_70 rfl ?_
      refine sg_il (pc := 71) C d_R_field_71 rfl ?_
      refine sm_callS (pc := 73) (As := [.int (nI a), .int (nI v)]) C I (c_R_times l Ω ha hvl) cw_R_77 sw_R_times rfl (by decide) ⟨by decide, by decide⟩ rfl (Nat.le_of_ble_eq_true rfl) d_R_field_73 (sm_det_i ?_)
      refine sg_iln (pc := 76) C d_R_field_76 rfl ?_
      refine sg_iceq (pc := 77) (tgt := 86) C d_R_field_77 (by decide) (by omega) (by omega) (fun h77 => ?_) (fun h77 => absurd hz h77)
      refine sg_il (pc := 86) C d_R_field_86 rfl ?_
      exact sg_iret (pc := 88) C I rfl rfl d_R_field_88 ⟨by rw [show v = gf_d b a by omega], rfl, rfl⟩
    | succ t ih =>
      intro v hv
      have hvl : v < 256 := by omega
      have hl := gf_t_lt a v
      refine sg_iln (pc := 70) C d_R_field_70 rfl ?_
      refine sg_il (pc := 71) C d_R_field_71 rfl ?_
      refine sm_callS (pc := 73) (As := [.int (nI a), .int (nI v)]) C I (c_R_times l Ω ha hvl) cw_R_77 sw_R_times rfl (by decide) ⟨by decide, by decide⟩ rfl (Nat.le_of_ble_eq_true rfl) d_R_field_73 (sm_det_i ?_)
      refine sg_iln (pc := 76) C d_R_field_76 rfl ?_
      refine sg_iceq (pc := 77) (tgt := 86) C d_R_field_77 (by decide) (by omega) (by omega) (fun h77 => absurd (gf_cancel ha h0 hvl hdl (h77.trans (gf_t_d ha h0 hb).symm)) (by omega)) (fun h77 => ?_)
      refine sg_inc4 (pc := 80) (n := 1) C d_R_field_80 (by decide) ?_
      refine sg_goto (pc := 83) (tgt := 70) C d_R_field_83 (by decide) ?_
      exact ih (v + 1) (by omega)
  exact loop (gf_d b a) 0 (by omega)

set_option maxHeartbeats 4000000 in
set_option maxRecDepth 100000 in
theorem c_R_load (l : Launch) (Ω : sm_Ω) {X : sm_X} {w : Nat → Nat → Nat} {i N : Nat} (hi : i < 60) (hN : N < 2 ^ 32) : sm_met l Ω y_R_load b_R_load 4 none 2 723 [.ref (Ω.2.1 + 703), .int (nI i), .int (nI N)] X (sm_rf w) (sm_det none (sm_uf (sm_up X 703 0 0) 704 (blk (4 * i) (fun j => N / 2 ^ (24 - 8 * j) % 256) (X 704) 4)) (sm_rf w)) := by
  refine sm_intro (own := RX7) (L := [some (.ref (Ω.2.1 + 703)), some (.int (nI i)), some (.int (nI N)), none]) (by decide) rfl (by simp [Value.category]) (Nat.le_of_ble_eq_true rfl) rfl ?_
  intro Γ C I
  refine sg_aln (pc := 0) C d_R_load_0 rfl ?_
  refine sg_iln (pc := 1) C d_R_load_1 rfl ?_
  refine sg_ic (pc := 2) (v := 0) C d_R_load_2 (by decide) ?_
  refine sg_bi (pc := 3) (v := 59) C d_R_load_3 (by decide) ?_
  refine sm_callS (pc := 5) (As := [.int (nI i), .int (nI 0), .int (nI 59)]) C I (c_R_within1 l Ω (nI_nlt (Nat.zero_le _) (by omega)) (nI_nlt (by omega) (by decide))) cw_R_73 sw_R_within rfl (by decide) ⟨by decide, by decide⟩ rfl (Nat.le_of_ble_eq_true rfl) d_R_load_5 (sm_det_i ?_)
  refine sg_ifeq (pc := 8) (tgt := 15) C d_R_load_8 (by decide) (by omega) (fun h8 => absurd h8 (by decide)) (fun h8 => ?_)
  refine sg_ic (pc := 11) (v := 0) C d_R_load_11 (by decide) ?_
  refine sg_goto (pc := 12) (tgt := 16) C d_R_load_12 (by decide) ?_
  refine sg_puti (pc := 16) C pw_R_70 (by omega) rfl rfl rfl rfl d_R_load_16 ?_
  refine sg_ic (pc := 19) (v := 0) C d_R_load_19 (by decide) ?_
  refine sg_is3 (pc := 20) C d_R_load_20 ?_
  have loop : ∀ t k, k + t = 4 → sm_G Γ Ω 723 0 0 21 [some (.ref (Ω.2.1 + 703)), some (.int (nI i)), some (.int (nI N)), some (.int (nI k))] [] (sm_uf (sm_up X 703 0 0) 704 (blk (4 * i) (fun j => N / 2 ^ (24 - 8 * j) % 256) (X 704) k)) (sm_rf w) := by
    intro t
    induction t with
    | zero =>
      intro k hk
      refine sg_iln (pc := 21) C d_R_load_21 rfl ?_
      refine sg_ic (pc := 22) (v := 4) C d_R_load_22 (by decide) ?_
      refine sg_icge (pc := 23) (tgt := 62) C d_R_load_23 (by decide) (by omega) (by omega) (fun h23 => ?_) (fun h23 => absurd h23 (by omega))
      exact sg_vret (pc := 62) C I rfl d_R_load_62 ⟨rfl, by rw [show k = 4 by omega], rfl⟩
    | succ t ih =>
      intro k hk
      refine sg_iln (pc := 21) C d_R_load_21 rfl ?_
      refine sg_ic (pc := 22) (v := 4) C d_R_load_22 (by decide) ?_
      refine sg_icge (pc := 23) (tgt := 62) C d_R_load_23 (by decide) (by omega) (by omega) (fun h23 => absurd h23 (by omega)) (fun h23 => ?_)
      refine sg_aln (pc := 26) C d_R_load_26 rfl ?_
      refine sg_geti (pc := 27) C fw_R_70 (by omega) rfl rfl d_R_load_27 ?_
      rw [sm_uf_o (by decide), sm_up_s]
      refine sg_ifne (pc := 30) (tgt := 62) C d_R_load_30 (by decide) (by omega) (fun h30 => absurd rfl h30) (fun h30 => ?_)
      refine sg_aln (pc := 33) C d_R_load_33 rfl ?_
      refine sg_getr (pc := 34) C fw_R_7 (by omega) rfl rfl rfl d_R_load_34 ?_
      refine sg_ic (pc := 37) (v := 4) C d_R_load_37 (by decide) ?_
      refine sg_iln (pc := 38) C d_R_load_38 rfl ?_
      refine sg_mul (pc := 39) C d_R_load_39 ?_
      refine sg_iln (pc := 40) C d_R_load_40 rfl ?_
      refine sg_add (pc := 41) C d_R_load_41 ?_
      refine sg_iln (pc := 42) C d_R_load_42 rfl ?_
      refine sg_bi (pc := 43) (v := 24) C d_R_load_43 (by decide) ?_
      refine sg_bi (pc := 45) (v := 8) C d_R_load_45 (by decide) ?_
      refine sg_iln (pc := 47) C d_R_load_47 rfl ?_
      refine sg_mul (pc := 48) C d_R_load_48 ?_
      refine sg_sub (pc := 49) C d_R_load_49 (by omega) ?_
      refine sr_ishr (pc := 50) C d_R_load_50 rfl ?_
      refine sg_si (pc := 51) (v := 255) C d_R_load_51 (by decide) ?_
      refine sr_iand (pc := 54) C d_R_load_54 (sn_sar hN (by omega)) ?_
      refine sg_iast (pc := 55) (n := 240) C (by omega) rfl (by omega) (by decide) d_R_load_55 ?_
      rw [blk_up]
      refine sg_inc3 (pc := 56) (n := 1) C d_R_load_56 (by decide) ?_
      refine sg_goto (pc := 59) (tgt := 21) C d_R_load_59 (by decide) ?_
      exact ih (k + 1) (by omega)
  have h0 := loop 4 0 (by omega)
  rw [blk_0, show sm_uf (sm_up X 703 0 0) 704 (X 704) = (sm_up X 703 0 0) from (sm_uf_c (fun j => (sm_up_x (Or.inl (by decide))).symm)).trans sm_uf_self] at h0
  exact h0

set_option maxHeartbeats 4000000 in
set_option maxRecDepth 100000 in
theorem c_R_loadX (l : Launch) (Ω : sm_Ω) {X : sm_X} {w : Nat → Nat → Nat} {x z : Int32} (hx : x < 0 ∨ nI 60 ≤ x) : sm_met l Ω y_R_load b_R_load 4 none 2 723 [.ref (Ω.2.1 + 703), .int x, .int z] X (sm_rf w) (sm_det none (sm_up X 703 0 1) (sm_rf w)) := by
  refine sm_intro (own := RX7) (L := [some (.ref (Ω.2.1 + 703)), some (.int x), some (.int z), none]) (by decide) rfl (by simp [Value.category]) (Nat.le_of_ble_eq_true rfl) rfl ?_
  intro Γ C I
  refine sg_aln (pc := 0) C d_R_load_0 rfl ?_
  refine sg_iln (pc := 1) C d_R_load_1 rfl ?_
  refine sg_ic (pc := 2) (v := 0) C d_R_load_2 (by decide) ?_
  refine sg_bi (pc := 3) (v := 59) C d_R_load_3 (by decide) ?_
  refine sm_callS (pc := 5) (As := [.int x, .int (nI 0), .int (nI 59)]) C I (c_R_within0 l Ω (sn_ix (by decide) hx)) cw_R_73 sw_R_within rfl (by decide) ⟨by decide, by decide⟩ rfl (Nat.le_of_ble_eq_true rfl) d_R_load_5 (sm_det_i ?_)
  refine sg_ifeq (pc := 8) (tgt := 15) C d_R_load_8 (by decide) (by omega) (fun h8 => ?_) (fun h8 => absurd rfl h8)
  refine sg_ic (pc := 15) (v := 1) C d_R_load_15 (by decide) ?_
  refine sg_puti (pc := 16) C pw_R_70 (by omega) rfl rfl rfl rfl d_R_load_16 ?_
  refine sg_ic (pc := 19) (v := 0) C d_R_load_19 (by decide) ?_
  refine sg_is3 (pc := 20) C d_R_load_20 ?_
  refine sg_iln (pc := 21) C d_R_load_21 rfl ?_
  refine sg_ic (pc := 22) (v := 4) C d_R_load_22 (by decide) ?_
  refine sg_icge (pc := 23) (tgt := 62) C d_R_load_23 (by decide) (by omega) (by omega) (fun h23 => absurd h23 (by decide)) (fun h23 => ?_)
  refine sg_aln (pc := 26) C d_R_load_26 rfl ?_
  refine sg_geti (pc := 27) C fw_R_70 (by omega) rfl rfl d_R_load_27 ?_
  rw [sm_up_s]
  refine sg_ifne (pc := 30) (tgt := 62) C d_R_load_30 (by decide) (by omega) (fun h30 => ?_) (fun h30 => absurd h30 (by decide))
  exact sg_vret (pc := 62) C I rfl d_R_load_62 ⟨rfl, rfl, rfl⟩

set_option maxHeartbeats 4000000 in
set_option maxRecDepth 100000 in
theorem c_R_cut (l : Launch) (Ω : sm_Ω) {X : sm_X} {w : Nat → Nat → Nat} {q : Nat} (hq : q < 24) : sm_met l Ω y_R_cut b_R_cut 2 none 2 723 [.ref (Ω.2.1 + 703), .int (nI q)] X (sm_rf w) (sm_det none (sm_up (sm_up X 703 0 0) 703 4 q) (sm_rf w)) := by
  refine sm_intro (own := RX7) (L := [some (.ref (Ω.2.1 + 703)), some (.int (nI q))]) (by decide) rfl (by simp [Value.category]) (Nat.le_of_ble_eq_true rfl) rfl ?_
  intro Γ C I
  refine sg_aln (pc := 0) C d_R_cut_0 rfl ?_
  refine sg_iln (pc := 1) C d_R_cut_1 rfl ?_
  refine sg_ic (pc := 2) (v := 0) C d_R_cut_2 (by decide) ?_
  refine sg_bi (pc := 3) (v := 23) C d_R_cut_3 (by decide) ?_
  refine sm_callS (pc := 5) (As := [.int (nI q), .int (nI 0), .int (nI 23)]) C I (c_R_within1 l Ω (nI_nlt (Nat.zero_le _) (by omega)) (nI_nlt (by omega) (by decide))) cw_R_73 sw_R_within rfl (by decide) ⟨by decide, by decide⟩ rfl (Nat.le_of_ble_eq_true rfl) d_R_cut_5 (sm_det_i ?_)
  refine sg_ifeq (pc := 8) (tgt := 15) C d_R_cut_8 (by decide) (by omega) (fun h8 => absurd h8 (by decide)) (fun h8 => ?_)
  refine sg_ic (pc := 11) (v := 0) C d_R_cut_11 (by decide) ?_
  refine sg_goto (pc := 12) (tgt := 16) C d_R_cut_12 (by decide) ?_
  refine sg_puti (pc := 16) C pw_R_70 (by omega) rfl rfl rfl rfl d_R_cut_16 ?_
  refine sg_aln (pc := 19) C d_R_cut_19 rfl ?_
  refine sg_geti (pc := 20) C fw_R_70 (by omega) rfl rfl d_R_cut_20 ?_
  rw [sm_up_s]
  refine sg_ifne (pc := 23) (tgt := 31) C d_R_cut_23 (by decide) (by omega) (fun h23 => absurd rfl h23) (fun h23 => ?_)
  refine sg_aln (pc := 26) C d_R_cut_26 rfl ?_
  refine sg_iln (pc := 27) C d_R_cut_27 rfl ?_
  refine sg_puti (pc := 28) C pw_R_16 (by omega) rfl rfl rfl rfl d_R_cut_28 ?_
  exact sg_vret (pc := 31) C I rfl d_R_cut_31 ⟨rfl, rfl, rfl⟩

set_option maxHeartbeats 4000000 in
set_option maxRecDepth 100000 in
theorem c_R_cutX (l : Launch) (Ω : sm_Ω) {X : sm_X} {w : Nat → Nat → Nat} {x : Int32} (hx : x < 0 ∨ nI 24 ≤ x) : sm_met l Ω y_R_cut b_R_cut 2 none 2 723 [.ref (Ω.2.1 + 703), .int x] X (sm_rf w) (sm_det none (sm_up X 703 0 1) (sm_rf w)) := by
  refine sm_intro (own := RX7) (L := [some (.ref (Ω.2.1 + 703)), some (.int x)]) (by decide) rfl (by simp [Value.category]) (Nat.le_of_ble_eq_true rfl) rfl ?_
  intro Γ C I
  refine sg_aln (pc := 0) C d_R_cut_0 rfl ?_
  refine sg_iln (pc := 1) C d_R_cut_1 rfl ?_
  refine sg_ic (pc := 2) (v := 0) C d_R_cut_2 (by decide) ?_
  refine sg_bi (pc := 3) (v := 23) C d_R_cut_3 (by decide) ?_
  refine sm_callS (pc := 5) (As := [.int x, .int (nI 0), .int (nI 23)]) C I (c_R_within0 l Ω (sn_ix (by decide) hx)) cw_R_73 sw_R_within rfl (by decide) ⟨by decide, by decide⟩ rfl (Nat.le_of_ble_eq_true rfl) d_R_cut_5 (sm_det_i ?_)
  refine sg_ifeq (pc := 8) (tgt := 15) C d_R_cut_8 (by decide) (by omega) (fun h8 => ?_) (fun h8 => absurd rfl h8)
  refine sg_ic (pc := 15) (v := 1) C d_R_cut_15 (by decide) ?_
  refine sg_puti (pc := 16) C pw_R_70 (by omega) rfl rfl rfl rfl d_R_cut_16 ?_
  refine sg_aln (pc := 19) C d_R_cut_19 rfl ?_
  refine sg_geti (pc := 20) C fw_R_70 (by omega) rfl rfl d_R_cut_20 ?_
  rw [sm_up_s]
  refine sg_ifne (pc := 23) (tgt := 31) C d_R_cut_23 (by decide) (by omega) (fun h23 => ?_) (fun h23 => absurd h23 (by decide))
  exact sg_vret (pc := 31) C I rfl d_R_cut_31 ⟨rfl, rfl, rfl⟩

set_option maxHeartbeats 4000000 in
set_option maxRecDepth 100000 in
theorem c_R_out (l : Launch) (Ω : sm_Ω) {X : sm_X} {w : Nat → Nat → Nat} {i : Nat} (hi : i < X 703 2) (hr : X 703 2 ≤ 240) : sm_met l Ω y_R_out b_R_out 2 (some .int) 2 723 [.ref (Ω.2.1 + 703), .int (nI i)] X (sm_rf w) (sm_det (some (.int (nI (X 705 i)))) (sm_up X 703 0 0) (sm_rf w)) := by
  refine sm_intro (own := RX7) (L := [some (.ref (Ω.2.1 + 703)), some (.int (nI i))]) (by decide) rfl (by simp [Value.category]) (Nat.le_of_ble_eq_true rfl) rfl ?_
  intro Γ C I
  refine sg_aln (pc := 0) C d_R_out_0 rfl ?_
  refine sg_ic (pc := 1) (v := 0) C d_R_out_1 (by decide) ?_
  refine sg_puti (pc := 2) C pw_R_70 (by omega) rfl rfl rfl rfl d_R_out_2 ?_
  refine sg_iln (pc := 5) C d_R_out_5 rfl ?_
  refine sg_ic (pc := 6) (v := 0) C d_R_out_6 (by decide) ?_
  refine sg_aln (pc := 7) C d_R_out_7 rfl ?_
  refine sg_geti (pc := 8) C fw_R_111 (by omega) rfl rfl d_R_out_8 ?_
  rw [sm_up_x (Or.inr (by decide))]
  refine sg_ic (pc := 11) (v := 1) C d_R_out_11 (by decide) ?_
  refine sg_sub (pc := 12) C d_R_out_12 (by omega) ?_
  refine sm_callS (pc := 13) (As := [.int (nI i), .int (nI 0), .int (nI (X 703 2 - 1))]) C I (c_R_within1 l Ω (nI_nlt (Nat.zero_le _) (by omega)) (nI_nlt (by omega) (by omega))) cw_R_73 sw_R_within rfl (by decide) ⟨by decide, by decide⟩ rfl (Nat.le_of_ble_eq_true rfl) d_R_out_13 (sm_det_i ?_)
  refine sg_ifeq (pc := 16) (tgt := 28) C d_R_out_16 (by decide) (by omega) (fun h16 => absurd h16 (by decide)) (fun h16 => ?_)
  refine sg_aln (pc := 19) C d_R_out_19 rfl ?_
  refine sg_getr (pc := 20) C fw_R_13 (by omega) rfl rfl rfl d_R_out_20 ?_
  refine sg_iln (pc := 23) C d_R_out_23 rfl ?_
  refine sg_iald (pc := 24) (n := 240) C (by omega) rfl (by omega) (by decide) d_R_out_24 ?_
  rw [sm_up_x (Or.inl (by decide))]
  refine sg_goto (pc := 25) (tgt := 33) C d_R_out_25 (by decide) ?_
  exact sg_iret (pc := 33) C I rfl rfl d_R_out_33 ⟨rfl, rfl, rfl⟩

set_option maxHeartbeats 4000000 in
set_option maxRecDepth 100000 in
theorem c_R_outX (l : Launch) (Ω : sm_Ω) {X : sm_X} {w : Nat → Nat → Nat} {x : Int32} (hx : x < 0 ∨ nI (X 703 2) ≤ x) (hr : X 703 2 ≤ 240) : sm_met l Ω y_R_out b_R_out 2 (some .int) 2 723 [.ref (Ω.2.1 + 703), .int x] X (sm_rf w) (sm_det (some (.int (nI 0))) (sm_up X 703 0 1) (sm_rf w)) := by
  refine sm_intro (own := RX7) (L := [some (.ref (Ω.2.1 + 703)), some (.int x)]) (by decide) rfl (by simp [Value.category]) (Nat.le_of_ble_eq_true rfl) rfl ?_
  intro Γ C I
  refine sg_aln (pc := 0) C d_R_out_0 rfl ?_
  refine sg_ic (pc := 1) (v := 0) C d_R_out_1 (by decide) ?_
  refine sg_puti (pc := 2) C pw_R_70 (by omega) rfl rfl rfl rfl d_R_out_2 ?_
  refine sg_iln (pc := 5) C d_R_out_5 rfl ?_
  refine sg_ic (pc := 6) (v := 0) C d_R_out_6 (by decide) ?_
  refine sg_aln (pc := 7) C d_R_out_7 rfl ?_
  refine sg_geti (pc := 8) C fw_R_111 (by omega) rfl rfl d_R_out_8 ?_
  rw [sm_up_x (Or.inr (by decide))]
  refine sg_ic (pc := 11) (v := 1) C d_R_out_11 (by decide) ?_
  refine sr_isub (pc := 12) C d_R_out_12 rfl ?_
  refine sm_callS (pc := 13) (As := [.int x, .int (nI 0), .int (nI (X 703 2) - nI 1)]) C I (c_R_within0 l Ω (sn_r1 hr hx)) cw_R_73 sw_R_within rfl (by decide) ⟨by decide, by decide⟩ rfl (Nat.le_of_ble_eq_true rfl) d_R_out_13 (sm_det_i ?_)
  refine sg_ifeq (pc := 16) (tgt := 28) C d_R_out_16 (by decide) (by omega) (fun h16 => ?_) (fun h16 => absurd rfl h16)
  refine sg_aln (pc := 28) C d_R_out_28 rfl ?_
  refine sg_ic (pc := 29) (v := 1) C d_R_out_29 (by decide) ?_
  refine sm_callV (pc := 30) (As := [.int (nI 1)]) C I (c_R_fails l Ω) cw_R_81 iw_R_fails (C.1.2.2.2.2 _ (List.mem_cons_of_mem _ se_R_fails)) (by omega) rfl rfl rfl rfl (by decide) ⟨by decide, by decide⟩ rfl (Nat.le_of_ble_eq_true rfl) d_R_out_30 (sm_det_i ?_)
  exact sg_iret (pc := 33) C I rfl rfl d_R_out_33 ⟨rfl, sm_up_up, rfl⟩

set_option maxHeartbeats 4000000 in
set_option maxRecDepth 100000 in
theorem c_R_object (l : Launch) (Ω : sm_Ω) {X : sm_X} {w : Nat → Nat → Nat} (hf : rwf X) {o q : Nat} (ho : o < 12) (hq : q < 3) : sm_met l Ω y_R_object b_R_object 3 (some .int) 3 723 [.ref (Ω.2.1 + 703), .int (nI o), .int (nI q)] X (sm_rf w) (sm_det (some (.int (nI (if q = 0 then X 706 o else if q = 1 then X 707 o else X 710 o)))) (sm_up X 703 0 0) (sm_rf w)) := by
  refine sm_intro (own := RX7) (L := [some (.ref (Ω.2.1 + 703)), some (.int (nI o)), some (.int (nI q))]) (by decide) rfl (by simp [Value.category]) (Nat.le_of_ble_eq_true rfl) rfl ?_
  intro Γ C I
  have gi := hf.1 o ho
  refine sg_aln (pc := 0) C d_R_object_0 rfl ?_
  refine sg_ic (pc := 1) (v := 0) C d_R_object_1 (by decide) ?_
  refine sg_puti (pc := 2) C pw_R_70 (by omega) rfl rfl rfl rfl d_R_object_2 ?_
  refine sg_iln (pc := 5) C d_R_object_5 rfl ?_
  refine sm_callS (pc := 6) (As := [.int (nI o)]) C I (c_R_isObject1 l Ω (by omega)) cw_R_88 sw_R_isObject rfl (by decide) ⟨by decide, by decide⟩ rfl (Nat.le_of_ble_eq_true rfl) d_R_object_6 (sm_det_i ?_)
  refine sg_ifeq (pc := 9) (tgt := 21) C d_R_object_9 (by decide) (by omega) (fun h9 => absurd h9 (by decide)) (fun h9 => ?_)
  refine sg_iln (pc := 12) C d_R_object_12 rfl ?_
  refine sg_ic (pc := 13) (v := 0) C d_R_object_13 (by decide) ?_
  refine sg_ic (pc := 14) (v := 2) C d_R_object_14 (by decide) ?_
  refine sm_callS (pc := 15) (As := [.int (nI q), .int (nI 0), .int (nI 2)]) C I (c_R_within1 l Ω (nI_nlt (Nat.zero_le _) (by omega)) (nI_nlt (by omega) (by decide))) cw_R_73 sw_R_within rfl (by decide) ⟨by decide, by decide⟩ rfl (Nat.le_of_ble_eq_true rfl) d_R_object_15 (sm_det_i ?_)
  refine sg_ifne (pc := 18) (tgt := 27) C d_R_object_18 (by decide) (by omega) (fun h18 => ?_) (fun h18 => absurd h18 (by decide))
  refine sg_iln (pc := 27) C d_R_object_27 rfl ?_
  refine sg_ifne (pc := 28) (tgt := 40) C d_R_object_28 (by decide) (by omega) (fun h28 => ?_) (fun h28 => ?_)
  · refine sg_iln (pc := 40) C d_R_object_40 rfl ?_
    refine sg_ic (pc := 41) (v := 1) C d_R_object_41 (by decide) ?_
    refine sg_icne (pc := 42) (tgt := 54) C d_R_object_42 (by decide) (by omega) (by omega) (fun h42 => ?_) (fun h42 => ?_)
    · refine sg_aln (pc := 54) C d_R_object_54 rfl ?_
      refine sg_getr (pc := 55) C fw_R_32 (by omega) rfl rfl rfl d_R_object_55 ?_
      refine sg_iln (pc := 58) C d_R_object_58 rfl ?_
      refine sg_bald (pc := 59) (n := 12) C (by omega) rfl (by omega) (by decide) d_R_object_59 ?_
      rw [sm_up_x (Or.inl (by decide))]
      refine sg_ifeq (pc := 60) (tgt := 67) C d_R_object_60 (by decide) (by omega) (fun h60 => ?_) (fun h60 => ?_)
      · refine sg_ic (pc := 67) (v := 0) C d_R_object_67 (by decide) ?_
        exact sg_iret (pc := 68) C I rfl rfl d_R_object_68 ⟨by rw [if_neg h28, if_neg h42, h60], rfl, rfl⟩
      · refine sg_ic (pc := 63) (v := 1) C d_R_object_63 (by decide) ?_
        refine sg_goto (pc := 64) (tgt := 68) C d_R_object_64 (by decide) ?_
        exact sg_iret (pc := 68) C I rfl rfl d_R_object_68 ⟨by rw [if_neg h28, if_neg h42, show X 710 o = 1 by omega], rfl, rfl⟩
    · refine sg_aln (pc := 45) C d_R_object_45 rfl ?_
      refine sg_getr (pc := 46) C fw_R_23 (by omega) rfl rfl rfl d_R_object_46 ?_
      refine sg_iln (pc := 49) C d_R_object_49 rfl ?_
      refine sg_iald (pc := 50) (n := 12) C (by omega) rfl (by omega) (by decide) d_R_object_50 ?_
      rw [sm_up_x (Or.inl (by decide))]
      refine sg_goto (pc := 51) (tgt := 68) C d_R_object_51 (by decide) ?_
      exact sg_iret (pc := 68) C I rfl rfl d_R_object_68 ⟨by rw [if_neg h28, if_pos h42], rfl, rfl⟩
  · refine sg_aln (pc := 31) C d_R_object_31 rfl ?_
    refine sg_getr (pc := 32) C fw_R_20 (by omega) rfl rfl rfl d_R_object_32 ?_
    refine sg_iln (pc := 35) C d_R_object_35 rfl ?_
    refine sg_iald (pc := 36) (n := 12) C (by omega) rfl (by omega) (by decide) d_R_object_36 ?_
    rw [sm_up_x (Or.inl (by decide))]
    refine sg_goto (pc := 37) (tgt := 68) C d_R_object_37 (by decide) ?_
    exact sg_iret (pc := 68) C I rfl rfl d_R_object_68 ⟨by rw [if_pos h28], rfl, rfl⟩

set_option maxHeartbeats 4000000 in
set_option maxRecDepth 100000 in
theorem c_R_objectX1 (l : Launch) (Ω : sm_Ω) {X : sm_X} {w : Nat → Nat → Nat} {x z : Int32} (hx : x < 0 ∨ nI 12 ≤ x) : sm_met l Ω y_R_object b_R_object 3 (some .int) 3 723 [.ref (Ω.2.1 + 703), .int x, .int z] X (sm_rf w) (sm_det (some (.int (nI 0))) (sm_up X 703 0 1) (sm_rf w)) := by
  refine sm_intro (own := RX7) (L := [some (.ref (Ω.2.1 + 703)), some (.int x), some (.int z)]) (by decide) rfl (by simp [Value.category]) (Nat.le_of_ble_eq_true rfl) rfl ?_
  intro Γ C I
  refine sg_aln (pc := 0) C d_R_object_0 rfl ?_
  refine sg_ic (pc := 1) (v := 0) C d_R_object_1 (by decide) ?_
  refine sg_puti (pc := 2) C pw_R_70 (by omega) rfl rfl rfl rfl d_R_object_2 ?_
  refine sg_iln (pc := 5) C d_R_object_5 rfl ?_
  refine sm_callS (pc := 6) (As := [.int x]) C I (c_R_isObject0 l Ω hx) cw_R_88 sw_R_isObject rfl (by decide) ⟨by decide, by decide⟩ rfl (Nat.le_of_ble_eq_true rfl) d_R_object_6 (sm_det_i ?_)
  refine sg_ifeq (pc := 9) (tgt := 21) C d_R_object_9 (by decide) (by omega) (fun h9 => ?_) (fun h9 => absurd rfl h9)
  refine sg_aln (pc := 21) C d_R_object_21 rfl ?_
  refine sg_ic (pc := 22) (v := 1) C d_R_object_22 (by decide) ?_
  refine sm_callV (pc := 23) (As := [.int (nI 1)]) C I (c_R_fails l Ω) cw_R_81 iw_R_fails (C.1.2.2.2.2 _ (List.mem_cons_of_mem _ se_R_fails)) (by omega) rfl rfl rfl rfl (by decide) ⟨by decide, by decide⟩ rfl (Nat.le_of_ble_eq_true rfl) d_R_object_23 (sm_det_i ?_)
  exact sg_iret (pc := 26) C I rfl rfl d_R_object_26 ⟨rfl, sm_up_up, rfl⟩

set_option maxHeartbeats 4000000 in
set_option maxRecDepth 100000 in
theorem c_R_objectX2 (l : Launch) (Ω : sm_Ω) {X : sm_X} {w : Nat → Nat → Nat} {o : Nat} {x : Int32} (ho : o < 12) (hx : x < 0 ∨ nI 3 ≤ x) : sm_met l Ω y_R_object b_R_object 3 (some .int) 3 723 [.ref (Ω.2.1 + 703), .int (nI o), .int x] X (sm_rf w) (sm_det (some (.int (nI 0))) (sm_up X 703 0 1) (sm_rf w)) := by
  refine sm_intro (own := RX7) (L := [some (.ref (Ω.2.1 + 703)), some (.int (nI o)), some (.int x)]) (by decide) rfl (by simp [Value.category]) (Nat.le_of_ble_eq_true rfl) rfl ?_
  intro Γ C I
  refine sg_aln (pc := 0) C d_R_object_0 rfl ?_
  refine sg_ic (pc := 1) (v := 0) C d_R_object_1 (by decide) ?_
  refine sg_puti (pc := 2) C pw_R_70 (by omega) rfl rfl rfl rfl d_R_object_2 ?_
  refine sg_iln (pc := 5) C d_R_object_5 rfl ?_
  refine sm_callS (pc := 6) (As := [.int (nI o)]) C I (c_R_isObject1 l Ω (by omega)) cw_R_88 sw_R_isObject rfl (by decide) ⟨by decide, by decide⟩ rfl (Nat.le_of_ble_eq_true rfl) d_R_object_6 (sm_det_i ?_)
  refine sg_ifeq (pc := 9) (tgt := 21) C d_R_object_9 (by decide) (by omega) (fun h9 => absurd h9 (by decide)) (fun h9 => ?_)
  refine sg_iln (pc := 12) C d_R_object_12 rfl ?_
  refine sg_ic (pc := 13) (v := 0) C d_R_object_13 (by decide) ?_
  refine sg_ic (pc := 14) (v := 2) C d_R_object_14 (by decide) ?_
  refine sm_callS (pc := 15) (As := [.int x, .int (nI 0), .int (nI 2)]) C I (c_R_within0 l Ω (sn_ix (by decide) hx)) cw_R_73 sw_R_within rfl (by decide) ⟨by decide, by decide⟩ rfl (Nat.le_of_ble_eq_true rfl) d_R_object_15 (sm_det_i ?_)
  refine sg_ifne (pc := 18) (tgt := 27) C d_R_object_18 (by decide) (by omega) (fun h18 => absurd rfl h18) (fun h18 => ?_)
  refine sg_aln (pc := 21) C d_R_object_21 rfl ?_
  refine sg_ic (pc := 22) (v := 1) C d_R_object_22 (by decide) ?_
  refine sm_callV (pc := 23) (As := [.int (nI 1)]) C I (c_R_fails l Ω) cw_R_81 iw_R_fails (C.1.2.2.2.2 _ (List.mem_cons_of_mem _ se_R_fails)) (by omega) rfl rfl rfl rfl (by decide) ⟨by decide, by decide⟩ rfl (Nat.le_of_ble_eq_true rfl) d_R_object_23 (sm_det_i ?_)
  exact sg_iret (pc := 26) C I rfl rfl d_R_object_26 ⟨rfl, sm_up_up, rfl⟩

set_option maxHeartbeats 4000000 in
set_option maxRecDepth 100000 in
theorem c_R_fail (l : Launch) (Ω : sm_Ω) {X : sm_X} {w : Nat → Nat → Nat} {n : Nat} (hn : n < 12) (hs : X 711 n = 0) : sm_met l Ω y_R_fail b_R_fail 2 none 3 723 [.ref (Ω.2.1 + 703), .int (nI n)] X (sm_rf w) (sm_det none (sm_up (sm_up X 703 0 0) 711 n 1) (sm_rf w)) := by
  refine sm_intro (own := RX7) (L := [some (.ref (Ω.2.1 + 703)), some (.int (nI n))]) (by decide) rfl (by simp [Value.category]) (Nat.le_of_ble_eq_true rfl) rfl ?_
  intro Γ C I
  refine sg_aln (pc := 0) C d_R_fail_0 rfl ?_
  refine sg_iln (pc := 1) C d_R_fail_1 rfl ?_
  refine sm_callS (pc := 2) (As := [.int (nI n)]) C I (c_R_isNode1 l Ω (by omega)) cw_R_114 sw_R_isNode rfl (by decide) ⟨by decide, by decide⟩ rfl (Nat.le_of_ble_eq_true rfl) d_R_fail_2 (sm_det_i ?_)
  refine sg_ifne (pc := 5) (tgt := 12) C d_R_fail_5 (by decide) (by omega) (fun h5 => ?_) (fun h5 => absurd h5 (by decide))
  refine sg_aln (pc := 12) C d_R_fail_12 rfl ?_
  refine sg_getr (pc := 13) C fw_R_36 (by omega) rfl rfl rfl d_R_fail_13 ?_
  refine sg_iln (pc := 16) C d_R_fail_16 rfl ?_
  refine sg_bald (pc := 17) (n := 12) C (by omega) rfl (by omega) (by decide) d_R_fail_17 ?_
  refine sg_ifeq (pc := 18) (tgt := 25) C d_R_fail_18 (by decide) (by omega) (fun h18 => ?_) (fun h18 => absurd hs h18)
  refine sg_ic (pc := 25) (v := 0) C d_R_fail_25 (by decide) ?_
  refine sg_puti (pc := 26) C pw_R_70 (by omega) rfl rfl rfl rfl d_R_fail_26 ?_
  refine sg_aln (pc := 29) C d_R_fail_29 rfl ?_
  refine sg_geti (pc := 30) C fw_R_70 (by omega) rfl rfl d_R_fail_30 ?_
  rw [sm_up_s]
  refine sg_ifne (pc := 33) (tgt := 43) C d_R_fail_33 (by decide) (by omega) (fun h33 => absurd rfl h33) (fun h33 => ?_)
  refine sg_aln (pc := 36) C d_R_fail_36 rfl ?_
  refine sg_getr (pc := 37) C fw_R_36 (by omega) rfl rfl rfl d_R_fail_37 ?_
  refine sg_iln (pc := 40) C d_R_fail_40 rfl ?_
  refine sg_ic (pc := 41) (v := 1) C d_R_fail_41 (by decide) ?_
  refine sg_bast (pc := 42) (n := 12) C (by omega) rfl (by omega) (by decide) (by omega) d_R_fail_42 ?_
  exact sg_vret (pc := 43) C I rfl d_R_fail_43 ⟨rfl, rfl, rfl⟩

set_option maxHeartbeats 4000000 in
set_option maxRecDepth 100000 in
theorem c_R_failX1 (l : Launch) (Ω : sm_Ω) {X : sm_X} {w : Nat → Nat → Nat} {x : Int32} (hx : x < 0 ∨ nI 12 ≤ x) : sm_met l Ω y_R_fail b_R_fail 2 none 3 723 [.ref (Ω.2.1 + 703), .int x] X (sm_rf w) (sm_det none (sm_up X 703 0 1) (sm_rf w)) := by
  refine sm_intro (own := RX7) (L := [some (.ref (Ω.2.1 + 703)), some (.int x)]) (by decide) rfl (by simp [Value.category]) (Nat.le_of_ble_eq_true rfl) rfl ?_
  intro Γ C I
  refine sg_aln (pc := 0) C d_R_fail_0 rfl ?_
  refine sg_iln (pc := 1) C d_R_fail_1 rfl ?_
  refine sm_callS (pc := 2) (As := [.int x]) C I (c_R_isNode0 l Ω hx) cw_R_114 sw_R_isNode rfl (by decide) ⟨by decide, by decide⟩ rfl (Nat.le_of_ble_eq_true rfl) d_R_fail_2 (sm_det_i ?_)
  refine sg_ifne (pc := 5) (tgt := 12) C d_R_fail_5 (by decide) (by omega) (fun h5 => absurd rfl h5) (fun h5 => ?_)
  refine sg_ic (pc := 8) (v := 1) C d_R_fail_8 (by decide) ?_
  refine sg_goto (pc := 9) (tgt := 26) C d_R_fail_9 (by decide) ?_
  refine sg_puti (pc := 26) C pw_R_70 (by omega) rfl rfl rfl rfl d_R_fail_26 ?_
  refine sg_aln (pc := 29) C d_R_fail_29 rfl ?_
  refine sg_geti (pc := 30) C fw_R_70 (by omega) rfl rfl d_R_fail_30 ?_
  rw [sm_up_s]
  refine sg_ifne (pc := 33) (tgt := 43) C d_R_fail_33 (by decide) (by omega) (fun h33 => ?_) (fun h33 => absurd h33 (by decide))
  exact sg_vret (pc := 43) C I rfl d_R_fail_43 ⟨rfl, rfl, rfl⟩

set_option maxHeartbeats 4000000 in
set_option maxRecDepth 100000 in
theorem c_R_failX2 (l : Launch) (Ω : sm_Ω) {X : sm_X} {w : Nat → Nat → Nat} (hf : rwf X) {n : Nat} (hn : n < 12) (hs : X 711 n ≠ 0) : sm_met l Ω y_R_fail b_R_fail 2 none 3 723 [.ref (Ω.2.1 + 703), .int (nI n)] X (sm_rf w) (sm_det none (sm_up X 703 0 2) (sm_rf w)) := by
  refine sm_intro (own := RX7) (L := [some (.ref (Ω.2.1 + 703)), some (.int (nI n))]) (by decide) rfl (by simp [Value.category]) (Nat.le_of_ble_eq_true rfl) rfl ?_
  intro Γ C I
  have gi := hf.1 n hn
  refine sg_aln (pc := 0) C d_R_fail_0 rfl ?_
  refine sg_iln (pc := 1) C d_R_fail_1 rfl ?_
  refine sm_callS (pc := 2) (As := [.int (nI n)]) C I (c_R_isNode1 l Ω (by omega)) cw_R_114 sw_R_isNode rfl (by decide) ⟨by decide, by decide⟩ rfl (Nat.le_of_ble_eq_true rfl) d_R_fail_2 (sm_det_i ?_)
  refine sg_ifne (pc := 5) (tgt := 12) C d_R_fail_5 (by decide) (by omega) (fun h5 => ?_) (fun h5 => absurd h5 (by decide))
  refine sg_aln (pc := 12) C d_R_fail_12 rfl ?_
  refine sg_getr (pc := 13) C fw_R_36 (by omega) rfl rfl rfl d_R_fail_13 ?_
  refine sg_iln (pc := 16) C d_R_fail_16 rfl ?_
  refine sg_bald (pc := 17) (n := 12) C (by omega) rfl (by omega) (by decide) d_R_fail_17 ?_
  refine sg_ifeq (pc := 18) (tgt := 25) C d_R_fail_18 (by decide) (by omega) (fun h18 => absurd h18 hs) (fun h18 => ?_)
  refine sg_ic (pc := 21) (v := 2) C d_R_fail_21 (by decide) ?_
  refine sg_goto (pc := 22) (tgt := 26) C d_R_fail_22 (by decide) ?_
  refine sg_puti (pc := 26) C pw_R_70 (by omega) rfl rfl rfl rfl d_R_fail_26 ?_
  refine sg_aln (pc := 29) C d_R_fail_29 rfl ?_
  refine sg_geti (pc := 30) C fw_R_70 (by omega) rfl rfl d_R_fail_30 ?_
  rw [sm_up_s]
  refine sg_ifne (pc := 33) (tgt := 43) C d_R_fail_33 (by decide) (by omega) (fun h33 => ?_) (fun h33 => absurd h33 (by decide))
  exact sg_vret (pc := 43) C I rfl d_R_fail_43 ⟨rfl, rfl, rfl⟩

def rbk (X : sm_X) (n e : Nat) : Nat → sm_X
  | 0 => sm_up (sm_up X 703 0 0) 711 n 0
  | k + 1 => if e = 0 then sm_up (rbk X n e k) 716 (12 * n + k) 0 else sm_up (sm_up (sm_up (rbk X n e k) 716 (12 * n + k) 0) 713 (12 * n + k) 0) 714 (12 * n + k) 0

set_option maxHeartbeats 4000000 in
set_option maxRecDepth 100000 in
theorem c_R_back0 (l : Launch) (Ω : sm_Ω) {X : sm_X} {w : Nat → Nat → Nat} (hf : rwf X) {n : Nat} (hn : n < 12) (hs : X 711 n ≠ 0) : sm_met l Ω y_R_back b_R_back 4 none 3 723 [.ref (Ω.2.1 + 703), .int (nI n), .int (nI 0)] X (sm_rf w) (sm_det none (rbk X n 0 12) (sm_rf w)) := by
  refine sm_intro (own := RX7) (L := [some (.ref (Ω.2.1 + 703)), some (.int (nI n)), some (.int (nI 0)), none]) (by decide) rfl (by simp [Value.category]) (Nat.le_of_ble_eq_true rfl) rfl ?_
  intro Γ C I
  have gi := hf.1 n hn
  refine sg_aln (pc := 0) C d_R_back_0 rfl ?_
  refine sg_iln (pc := 1) C d_R_back_1 rfl ?_
  refine sm_callS (pc := 2) (As := [.int (nI n)]) C I (c_R_isNode1 l Ω (by omega)) cw_R_114 sw_R_isNode rfl (by decide) ⟨by decide, by decide⟩ rfl (Nat.le_of_ble_eq_true rfl) d_R_back_2 (sm_det_i ?_)
  refine sg_ifne (pc := 5) (tgt := 12) C d_R_back_5 (by decide) (by omega) (fun h5 => ?_) (fun h5 => absurd h5 (by decide))
  refine sg_aln (pc := 12) C d_R_back_12 rfl ?_
  refine sg_getr (pc := 13) C fw_R_36 (by omega) rfl rfl rfl d_R_back_13 ?_
  refine sg_iln (pc := 16) C d_R_back_16 rfl ?_
  refine sg_bald (pc := 17) (n := 12) C (by omega) rfl (by omega) (by decide) d_R_back_17 ?_
  refine sg_ifne (pc := 18) (tgt := 25) C d_R_back_18 (by decide) (by omega) (fun h18 => ?_) (fun h18 => absurd h18 hs)
  refine sg_ic (pc := 25) (v := 0) C d_R_back_25 (by decide) ?_
  refine sg_puti (pc := 26) C pw_R_70 (by omega) rfl rfl rfl rfl d_R_back_26 ?_
  refine sg_aln (pc := 29) C d_R_back_29 rfl ?_
  refine sg_geti (pc := 30) C fw_R_70 (by omega) rfl rfl d_R_back_30 ?_
  rw [sm_up_s]
  refine sg_ifle (pc := 33) (tgt := 37) C d_R_back_33 (by decide) (by omega) (fun h33 => ?_) (fun h33 => absurd h33 (by decide))
  refine sg_aln (pc := 37) C d_R_back_37 rfl ?_
  refine sg_getr (pc := 38) C fw_R_36 (by omega) rfl rfl rfl d_R_back_38 ?_
  refine sg_iln (pc := 41) C d_R_back_41 rfl ?_
  refine sg_ic (pc := 42) (v := 0) C d_R_back_42 (by decide) ?_
  refine sg_bast (pc := 43) (n := 12) C (by omega) rfl (by omega) (by decide) (by omega) d_R_back_43 ?_
  refine sg_ic (pc := 44) (v := 0) C d_R_back_44 (by decide) ?_
  refine sg_is3 (pc := 45) C d_R_back_45 ?_
  have loop : ∀ t k, k + t = 12 → sm_G Γ Ω 723 0 0 46 [some (.ref (Ω.2.1 + 703)), some (.int (nI n)), some (.int (nI 0)), some (.int (nI k))] [] (rbk X n 0 k) (sm_rf w) := by
    intro t
    induction t with
    | zero =>
      intro k hk
      refine sg_iln (pc := 46) C d_R_back_46 rfl ?_
      refine sg_bi (pc := 47) (v := 12) C d_R_back_47 (by decide) ?_
      refine sg_icge (pc := 49) (tgt := 95) C d_R_back_49 (by decide) (by omega) (by omega) (fun h49 => ?_) (fun h49 => absurd h49 (by omega))
      exact sg_vret (pc := 95) C I rfl d_R_back_95 ⟨rfl, by rw [show k = 12 by omega], rfl⟩
    | succ t ih =>
      intro k hk
      refine sg_iln (pc := 46) C d_R_back_46 rfl ?_
      refine sg_bi (pc := 47) (v := 12) C d_R_back_47 (by decide) ?_
      refine sg_icge (pc := 49) (tgt := 95) C d_R_back_49 (by decide) (by omega) (by omega) (fun h49 => absurd h49 (by omega)) (fun h49 => ?_)
      refine sg_aln (pc := 52) C d_R_back_52 rfl ?_
      refine sg_getr (pc := 53) C fw_R_52 (by omega) rfl rfl rfl d_R_back_53 ?_
      refine sg_iln (pc := 56) C d_R_back_56 rfl ?_
      refine sg_iln (pc := 57) C d_R_back_57 rfl ?_
      refine sm_callS (pc := 58) (As := [.int (nI n), .int (nI k)]) C I (c_R_at l Ω) cw_R_85 sw_R_at rfl (by decide) ⟨by decide, by decide⟩ rfl (Nat.le_of_ble_eq_true rfl) d_R_back_58 (sm_det_i ?_)
      refine sg_ic (pc := 61) (v := 0) C d_R_back_61 (by decide) ?_
      refine sg_iast (pc := 62) (n := 144) C (by omega) rfl (by omega) (by decide) d_R_back_62 ?_
      refine sg_iln (pc := 63) C d_R_back_63 rfl ?_
      refine sg_ifeq (pc := 64) (tgt := 89) C d_R_back_64 (by decide) (by omega) (fun h64 => ?_) (fun h64 => absurd rfl h64)
      refine sg_inc3 (pc := 89) (n := 1) C d_R_back_89 (by decide) ?_
      refine sg_goto (pc := 92) (tgt := 46) C d_R_back_92 (by decide) ?_
      exact ih (k + 1) (by omega)
  exact loop 12 0 (by omega)

set_option maxHeartbeats 4000000 in
set_option maxRecDepth 100000 in
theorem c_R_back1 (l : Launch) (Ω : sm_Ω) {X : sm_X} {w : Nat → Nat → Nat} (hf : rwf X) {n : Nat} (hn : n < 12) (hs : X 711 n ≠ 0) : sm_met l Ω y_R_back b_R_back 4 none 3 723 [.ref (Ω.2.1 + 703), .int (nI n), .int (nI 1)] X (sm_rf w) (sm_det none (rbk X n 1 12) (sm_rf w)) := by
  refine sm_intro (own := RX7) (L := [some (.ref (Ω.2.1 + 703)), some (.int (nI n)), some (.int (nI 1)), none]) (by decide) rfl (by simp [Value.category]) (Nat.le_of_ble_eq_true rfl) rfl ?_
  intro Γ C I
  have gi := hf.1 n hn
  refine sg_aln (pc := 0) C d_R_back_0 rfl ?_
  refine sg_iln (pc := 1) C d_R_back_1 rfl ?_
  refine sm_callS (pc := 2) (As := [.int (nI n)]) C I (c_R_isNode1 l Ω (by omega)) cw_R_114 sw_R_isNode rfl (by decide) ⟨by decide, by decide⟩ rfl (Nat.le_of_ble_eq_true rfl) d_R_back_2 (sm_det_i ?_)
  refine sg_ifne (pc := 5) (tgt := 12) C d_R_back_5 (by decide) (by omega) (fun h5 => ?_) (fun h5 => absurd h5 (by decide))
  refine sg_aln (pc := 12) C d_R_back_12 rfl ?_
  refine sg_getr (pc := 13) C fw_R_36 (by omega) rfl rfl rfl d_R_back_13 ?_
  refine sg_iln (pc := 16) C d_R_back_16 rfl ?_
  refine sg_bald (pc := 17) (n := 12) C (by omega) rfl (by omega) (by decide) d_R_back_17 ?_
  refine sg_ifne (pc := 18) (tgt := 25) C d_R_back_18 (by decide) (by omega) (fun h18 => ?_) (fun h18 => absurd h18 hs)
  refine sg_ic (pc := 25) (v := 0) C d_R_back_25 (by decide) ?_
  refine sg_puti (pc := 26) C pw_R_70 (by omega) rfl rfl rfl rfl d_R_back_26 ?_
  refine sg_aln (pc := 29) C d_R_back_29 rfl ?_
  refine sg_geti (pc := 30) C fw_R_70 (by omega) rfl rfl d_R_back_30 ?_
  rw [sm_up_s]
  refine sg_ifle (pc := 33) (tgt := 37) C d_R_back_33 (by decide) (by omega) (fun h33 => ?_) (fun h33 => absurd h33 (by decide))
  refine sg_aln (pc := 37) C d_R_back_37 rfl ?_
  refine sg_getr (pc := 38) C fw_R_36 (by omega) rfl rfl rfl d_R_back_38 ?_
  refine sg_iln (pc := 41) C d_R_back_41 rfl ?_
  refine sg_ic (pc := 42) (v := 0) C d_R_back_42 (by decide) ?_
  refine sg_bast (pc := 43) (n := 12) C (by omega) rfl (by omega) (by decide) (by omega) d_R_back_43 ?_
  refine sg_ic (pc := 44) (v := 0) C d_R_back_44 (by decide) ?_
  refine sg_is3 (pc := 45) C d_R_back_45 ?_
  have loop : ∀ t k, k + t = 12 → sm_G Γ Ω 723 0 0 46 [some (.ref (Ω.2.1 + 703)), some (.int (nI n)), some (.int (nI 1)), some (.int (nI k))] [] (rbk X n 1 k) (sm_rf w) := by
    intro t
    induction t with
    | zero =>
      intro k hk
      refine sg_iln (pc := 46) C d_R_back_46 rfl ?_
      refine sg_bi (pc := 47) (v := 12) C d_R_back_47 (by decide) ?_
      refine sg_icge (pc := 49) (tgt := 95) C d_R_back_49 (by decide) (by omega) (by omega) (fun h49 => ?_) (fun h49 => absurd h49 (by omega))
      exact sg_vret (pc := 95) C I rfl d_R_back_95 ⟨rfl, by rw [show k = 12 by omega], rfl⟩
    | succ t ih =>
      intro k hk
      refine sg_iln (pc := 46) C d_R_back_46 rfl ?_
      refine sg_bi (pc := 47) (v := 12) C d_R_back_47 (by decide) ?_
      refine sg_icge (pc := 49) (tgt := 95) C d_R_back_49 (by decide) (by omega) (by omega) (fun h49 => absurd h49 (by omega)) (fun h49 => ?_)
      refine sg_aln (pc := 52) C d_R_back_52 rfl ?_
      refine sg_getr (pc := 53) C fw_R_52 (by omega) rfl rfl rfl d_R_back_53 ?_
      refine sg_iln (pc := 56) C d_R_back_56 rfl ?_
      refine sg_iln (pc := 57) C d_R_back_57 rfl ?_
      refine sm_callS (pc := 58) (As := [.int (nI n), .int (nI k)]) C I (c_R_at l Ω) cw_R_85 sw_R_at rfl (by decide) ⟨by decide, by decide⟩ rfl (Nat.le_of_ble_eq_true rfl) d_R_back_58 (sm_det_i ?_)
      refine sg_ic (pc := 61) (v := 0) C d_R_back_61 (by decide) ?_
      refine sg_iast (pc := 62) (n := 144) C (by omega) rfl (by omega) (by decide) d_R_back_62 ?_
      refine sg_iln (pc := 63) C d_R_back_63 rfl ?_
      refine sg_ifeq (pc := 64) (tgt := 89) C d_R_back_64 (by decide) (by omega) (fun h64 => absurd h64 (by decide)) (fun h64 => ?_)
      refine sg_aln (pc := 67) C d_R_back_67 rfl ?_
      refine sg_getr (pc := 68) C fw_R_42 (by omega) rfl rfl rfl d_R_back_68 ?_
      refine sg_iln (pc := 71) C d_R_back_71 rfl ?_
      refine sg_iln (pc := 72) C d_R_back_72 rfl ?_
      refine sm_callS (pc := 73) (As := [.int (nI n), .int (nI k)]) C I (c_R_at l Ω) cw_R_85 sw_R_at rfl (by decide) ⟨by decide, by decide⟩ rfl (Nat.le_of_ble_eq_true rfl) d_R_back_73 (sm_det_i ?_)
      refine sg_ic (pc := 76) (v := 0) C d_R_back_76 (by decide) ?_
      refine sg_iast (pc := 77) (n := 144) C (by omega) rfl (by omega) (by decide) d_R_back_77 ?_
      refine sg_aln (pc := 78) C d_R_back_78 rfl ?_
      refine sg_getr (pc := 79) C fw_R_45 (by omega) rfl rfl rfl d_R_back_79 ?_
      refine sg_iln (pc := 82) C d_R_back_82 rfl ?_
      refine sg_iln (pc := 83) C d_R_back_83 rfl ?_
      refine sm_callS (pc := 84) (As := [.int (nI n), .int (nI k)]) C I (c_R_at l Ω) cw_R_85 sw_R_at rfl (by decide) ⟨by decide, by decide⟩ rfl (Nat.le_of_ble_eq_true rfl) d_R_back_84 (sm_det_i ?_)
      refine sg_ic (pc := 87) (v := 0) C d_R_back_87 (by decide) ?_
      refine sg_iast (pc := 88) (n := 144) C (by omega) rfl (by omega) (by decide) d_R_back_88 ?_
      refine sg_inc3 (pc := 89) (n := 1) C d_R_back_89 (by decide) ?_
      refine sg_goto (pc := 92) (tgt := 46) C d_R_back_92 (by decide) ?_
      exact ih (k + 1) (by omega)
  exact loop 12 0 (by omega)

set_option maxHeartbeats 4000000 in
set_option maxRecDepth 100000 in
theorem c_R_backX1 (l : Launch) (Ω : sm_Ω) {X : sm_X} {w : Nat → Nat → Nat} {x z : Int32} (hx : x < 0 ∨ nI 12 ≤ x) : sm_met l Ω y_R_back b_R_back 4 none 3 723 [.ref (Ω.2.1 + 703), .int x, .int z] X (sm_rf w) (sm_det none (sm_up X 703 0 1) (sm_rf w)) := by
  refine sm_intro (own := RX7) (L := [some (.ref (Ω.2.1 + 703)), some (.int x), some (.int z), none]) (by decide) rfl (by simp [Value.category]) (Nat.le_of_ble_eq_true rfl) rfl ?_
  intro Γ C I
  refine sg_aln (pc := 0) C d_R_back_0 rfl ?_
  refine sg_iln (pc := 1) C d_R_back_1 rfl ?_
  refine sm_callS (pc := 2) (As := [.int x]) C I (c_R_isNode0 l Ω hx) cw_R_114 sw_R_isNode rfl (by decide) ⟨by decide, by decide⟩ rfl (Nat.le_of_ble_eq_true rfl) d_R_back_2 (sm_det_i ?_)
  refine sg_ifne (pc := 5) (tgt := 12) C d_R_back_5 (by decide) (by omega) (fun h5 => absurd rfl h5) (fun h5 => ?_)
  refine sg_ic (pc := 8) (v := 1) C d_R_back_8 (by decide) ?_
  refine sg_goto (pc := 9) (tgt := 26) C d_R_back_9 (by decide) ?_
  refine sg_puti (pc := 26) C pw_R_70 (by omega) rfl rfl rfl rfl d_R_back_26 ?_
  refine sg_aln (pc := 29) C d_R_back_29 rfl ?_
  refine sg_geti (pc := 30) C fw_R_70 (by omega) rfl rfl d_R_back_30 ?_
  rw [sm_up_s]
  refine sg_ifle (pc := 33) (tgt := 37) C d_R_back_33 (by decide) (by omega) (fun h33 => absurd h33 (by decide)) (fun h33 => ?_)
  exact sg_vret (pc := 36) C I rfl d_R_back_36 ⟨rfl, rfl, rfl⟩

set_option maxHeartbeats 4000000 in
set_option maxRecDepth 100000 in
theorem c_R_backX2 (l : Launch) (Ω : sm_Ω) {X : sm_X} {w : Nat → Nat → Nat} {n : Nat} {z : Int32} (hn : n < 12) (hs : X 711 n = 0) : sm_met l Ω y_R_back b_R_back 4 none 3 723 [.ref (Ω.2.1 + 703), .int (nI n), .int z] X (sm_rf w) (sm_det none (sm_up X 703 0 2) (sm_rf w)) := by
  refine sm_intro (own := RX7) (L := [some (.ref (Ω.2.1 + 703)), some (.int (nI n)), some (.int z), none]) (by decide) rfl (by simp [Value.category]) (Nat.le_of_ble_eq_true rfl) rfl ?_
  intro Γ C I
  refine sg_aln (pc := 0) C d_R_back_0 rfl ?_
  refine sg_iln (pc := 1) C d_R_back_1 rfl ?_
  refine sm_callS (pc := 2) (As := [.int (nI n)]) C I (c_R_isNode1 l Ω (by omega)) cw_R_114 sw_R_isNode rfl (by decide) ⟨by decide, by decide⟩ rfl (Nat.le_of_ble_eq_true rfl) d_R_back_2 (sm_det_i ?_)
  refine sg_ifne (pc := 5) (tgt := 12) C d_R_back_5 (by decide) (by omega) (fun h5 => ?_) (fun h5 => absurd h5 (by decide))
  refine sg_aln (pc := 12) C d_R_back_12 rfl ?_
  refine sg_getr (pc := 13) C fw_R_36 (by omega) rfl rfl rfl d_R_back_13 ?_
  refine sg_iln (pc := 16) C d_R_back_16 rfl ?_
  refine sg_bald (pc := 17) (n := 12) C (by omega) rfl (by omega) (by decide) d_R_back_17 ?_
  refine sg_ifne (pc := 18) (tgt := 25) C d_R_back_18 (by decide) (by omega) (fun h18 => absurd hs h18) (fun h18 => ?_)
  refine sg_ic (pc := 21) (v := 2) C d_R_back_21 (by decide) ?_
  refine sg_goto (pc := 22) (tgt := 26) C d_R_back_22 (by decide) ?_
  refine sg_puti (pc := 26) C pw_R_70 (by omega) rfl rfl rfl rfl d_R_back_26 ?_
  refine sg_aln (pc := 29) C d_R_back_29 rfl ?_
  refine sg_geti (pc := 30) C fw_R_70 (by omega) rfl rfl d_R_back_30 ?_
  rw [sm_up_s]
  refine sg_ifle (pc := 33) (tgt := 37) C d_R_back_33 (by decide) (by omega) (fun h33 => absurd h33 (by decide)) (fun h33 => ?_)
  exact sg_vret (pc := 36) C I rfl d_R_back_36 ⟨rfl, rfl, rfl⟩

set_option maxHeartbeats 4000000 in
set_option maxRecDepth 100000 in
theorem c_R_share (l : Launch) (Ω : sm_Ω) {X : sm_X} {w : Nat → Nat → Nat} {n o q : Nat} (hn : n < 12) (ho : o < 12) (hq : q < 2) : sm_met l Ω y_R_share b_R_share 4 (some .int) 3 723 [.ref (Ω.2.1 + 703), .int (nI n), .int (nI o), .int (nI q)] X (sm_rf w) (sm_det (some (.int (nI (if q = 0 then X 713 (12 * n + o) else X 714 (12 * n + o))))) (sm_up X 703 0 0) (sm_rf w)) := by
  refine sm_intro (own := RX7) (L := [some (.ref (Ω.2.1 + 703)), some (.int (nI n)), some (.int (nI o)), some (.int (nI q))]) (by decide) rfl (by simp [Value.category]) (Nat.le_of_ble_eq_true rfl) rfl ?_
  intro Γ C I
  refine sg_aln (pc := 0) C d_R_share_0 rfl ?_
  refine sg_ic (pc := 1) (v := 0) C d_R_share_1 (by decide) ?_
  refine sg_puti (pc := 2) C pw_R_70 (by omega) rfl rfl rfl rfl d_R_share_2 ?_
  refine sg_iln (pc := 5) C d_R_share_5 rfl ?_
  refine sm_callS (pc := 6) (As := [.int (nI n)]) C I (c_R_isNode1 l Ω (by omega)) cw_R_114 sw_R_isNode rfl (by decide) ⟨by decide, by decide⟩ rfl (Nat.le_of_ble_eq_true rfl) d_R_share_6 (sm_det_i ?_)
  refine sg_ifeq (pc := 9) (tgt := 28) C d_R_share_9 (by decide) (by omega) (fun h9 => absurd h9 (by decide)) (fun h9 => ?_)
  refine sg_iln (pc := 12) C d_R_share_12 rfl ?_
  refine sm_callS (pc := 13) (As := [.int (nI o)]) C I (c_R_isObject1 l Ω (by omega)) cw_R_88 sw_R_isObject rfl (by decide) ⟨by decide, by decide⟩ rfl (Nat.le_of_ble_eq_true rfl) d_R_share_13 (sm_det_i ?_)
  refine sg_ifeq (pc := 16) (tgt := 28) C d_R_share_16 (by decide) (by omega) (fun h16 => absurd h16 (by decide)) (fun h16 => ?_)
  refine sg_iln (pc := 19) C d_R_share_19 rfl ?_
  refine sg_ic (pc := 20) (v := 0) C d_R_share_20 (by decide) ?_
  refine sg_ic (pc := 21) (v := 1) C d_R_share_21 (by decide) ?_
  refine sm_callS (pc := 22) (As := [.int (nI q), .int (nI 0), .int (nI 1)]) C I (c_R_within1 l Ω (nI_nlt (Nat.zero_le _) (by omega)) (nI_nlt (by omega) (by decide))) cw_R_73 sw_R_within rfl (by decide) ⟨by decide, by decide⟩ rfl (Nat.le_of_ble_eq_true rfl) d_R_share_22 (sm_det_i ?_)
  refine sg_ifne (pc := 25) (tgt := 34) C d_R_share_25 (by decide) (by omega) (fun h25 => ?_) (fun h25 => absurd h25 (by decide))
  refine sg_iln (pc := 34) C d_R_share_34 rfl ?_
  refine sg_ifne (pc := 35) (tgt := 51) C d_R_share_35 (by decide) (by omega) (fun h35 => ?_) (fun h35 => ?_)
  · refine sg_aln (pc := 51) C d_R_share_51 rfl ?_
    refine sg_getr (pc := 52) C fw_R_45 (by omega) rfl rfl rfl d_R_share_52 ?_
    refine sg_iln (pc := 55) C d_R_share_55 rfl ?_
    refine sg_iln (pc := 56) C d_R_share_56 rfl ?_
    refine sm_callS (pc := 57) (As := [.int (nI n), .int (nI o)]) C I (c_R_at l Ω) cw_R_85 sw_R_at rfl (by decide) ⟨by decide, by decide⟩ rfl (Nat.le_of_ble_eq_true rfl) d_R_share_57 (sm_det_i ?_)
    refine sg_iald (pc := 60) (n := 144) C (by omega) rfl (by omega) (by decide) d_R_share_60 ?_
    rw [sm_up_x (Or.inl (by decide))]
    exact sg_iret (pc := 61) C I rfl rfl d_R_share_61 ⟨by rw [if_neg h35], rfl, rfl⟩
  · refine sg_aln (pc := 38) C d_R_share_38 rfl ?_
    refine sg_getr (pc := 39) C fw_R_42 (by omega) rfl rfl rfl d_R_share_39 ?_
    refine sg_iln (pc := 42) C d_R_share_42 rfl ?_
    refine sg_iln (pc := 43) C d_R_share_43 rfl ?_
    refine sm_callS (pc := 44) (As := [.int (nI n), .int (nI o)]) C I (c_R_at l Ω) cw_R_85 sw_R_at rfl (by decide) ⟨by decide, by decide⟩ rfl (Nat.le_of_ble_eq_true rfl) d_R_share_44 (sm_det_i ?_)
    refine sg_iald (pc := 47) (n := 144) C (by omega) rfl (by omega) (by decide) d_R_share_47 ?_
    rw [sm_up_x (Or.inl (by decide))]
    refine sg_goto (pc := 48) (tgt := 61) C d_R_share_48 (by decide) ?_
    exact sg_iret (pc := 61) C I rfl rfl d_R_share_61 ⟨by rw [if_pos h35], rfl, rfl⟩

set_option maxHeartbeats 4000000 in
set_option maxRecDepth 100000 in
theorem c_R_shareX1 (l : Launch) (Ω : sm_Ω) {X : sm_X} {w : Nat → Nat → Nat} {x z u : Int32} (hx : x < 0 ∨ nI 12 ≤ x) : sm_met l Ω y_R_share b_R_share 4 (some .int) 3 723 [.ref (Ω.2.1 + 703), .int x, .int z, .int u] X (sm_rf w) (sm_det (some (.int (nI 0))) (sm_up X 703 0 1) (sm_rf w)) := by
  refine sm_intro (own := RX7) (L := [some (.ref (Ω.2.1 + 703)), some (.int x), some (.int z), some (.int u)]) (by decide) rfl (by simp [Value.category]) (Nat.le_of_ble_eq_true rfl) rfl ?_
  intro Γ C I
  refine sg_aln (pc := 0) C d_R_share_0 rfl ?_
  refine sg_ic (pc := 1) (v := 0) C d_R_share_1 (by decide) ?_
  refine sg_puti (pc := 2) C pw_R_70 (by omega) rfl rfl rfl rfl d_R_share_2 ?_
  refine sg_iln (pc := 5) C d_R_share_5 rfl ?_
  refine sm_callS (pc := 6) (As := [.int x]) C I (c_R_isNode0 l Ω hx) cw_R_114 sw_R_isNode rfl (by decide) ⟨by decide, by decide⟩ rfl (Nat.le_of_ble_eq_true rfl) d_R_share_6 (sm_det_i ?_)
  refine sg_ifeq (pc := 9) (tgt := 28) C d_R_share_9 (by decide) (by omega) (fun h9 => ?_) (fun h9 => absurd rfl h9)
  refine sg_aln (pc := 28) C d_R_share_28 rfl ?_
  refine sg_ic (pc := 29) (v := 1) C d_R_share_29 (by decide) ?_
  refine sm_callV (pc := 30) (As := [.int (nI 1)]) C I (c_R_fails l Ω) cw_R_81 iw_R_fails (C.1.2.2.2.2 _ (List.mem_cons_of_mem _ se_R_fails)) (by omega) rfl rfl rfl rfl (by decide) ⟨by decide, by decide⟩ rfl (Nat.le_of_ble_eq_true rfl) d_R_share_30 (sm_det_i ?_)
  exact sg_iret (pc := 33) C I rfl rfl d_R_share_33 ⟨rfl, sm_up_up, rfl⟩

set_option maxHeartbeats 4000000 in
set_option maxRecDepth 100000 in
theorem c_R_shareX2 (l : Launch) (Ω : sm_Ω) {X : sm_X} {w : Nat → Nat → Nat} {n : Nat} {x u : Int32} (hn : n < 12) (hx : x < 0 ∨ nI 12 ≤ x) : sm_met l Ω y_R_share b_R_share 4 (some .int) 3 723 [.ref (Ω.2.1 + 703), .int (nI n), .int x, .int u] X (sm_rf w) (sm_det (some (.int (nI 0))) (sm_up X 703 0 1) (sm_rf w)) := by
  refine sm_intro (own := RX7) (L := [some (.ref (Ω.2.1 + 703)), some (.int (nI n)), some (.int x), some (.int u)]) (by decide) rfl (by simp [Value.category]) (Nat.le_of_ble_eq_true rfl) rfl ?_
  intro Γ C I
  refine sg_aln (pc := 0) C d_R_share_0 rfl ?_
  refine sg_ic (pc := 1) (v := 0) C d_R_share_1 (by decide) ?_
  refine sg_puti (pc := 2) C pw_R_70 (by omega) rfl rfl rfl rfl d_R_share_2 ?_
  refine sg_iln (pc := 5) C d_R_share_5 rfl ?_
  refine sm_callS (pc := 6) (As := [.int (nI n)]) C I (c_R_isNode1 l Ω (by omega)) cw_R_114 sw_R_isNode rfl (by decide) ⟨by decide, by decide⟩ rfl (Nat.le_of_ble_eq_true rfl) d_R_share_6 (sm_det_i ?_)
  refine sg_ifeq (pc := 9) (tgt := 28) C d_R_share_9 (by decide) (by omega) (fun h9 => absurd h9 (by decide)) (fun h9 => ?_)
  refine sg_iln (pc := 12) C d_R_share_12 rfl ?_
  refine sm_callS (pc := 13) (As := [.int x]) C I (c_R_isObject0 l Ω hx) cw_R_88 sw_R_isObject rfl (by decide) ⟨by decide, by decide⟩ rfl (Nat.le_of_ble_eq_true rfl) d_R_share_13 (sm_det_i ?_)
  refine sg_ifeq (pc := 16) (tgt := 28) C d_R_share_16 (by decide) (by omega) (fun h16 => ?_) (fun h16 => absurd rfl h16)
  refine sg_aln (pc := 28) C d_R_share_28 rfl ?_
  refine sg_ic (pc := 29) (v := 1) C d_R_share_29 (by decide) ?_
  refine sm_callV (pc := 30) (As := [.int (nI 1)]) C I (c_R_fails l Ω) cw_R_81 iw_R_fails (C.1.2.2.2.2 _ (List.mem_cons_of_mem _ se_R_fails)) (by omega) rfl rfl rfl rfl (by decide) ⟨by decide, by decide⟩ rfl (Nat.le_of_ble_eq_true rfl) d_R_share_30 (sm_det_i ?_)
  exact sg_iret (pc := 33) C I rfl rfl d_R_share_33 ⟨rfl, sm_up_up, rfl⟩

set_option maxHeartbeats 4000000 in
set_option maxRecDepth 100000 in
theorem c_R_shareX3 (l : Launch) (Ω : sm_Ω) {X : sm_X} {w : Nat → Nat → Nat} {n o : Nat} {x : Int32} (hn : n < 12) (ho : o < 12) (hx : x < 0 ∨ nI 2 ≤ x) : sm_met l Ω y_R_share b_R_share 4 (some .int) 3 723 [.ref (Ω.2.1 + 703), .int (nI n), .int (nI o), .int x] X (sm_rf w) (sm_det (some (.int (nI 0))) (sm_up X 703 0 1) (sm_rf w)) := by
  refine sm_intro (own := RX7) (L := [some (.ref (Ω.2.1 + 703)), some (.int (nI n)), some (.int (nI o)), some (.int x)]) (by decide) rfl (by simp [Value.category]) (Nat.le_of_ble_eq_true rfl) rfl ?_
  intro Γ C I
  refine sg_aln (pc := 0) C d_R_share_0 rfl ?_
  refine sg_ic (pc := 1) (v := 0) C d_R_share_1 (by decide) ?_
  refine sg_puti (pc := 2) C pw_R_70 (by omega) rfl rfl rfl rfl d_R_share_2 ?_
  refine sg_iln (pc := 5) C d_R_share_5 rfl ?_
  refine sm_callS (pc := 6) (As := [.int (nI n)]) C I (c_R_isNode1 l Ω (by omega)) cw_R_114 sw_R_isNode rfl (by decide) ⟨by decide, by decide⟩ rfl (Nat.le_of_ble_eq_true rfl) d_R_share_6 (sm_det_i ?_)
  refine sg_ifeq (pc := 9) (tgt := 28) C d_R_share_9 (by decide) (by omega) (fun h9 => absurd h9 (by decide)) (fun h9 => ?_)
  refine sg_iln (pc := 12) C d_R_share_12 rfl ?_
  refine sm_callS (pc := 13) (As := [.int (nI o)]) C I (c_R_isObject1 l Ω (by omega)) cw_R_88 sw_R_isObject rfl (by decide) ⟨by decide, by decide⟩ rfl (Nat.le_of_ble_eq_true rfl) d_R_share_13 (sm_det_i ?_)
  refine sg_ifeq (pc := 16) (tgt := 28) C d_R_share_16 (by decide) (by omega) (fun h16 => absurd h16 (by decide)) (fun h16 => ?_)
  refine sg_iln (pc := 19) C d_R_share_19 rfl ?_
  refine sg_ic (pc := 20) (v := 0) C d_R_share_20 (by decide) ?_
  refine sg_ic (pc := 21) (v := 1) C d_R_share_21 (by decide) ?_
  refine sm_callS (pc := 22) (As := [.int x, .int (nI 0), .int (nI 1)]) C I (c_R_within0 l Ω (sn_ix (by decide) hx)) cw_R_73 sw_R_within rfl (by decide) ⟨by decide, by decide⟩ rfl (Nat.le_of_ble_eq_true rfl) d_R_share_22 (sm_det_i ?_)
  refine sg_ifne (pc := 25) (tgt := 34) C d_R_share_25 (by decide) (by omega) (fun h25 => absurd rfl h25) (fun h25 => ?_)
  refine sg_aln (pc := 28) C d_R_share_28 rfl ?_
  refine sg_ic (pc := 29) (v := 1) C d_R_share_29 (by decide) ?_
  refine sm_callV (pc := 30) (As := [.int (nI 1)]) C I (c_R_fails l Ω) cw_R_81 iw_R_fails (C.1.2.2.2.2 _ (List.mem_cons_of_mem _ se_R_fails)) (by omega) rfl rfl rfl rfl (by decide) ⟨by decide, by decide⟩ rfl (Nat.le_of_ble_eq_true rfl) d_R_share_30 (sm_det_i ?_)
  exact sg_iret (pc := 33) C I rfl rfl d_R_share_33 ⟨rfl, sm_up_up, rfl⟩

set_option maxHeartbeats 4000000 in
set_option maxRecDepth 100000 in
theorem c_R_nodeX1 (l : Launch) (Ω : sm_Ω) {X : sm_X} {w : Nat → Nat → Nat} {x z : Int32} (hx : x < 0 ∨ nI 12 ≤ x) : sm_met l Ω y_R_node b_R_node 5 (some .int) 4 723 [.ref (Ω.2.1 + 703), .int x, .int z] X (sm_rf w) (sm_det (some (.int (nI 0))) (sm_up X 703 0 1) (sm_rf w)) := by
  refine sm_intro (own := RX7) (L := [some (.ref (Ω.2.1 + 703)), some (.int x), some (.int z), none, none]) (by decide) rfl (by simp [Value.category]) (Nat.le_of_ble_eq_true rfl) rfl ?_
  intro Γ C I
  refine sg_aln (pc := 0) C d_R_node_0 rfl ?_
  refine sg_ic (pc := 1) (v := 0) C d_R_node_1 (by decide) ?_
  refine sg_puti (pc := 2) C pw_R_70 (by omega) rfl rfl rfl rfl d_R_node_2 ?_
  refine sg_iln (pc := 5) C d_R_node_5 rfl ?_
  refine sm_callS (pc := 6) (As := [.int x]) C I (c_R_isNode0 l Ω hx) cw_R_114 sw_R_isNode rfl (by decide) ⟨by decide, by decide⟩ rfl (Nat.le_of_ble_eq_true rfl) d_R_node_6 (sm_det_i ?_)
  refine sg_ifeq (pc := 9) (tgt := 21) C d_R_node_9 (by decide) (by omega) (fun h9 => ?_) (fun h9 => absurd rfl h9)
  refine sg_aln (pc := 21) C d_R_node_21 rfl ?_
  refine sg_ic (pc := 22) (v := 1) C d_R_node_22 (by decide) ?_
  refine sm_callV (pc := 23) (As := [.int (nI 1)]) C I (c_R_fails l Ω) cw_R_81 iw_R_fails (C.1.2.2.2.2 _ (List.mem_cons_of_mem _ se_R_fails)) (by omega) rfl rfl rfl rfl (by decide) ⟨by decide, by decide⟩ rfl (Nat.le_of_ble_eq_true rfl) d_R_node_23 (sm_det_i ?_)
  exact sg_iret (pc := 26) C I rfl rfl d_R_node_26 ⟨rfl, sm_up_up, rfl⟩

set_option maxHeartbeats 4000000 in
set_option maxRecDepth 100000 in
theorem c_R_nodeX2 (l : Launch) (Ω : sm_Ω) {X : sm_X} {w : Nat → Nat → Nat} {n : Nat} {x : Int32} (hn : n < 12) (hx : x < 0 ∨ nI 4 ≤ x) : sm_met l Ω y_R_node b_R_node 5 (some .int) 4 723 [.ref (Ω.2.1 + 703), .int (nI n), .int x] X (sm_rf w) (sm_det (some (.int (nI 0))) (sm_up X 703 0 1) (sm_rf w)) := by
  refine sm_intro (own := RX7) (L := [some (.ref (Ω.2.1 + 703)), some (.int (nI n)), some (.int x), none, none]) (by decide) rfl (by simp [Value.category]) (Nat.le_of_ble_eq_true rfl) rfl ?_
  intro Γ C I
  refine sg_aln (pc := 0) C d_R_node_0 rfl ?_
  refine sg_ic (pc := 1) (v := 0) C d_R_node_1 (by decide) ?_
  refine sg_puti (pc := 2) C pw_R_70 (by omega) rfl rfl rfl rfl d_R_node_2 ?_
  refine sg_iln (pc := 5) C d_R_node_5 rfl ?_
  refine sm_callS (pc := 6) (As := [.int (nI n)]) C I (c_R_isNode1 l Ω (by omega)) cw_R_114 sw_R_isNode rfl (by decide) ⟨by decide, by decide⟩ rfl (Nat.le_of_ble_eq_true rfl) d_R_node_6 (sm_det_i ?_)
  refine sg_ifeq (pc := 9) (tgt := 21) C d_R_node_9 (by decide) (by omega) (fun h9 => absurd h9 (by decide)) (fun h9 => ?_)
  refine sg_iln (pc := 12) C d_R_node_12 rfl ?_
  refine sg_ic (pc := 13) (v := 0) C d_R_node_13 (by decide) ?_
  refine sg_ic (pc := 14) (v := 3) C d_R_node_14 (by decide) ?_
  refine sm_callS (pc := 15) (As := [.int x, .int (nI 0), .int (nI 3)]) C I (c_R_within0 l Ω (sn_ix (by decide) hx)) cw_R_73 sw_R_within rfl (by decide) ⟨by decide, by decide⟩ rfl (Nat.le_of_ble_eq_true rfl) d_R_node_15 (sm_det_i ?_)
  refine sg_ifne (pc := 18) (tgt := 27) C d_R_node_18 (by decide) (by omega) (fun h18 => absurd rfl h18) (fun h18 => ?_)
  refine sg_aln (pc := 21) C d_R_node_21 rfl ?_
  refine sg_ic (pc := 22) (v := 1) C d_R_node_22 (by decide) ?_
  refine sm_callV (pc := 23) (As := [.int (nI 1)]) C I (c_R_fails l Ω) cw_R_81 iw_R_fails (C.1.2.2.2.2 _ (List.mem_cons_of_mem _ se_R_fails)) (by omega) rfl rfl rfl rfl (by decide) ⟨by decide, by decide⟩ rfl (Nat.le_of_ble_eq_true rfl) d_R_node_23 (sm_det_i ?_)
  exact sg_iret (pc := 26) C I rfl rfl d_R_node_26 ⟨rfl, sm_up_up, rfl⟩

theorem rwf_t {X : sm_X} {c : Nat} (hf : rwf X) : rwf (sm_up X 703 0 c) := by
  refine ⟨fun o ho => ?_, fun k hk => ?_⟩
  · rw [sm_up_x (Or.inl (by decide)), sm_up_x (Or.inl (by decide)), sm_up_x (Or.inl (by decide)), sm_up_x (Or.inl (by decide)), sm_up_x (Or.inl (by decide)), sm_up_x (Or.inl (by decide)), sm_up_x (Or.inl (by decide))]
    exact hf.1 o ho
  · rw [sm_up_x (Or.inl (by decide)), sm_up_x (Or.inl (by decide)), sm_up_x (Or.inl (by decide)), sm_up_x (Or.inl (by decide))]
    exact hf.2 k hk
theorem rfr_t {X : sm_X} {c d o : Nat} : rfr (sm_up X 703 0 c) d o = rfr X d o := by
  unfold rfr
  rw [sm_up_x (Or.inl (by decide)), sm_up_x (Or.inl (by decide))]
def rsh (X : sm_X) (n k : Nat) : Bool := decide (X 716 (12 * n + k) ≠ 0)

set_option maxHeartbeats 4000000 in
set_option maxRecDepth 100000 in
theorem c_R_node (l : Launch) (Ω : sm_Ω) {X : sm_X} {w : Nat → Nat → Nat} (hf : rwf X) {n q : Nat} (hn : n < 12) (hq : q < 4) : sm_met l Ω y_R_node b_R_node 5 (some .int) 4 723 [.ref (Ω.2.1 + 703), .int (nI n), .int (nI q)] X (sm_rf w) (sm_det (some (.int (nI (if q = 0 then 1 - X 711 n else if q = 1 then X 712 n else sm_n (fun k => if q = 2 then rfr X n k else rsh X n k) 12)))) (sm_up X 703 0 0) (sm_rf w)) := by
  refine sm_intro (own := RX7) (L := [some (.ref (Ω.2.1 + 703)), some (.int (nI n)), some (.int (nI q)), none, none]) (by decide) rfl (by simp [Value.category]) (Nat.le_of_ble_eq_true rfl) rfl ?_
  intro Γ C I
  have gi := hf.1 n hn
  refine sg_aln (pc := 0) C d_R_node_0 rfl ?_
  refine sg_ic (pc := 1) (v := 0) C d_R_node_1 (by decide) ?_
  refine sg_puti (pc := 2) C pw_R_70 (by omega) rfl rfl rfl rfl d_R_node_2 ?_
  refine sg_iln (pc := 5) C d_R_node_5 rfl ?_
  refine sm_callS (pc := 6) (As := [.int (nI n)]) C I (c_R_isNode1 l Ω (by omega)) cw_R_114 sw_R_isNode rfl (by decide) ⟨by decide, by decide⟩ rfl (Nat.le_of_ble_eq_true rfl) d_R_node_6 (sm_det_i ?_)
  refine sg_ifeq (pc := 9) (tgt := 21) C d_R_node_9 (by decide) (by omega) (fun h9 => absurd h9 (by decide)) (fun h9 => ?_)
  refine sg_iln (pc := 12) C d_R_node_12 rfl ?_
  refine sg_ic (pc := 13) (v := 0) C d_R_node_13 (by decide) ?_
  refine sg_ic (pc := 14) (v := 3) C d_R_node_14 (by decide) ?_
  refine sm_callS (pc := 15) (As := [.int (nI q), .int (nI 0), .int (nI 3)]) C I (c_R_within1 l Ω (nI_nlt (Nat.zero_le _) (by omega)) (nI_nlt (by omega) (by decide))) cw_R_73 sw_R_within rfl (by decide) ⟨by decide, by decide⟩ rfl (Nat.le_of_ble_eq_true rfl) d_R_node_15 (sm_det_i ?_)
  refine sg_ifne (pc := 18) (tgt := 27) C d_R_node_18 (by decide) (by omega) (fun h18 => ?_) (fun h18 => absurd h18 (by decide))
  refine sg_iln (pc := 27) C d_R_node_27 rfl ?_
  refine sg_ic (pc := 28) (v := 2) C d_R_node_28 (by decide) ?_
  refine sg_icge (pc := 29) (tgt := 61) C d_R_node_29 (by decide) (by omega) (by omega) (fun h29 => ?_) (fun h29 => ?_)
  · refine sg_ic (pc := 61) (v := 0) C d_R_node_61 (by decide) ?_
    refine sg_is3 (pc := 62) C d_R_node_62 ?_
    refine sg_ic (pc := 63) (v := 0) C d_R_node_63 (by decide) ?_
    refine sg_is4 (pc := 64) C d_R_node_64 ?_
    have loop : ∀ t k, k + t = 12 → sm_G Γ Ω 723 0 0 66 [some (.ref (Ω.2.1 + 703)), some (.int (nI n)), some (.int (nI q)), some (.int (nI (sm_n (fun k => if q = 2 then rfr X n k else rsh X n k) k))), some (.int (nI k))] [] (sm_up X 703 0 0) (sm_rf w) := by
      intro t
      induction t with
      | zero =>
        intro k hk
        refine sg_il (pc := 66) C d_R_node_66 rfl ?_
        refine sg_bi (pc := 68) (v := 12) C d_R_node_68 (by decide) ?_
        refine sg_icge (pc := 70) (tgt := 124) C d_R_node_70 (by decide) (by omega) (by omega) (fun h70 => ?_) (fun h70 => absurd h70 (by omega))
        refine sg_iln (pc := 124) C d_R_node_124 rfl ?_
        exact sg_iret (pc := 125) C I rfl rfl d_R_node_125 ⟨by rw [if_neg (by omega), if_neg (by omega), show k = 12 by omega], rfl, rfl⟩
      | succ t ih =>
        intro k hk
        have b1 := b2_lt (rfr X n k)
        have g2 := hf.2 (12 * n + k) (by omega)
        have en : sm_n (fun k => if q = 2 then rfr X n k else rsh X n k) (k + 1) = sm_n (fun k => if q = 2 then rfr X n k else rsh X n k) k + (if (if q = 2 then rfr X n k else rsh X n k) = true then 1 else 0) := rfl
        refine sg_il (pc := 66) C d_R_node_66 rfl ?_
        refine sg_bi (pc := 68) (v := 12) C d_R_node_68 (by decide) ?_
        refine sg_icge (pc := 70) (tgt := 124) C d_R_node_70 (by decide) (by omega) (by omega) (fun h70 => absurd h70 (by omega)) (fun h70 => ?_)
        refine sg_iln (pc := 73) C d_R_node_73 rfl ?_
        refine sg_iln (pc := 74) C d_R_node_74 rfl ?_
        refine sg_ic (pc := 75) (v := 2) C d_R_node_75 (by decide) ?_
        refine sg_icne (pc := 76) (tgt := 97) C d_R_node_76 (by decide) (by omega) (by omega) (fun h76 => ?_) (fun h76 => ?_)
        · refine sg_aln (pc := 97) C d_R_node_97 rfl ?_
          refine sg_getr (pc := 98) C fw_R_52 (by omega) rfl rfl rfl d_R_node_98 ?_
          refine sg_iln (pc := 101) C d_R_node_101 rfl ?_
          refine sg_il (pc := 102) C d_R_node_102 rfl ?_
          refine sm_callS (pc := 104) (As := [.int (nI n), .int (nI k)]) C I (c_R_at l Ω) cw_R_85 sw_R_at rfl (by decide) ⟨by decide, by decide⟩ rfl (Nat.le_of_ble_eq_true rfl) d_R_node_104 (sm_det_i ?_)
          refine sg_iald (pc := 107) (n := 144) C (by omega) rfl (by omega) (by decide) d_R_node_107 ?_
          rw [sm_up_x (Or.inl (by decide))]
          refine sg_ifle (pc := 108) (tgt := 115) C d_R_node_108 (by decide) (by omega) (fun h108 => ?_) (fun h108 => ?_)
          · refine sg_ic (pc := 115) (v := 0) C d_R_node_115 (by decide) ?_
            refine sg_add (pc := 116) C d_R_node_116 ?_
            refine sg_is3 (pc := 117) C d_R_node_117 ?_
            refine sg_inc4 (pc := 118) (n := 1) C d_R_node_118 (by decide) ?_
            refine sg_goto (pc := 121) (tgt := 66) C d_R_node_121 (by decide) ?_
            have h := ih (k + 1) (by omega)
            rw [en, if_neg (c := (if q = 2 then rfr X n k else rsh X n k) = true) (by rw [if_neg h76]; simp [rsh, h108])] at h
            exact h
          · refine sg_ic (pc := 111) (v := 1) C d_R_node_111 (by decide) ?_
            refine sg_goto (pc := 112) (tgt := 116) C d_R_node_112 (by decide) ?_
            refine sg_add (pc := 116) C d_R_node_116 ?_
            refine sg_is3 (pc := 117) C d_R_node_117 ?_
            refine sg_inc4 (pc := 118) (n := 1) C d_R_node_118 (by decide) ?_
            refine sg_goto (pc := 121) (tgt := 66) C d_R_node_121 (by decide) ?_
            have h := ih (k + 1) (by omega)
            rw [en, if_pos (c := (if q = 2 then rfr X n k else rsh X n k) = true) (by rw [if_neg h76]; simp [rsh]; omega)] at h
            exact h
        · refine sg_aln (pc := 79) C d_R_node_79 rfl ?_
          refine sg_iln (pc := 80) C d_R_node_80 rfl ?_
          refine sg_il (pc := 81) C d_R_node_81 rfl ?_
          refine sm_callV (pc := 83) (As := [.int (nI n), .int (nI k)]) C I (c_R_isFresh l Ω (rwf_t hf) hn (by omega)) cw_R_108 iw_R_isFresh (C.1.2.2.2.2 _ (List.mem_cons_of_mem _ se_R_isFresh)) (by omega) rfl rfl rfl rfl (by decide) ⟨by decide, by decide⟩ rfl (Nat.le_of_ble_eq_true rfl) d_R_node_83 (sm_det_i ?_)
          rw [rfr_t]
          refine sg_ifeq (pc := 86) (tgt := 93) C d_R_node_86 (by decide) (by omega) (fun h86 => ?_) (fun h86 => ?_)
          · refine sg_ic (pc := 93) (v := 0) C d_R_node_93 (by decide) ?_
            refine sg_goto (pc := 94) (tgt := 116) C d_R_node_94 (by decide) ?_
            refine sg_add (pc := 116) C d_R_node_116 ?_
            refine sg_is3 (pc := 117) C d_R_node_117 ?_
            refine sg_inc4 (pc := 118) (n := 1) C d_R_node_118 (by decide) ?_
            refine sg_goto (pc := 121) (tgt := 66) C d_R_node_121 (by decide) ?_
            have h := ih (k + 1) (by omega)
            rw [en, if_neg (c := (if q = 2 then rfr X n k else rsh X n k) = true) (by rw [if_pos h76, b2_0 h86]; decide)] at h
            exact h
          · refine sg_ic (pc := 89) (v := 1) C d_R_node_89 (by decide) ?_
            refine sg_goto (pc := 90) (tgt := 116) C d_R_node_90 (by decide) ?_
            refine sg_add (pc := 116) C d_R_node_116 ?_
            refine sg_is3 (pc := 117) C d_R_node_117 ?_
            refine sg_inc4 (pc := 118) (n := 1) C d_R_node_118 (by decide) ?_
            refine sg_goto (pc := 121) (tgt := 66) C d_R_node_121 (by decide) ?_
            have h := ih (k + 1) (by omega)
            rw [en, if_pos (c := (if q = 2 then rfr X n k else rsh X n k) = true) (by rw [if_pos h76, b2_1 h86])] at h
            exact h
    exact loop 12 0 (by omega)
  · refine sg_iln (pc := 32) C d_R_node_32 rfl ?_
    refine sg_ic (pc := 33) (v := 1) C d_R_node_33 (by decide) ?_
    refine sg_icne (pc := 34) (tgt := 46) C d_R_node_34 (by decide) (by omega) (by omega) (fun h34 => ?_) (fun h34 => ?_)
    · refine sg_aln (pc := 46) C d_R_node_46 rfl ?_
      refine sg_getr (pc := 47) C fw_R_36 (by omega) rfl rfl rfl d_R_node_47 ?_
      refine sg_iln (pc := 50) C d_R_node_50 rfl ?_
      refine sg_bald (pc := 51) (n := 12) C (by omega) rfl (by omega) (by decide) d_R_node_51 ?_
      rw [sm_up_x (Or.inl (by decide))]
      refine sg_ifeq (pc := 52) (tgt := 59) C d_R_node_52 (by decide) (by omega) (fun h52 => ?_) (fun h52 => ?_)
      · refine sg_ic (pc := 59) (v := 1) C d_R_node_59 (by decide) ?_
        exact sg_iret (pc := 60) C I rfl rfl d_R_node_60 ⟨by rw [if_pos (show q = 0 by omega), h52], rfl, rfl⟩
      · refine sg_ic (pc := 55) (v := 0) C d_R_node_55 (by decide) ?_
        refine sg_goto (pc := 56) (tgt := 60) C d_R_node_56 (by decide) ?_
        exact sg_iret (pc := 60) C I rfl rfl d_R_node_60 ⟨by rw [if_pos (show q = 0 by omega), show X 711 n = 1 by omega], rfl, rfl⟩
    · refine sg_aln (pc := 37) C d_R_node_37 rfl ?_
      refine sg_getr (pc := 38) C fw_R_39 (by omega) rfl rfl rfl d_R_node_38 ?_
      refine sg_iln (pc := 41) C d_R_node_41 rfl ?_
      refine sg_iald (pc := 42) (n := 12) C (by omega) rfl (by omega) (by decide) d_R_node_42 ?_
      rw [sm_up_x (Or.inl (by decide))]
      refine sg_goto (pc := 43) (tgt := 60) C d_R_node_43 (by decide) ?_
      exact sg_iret (pc := 60) C I rfl rfl d_R_node_60 ⟨by rw [if_neg (by omega), if_pos h34], rfl, rfl⟩
