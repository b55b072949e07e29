/-! Galois: the tables hold; products, quotients, values, interpolation -/
def gal (X : sm_X) : Prop := (∀ k, k < 255 → X 2 k = gf_p k) ∧ ∀ a, a < 256 → X 3 a = gf_e a
theorem sn_sa {a b c : Nat} (h : b ≤ c) : nI a - nI b + nI c = nI (a + c - b) := by
  rw [← pk_sub (by omega : b ≤ a + c), ← nI_add, Int32.sub_eq_add_neg, Int32.sub_eq_add_neg, Int32.add_assoc, Int32.add_comm (-nI b), ← Int32.add_assoc]

set_option maxHeartbeats 4000000 in
set_option maxRecDepth 100000 in
theorem c_G_times (l : Launch) (Ω : sm_Ω) {X : sm_X} {w : Nat → Nat → Nat} {a b : Nat} (hG : gal X) (ha : a < 256) (hb : b < 256) : sm_met l Ω y_G_times b_G_times 3 (some .int) 1 723 [.ref (Ω.2.1 + 1), .int (nI a), .int (nI b)] X (sm_rf w) (sm_det (some (.int (nI (gf_t a b)))) X (sm_rf w)) := by
  refine sm_intro (own := RX0) (L := [some (.ref (Ω.2.1 + 1)), some (.int (nI a)), some (.int (nI b))]) (by decide) rfl (by simp [Value.category]) (Nat.le_of_ble_eq_true rfl) rfl ?_
  intro Γ C I
  have e1 := hG.2 a ha
  have e2 := hG.2 b hb
  have b1 := gf_e_lt ha
  have b2 := gf_e_lt hb
  refine sg_iln (pc := 0) C d_G_times_0 rfl ?_
  refine sg_ifeq (pc := 1) (tgt := 8) C d_G_times_1 (by decide) (by omega) (fun h1 => ?_) (fun h1 => ?_)
  · refine sg_ic (pc := 8) (v := 0) C d_G_times_8 (by decide) ?_
    exact sg_iret (pc := 9) C I rfl rfl d_G_times_9 ⟨by first | rw [h1, gf_t_0l] | rw [h5, gf_t_0r], rfl, rfl⟩
  · refine sg_iln (pc := 4) C d_G_times_4 rfl ?_
    refine sg_ifne (pc := 5) (tgt := 10) C d_G_times_5 (by decide) (by omega) (fun h5 => ?_) (fun h5 => ?_)
    · refine sg_aln (pc := 10) C d_G_times_10 rfl ?_
      refine sg_getr (pc := 11) C fw_G_11 (by omega) rfl rfl rfl d_G_times_11 ?_
      refine sg_aln (pc := 14) C d_G_times_14 rfl ?_
      refine sg_getr (pc := 15) C fw_G_15 (by omega) rfl rfl rfl d_G_times_15 ?_
      refine sg_iln (pc := 18) C d_G_times_18 rfl ?_
      refine sg_iald (pc := 19) (n := 256) C (by omega) rfl (by omega) (by decide) d_G_times_19 ?_
      refine sg_aln (pc := 20) C d_G_times_20 rfl ?_
      refine sg_getr (pc := 21) C fw_G_15 (by omega) rfl rfl rfl d_G_times_21 ?_
      refine sg_iln (pc := 24) C d_G_times_24 rfl ?_
      refine sg_iald (pc := 25) (n := 256) C (by omega) rfl (by omega) (by decide) d_G_times_25 ?_
      refine sg_add (pc := 26) C d_G_times_26 ?_
      refine sg_si (pc := 27) (v := 255) C d_G_times_27 (by decide) ?_
      refine sg_rem (pc := 30) C d_G_times_30 (by omega) (by decide) (by decide) ?_
      refine sg_iald (pc := 31) (n := 255) C (by omega) rfl (by omega) (by decide) d_G_times_31 ?_
      exact sg_iret (pc := 32) C I rfl rfl d_G_times_32 ⟨by rw [hG.1 _ (by omega), e1, e2, gf_t, if_neg (fun h => h.elim h1 h5)], rfl, rfl⟩
    · refine sg_ic (pc := 8) (v := 0) C d_G_times_8 (by decide) ?_
      exact sg_iret (pc := 9) C I rfl rfl d_G_times_9 ⟨by first | rw [h1, gf_t_0l] | rw [h5, gf_t_0r], rfl, rfl⟩

set_option maxHeartbeats 4000000 in
set_option maxRecDepth 100000 in
theorem c_G_over (l : Launch) (Ω : sm_Ω) {X : sm_X} {w : Nat → Nat → Nat} {a b : Nat} (hG : gal X) (ha : a < 256) (hb : b < 256) : sm_met l Ω y_G_over b_G_over 3 (some .int) 1 723 [.ref (Ω.2.1 + 1), .int (nI b), .int (nI a)] X (sm_rf w) (sm_det (some (.int (nI (gf_d b a)))) X (sm_rf w)) := by
  refine sm_intro (own := RX0) (L := [some (.ref (Ω.2.1 + 1)), some (.int (nI b)), some (.int (nI a))]) (by decide) rfl (by simp [Value.category]) (Nat.le_of_ble_eq_true rfl) rfl ?_
  intro Γ C I
  have e1 := hG.2 a ha
  have e2 := hG.2 b hb
  have b1 := gf_e_lt ha
  have b2 := gf_e_lt hb
  refine sg_iln (pc := 0) C d_G_over_0 rfl ?_
  refine sg_ifeq (pc := 1) (tgt := 8) C d_G_over_1 (by decide) (by omega) (fun h1 => ?_) (fun h1 => ?_)
  · refine sg_ic (pc := 8) (v := 0) C d_G_over_8 (by decide) ?_
    exact sg_iret (pc := 9) C I rfl rfl d_G_over_9 ⟨by first | rw [h1, gf_d, if_pos (Or.inl rfl)] | rw [h5, gf_d, if_pos (Or.inr rfl)], rfl, rfl⟩
  · refine sg_iln (pc := 4) C d_G_over_4 rfl ?_
    refine sg_ifne (pc := 5) (tgt := 10) C d_G_over_5 (by decide) (by omega) (fun h5 => ?_) (fun h5 => ?_)
    · refine sg_aln (pc := 10) C d_G_over_10 rfl ?_
      refine sg_getr (pc := 11) C fw_G_11 (by omega) rfl rfl rfl d_G_over_11 ?_
      refine sg_aln (pc := 14) C d_G_over_14 rfl ?_
      refine sg_getr (pc := 15) C fw_G_15 (by omega) rfl rfl rfl d_G_over_15 ?_
      refine sg_iln (pc := 18) C d_G_over_18 rfl ?_
      refine sg_iald (pc := 19) (n := 256) C (by omega) rfl (by omega) (by decide) d_G_over_19 ?_
      refine sg_aln (pc := 20) C d_G_over_20 rfl ?_
      refine sg_getr (pc := 21) C fw_G_15 (by omega) rfl rfl rfl d_G_over_21 ?_
      refine sg_iln (pc := 24) C d_G_over_24 rfl ?_
      refine sg_iald (pc := 25) (n := 256) C (by omega) rfl (by omega) (by decide) d_G_over_25 ?_
      refine sr_isub (pc := 26) C d_G_over_26 rfl ?_
      refine sg_si (pc := 27) (v := 255) C d_G_over_27 (by decide) ?_
      refine sr_iadd (pc := 30) C d_G_over_30 (sn_sa (by omega)) ?_
      refine sg_si (pc := 31) (v := 255) C d_G_over_31 (by decide) ?_
      refine sg_rem (pc := 34) C d_G_over_34 (by omega) (by decide) (by decide) ?_
      refine sg_iald (pc := 35) (n := 255) C (by omega) rfl (by omega) (by decide) d_G_over_35 ?_
      exact sg_iret (pc := 36) C I rfl rfl d_G_over_36 ⟨by rw [hG.1 _ (by omega), e1, e2, gf_d, if_neg (fun h => h.elim h1 h5)], rfl, rfl⟩
    · refine sg_ic (pc := 8) (v := 0) C d_G_over_8 (by decide) ?_
      exact sg_iret (pc := 9) C I rfl rfl d_G_over_9 ⟨by first | rw [h1, gf_d, if_pos (Or.inl rfl)] | rw [h5, gf_d, if_pos (Or.inr rfl)], rfl, rfl⟩

theorem gf_h_lt2 {c : Nat → Nat} {x k m : Nat} (h : ∀ j, k ≤ j → j < k + m → c j < 256) : gf_h c x k m < 256 := by
  cases m with
  | zero => show (0 : Nat) < 256; decide
  | succ m => exact gf_xor_lt (gf_t_lt _ _) (h k (Nat.le_refl k) (by omega))

set_option maxHeartbeats 4000000 in
set_option maxRecDepth 100000 in
theorem c_G_valueAt (l : Launch) (Ω : sm_Ω) {X : sm_X} {w : Nat → Nat → Nat} {p i n fr : Nat} (hG : gal X) (hp : p < 256) (hi : i < 723) (hs : sm_sh i = .inr (n, 0)) (hn : n < 2 ^ 31) (hf : fr + 8 ≤ n) (hv : ∀ j, j < 8 → X i (fr + j) < 256) : sm_met l Ω y_G_valueAt b_G_valueAt 6 (some .int) 2 723 [.ref (Ω.2.1 + 1), .int (nI p), .ref (Ω.2.1 + i), .int (nI fr)] X (sm_rf w) (sm_det (some (.int (nI (gf_h (fun j => X i (fr + j)) p 0 8)))) X (sm_rf w)) := by
  refine sm_intro (own := RX0) (L := [some (.ref (Ω.2.1 + 1)), some (.int (nI p)), some (.ref (Ω.2.1 + i)), some (.int (nI fr)), none, none]) (by decide) rfl (by simp [Value.category]) (Nat.le_of_ble_eq_true rfl) rfl ?_
  intro Γ C I
  refine sg_ic (pc := 0) (v := 0) C d_G_valueAt_0 (by decide) ?_
  refine sg_is4 (pc := 1) C d_G_valueAt_1 ?_
  refine sg_bi (pc := 3) (v := 7) C d_G_valueAt_3 (by decide) ?_
  refine sg_is5 (pc := 5) C d_G_valueAt_5 ?_
  have loop : ∀ k, k ≤ 8 → sm_G Γ Ω 723 0 0 7 [some (.ref (Ω.2.1 + 1)), some (.int (nI p)), some (.ref (Ω.2.1 + i)), some (.int (nI fr)), some (.int (nI (gf_h (fun j => X i (fr + j)) p k (8 - k)))), some (.int (nI k + (-1)))] [] X (sm_rf w) := by
    intro k
    induction k with
    | zero =>
      intro _
      refine sg_il (pc := 7) C d_G_valueAt_7 rfl ?_
      refine sr_iflt (pc := 9) (tgt := 34) C d_G_valueAt_9 (by decide) (fun h9 => ?_) (fun h9 => absurd (by decide) h9)
      refine sg_il (pc := 34) C d_G_valueAt_34 rfl ?_
      exact sg_iret (pc := 36) C I rfl rfl d_G_valueAt_36 ⟨rfl, rfl, rfl⟩
    | succ k ih =>
      intro hk
      rw [sn_m1]
      have hb : gf_h (fun j => X i (fr + j)) p (k + 1) (8 - (k + 1)) < 256 := gf_h_lt2 (fun j h1 h2 => hv j (by omega))
      refine sg_il (pc := 7) C d_G_valueAt_7 rfl ?_
      refine sr_iflt (pc := 9) (tgt := 34) C d_G_valueAt_9 (by decide) (fun h9 => absurd h9 (nI_pos (by omega))) (fun h9 => ?_)
      refine sg_aln (pc := 12) C d_G_valueAt_12 rfl ?_
      refine sg_il (pc := 13) C d_G_valueAt_13 rfl ?_
      refine sg_iln (pc := 15) C d_G_valueAt_15 rfl ?_
      refine sm_callV (pc := 16) (As := [.int (nI (gf_h (fun j => X i (fr + j)) p (k + 1) (8 - (k + 1)))), .int (nI p)]) C I (c_G_times l Ω hG hb hp) cw_G_18 iw_G_times (C.1.2.2.2.2 _ (List.mem_cons_of_mem _ se_G_times)) (by omega) rfl rfl rfl rfl (by decide) ⟨by decide, by decide⟩ rfl (by decide) d_G_valueAt_16 (sm_det_i ?_)
      refine sg_aln (pc := 19) C d_G_valueAt_19 rfl ?_
      refine sg_iln (pc := 20) C d_G_valueAt_20 rfl ?_
      refine sg_il (pc := 21) C d_G_valueAt_21 rfl ?_
      refine sg_add (pc := 23) C d_G_valueAt_23 ?_
      refine sg_iald (pc := 24) (n := n) C hi hs (by omega) hn d_G_valueAt_24 ?_
      refine sg_xor (pc := 25) C d_G_valueAt_25 ?_
      refine sg_is4 (pc := 26) C d_G_valueAt_26 ?_
      refine sg_dec5 (pc := 28) C d_G_valueAt_28 ?_
      refine sg_goto (pc := 31) (tgt := 7) C d_G_valueAt_31 (by decide) ?_
      have h := ih (by omega)
      rw [show 8 - k = 8 - (k + 1) + 1 by omega] at h
      exact h
  have h0 := loop 8 (Nat.le_refl 8)
  rw [show nI 8 + (-1) = nI 7 from by decide] at h0
  exact h0
