/-! Decoding: from the last row up -/
def dcI (X : sm_X) (v : Nat → Nat) (S c : Nat) (Z : sm_X) : Prop :=
  (∀ a b, (a < 6 ∨ 70 < a) → Z a b = X a b) ∧ (∀ r j, c ≤ r → r < S → j < 8 → Z (6 + r) j = mx v r j) ∧ (∀ r j, r < c → 5 ≤ j → j < 8 → c ≤ 8 * (r / 8) + j → Z (6 + r) j = mx v r j) ∧
  (∀ r j, r < 64 → 5 ≤ r % 8 → 5 ≤ j → j < 8 → Z (6 + r) j = 0) ∧ ∀ r j, r < 64 → j < 8 → Z (6 + r) j < 256
def dcZ1 (Z : sm_X) (c : Nat) : sm_X := sm_uf Z (6 + c) (fun j => if j < 5 then 0 else Z (6 + c) j)
def dcV (X : sm_X) (v : Nat → Nat) (Z : sm_X) (c j : Nat) : Nat := mx_b v (X 75 j) c ^^^ gf_h (dcZ1 Z c (6 + c)) (X 75 j) 0 8
def dcZ2 (X : sm_X) (v : Nat → Nat) (Z : sm_X) (c k : Nat) : sm_X := sm_uf (dcZ1 Z c) 70 (fun j => if j < k then dcV X v Z c j else dcZ1 Z c 70 j)
def dcZ3 (X : sm_X) (v : Nat → Nat) (Z : sm_X) (c : Nat) : sm_X := sm_uf (dcZ2 X v Z c 5) 70 (gf_q2 5 (dcZ2 X v Z c 5 75) (5 - 1) (gf_q1 5 (dcZ2 X v Z c 5 75) (5 - 1) (dcZ2 X v Z c 5 70)))
theorem dcZ2_o {X Z : sm_X} {v : Nat → Nat} {c k a b : Nat} (h1 : a ≠ 70) (h2 : a ≠ 6 + c) : dcZ2 X v Z c k a b = Z a b := (sm_uf_o h1).trans (sm_uf_o h2)
theorem dcZ2_0 {X Z : sm_X} {v : Nat → Nat} {c : Nat} : dcZ2 X v Z c 0 = dcZ1 Z c := (sm_uf_c (fun j => if_neg (Nat.not_lt_zero j))).trans sm_uf_self
theorem dcZ2_s {X Z : sm_X} {v : Nat → Nat} {c k : Nat} : sm_up (dcZ2 X v Z c k) 70 k (dcV X v Z c k) = dcZ2 X v Z c (k + 1) := by
  unfold dcZ2
  rw [sm_uf_up]
  apply sm_uf_c
  intro j
  by_cases e1 : j = k
  · subst e1; rw [if_pos rfl, if_pos (by omega)]
  · rw [if_neg e1]
    by_cases e2 : j < k
    · rw [if_pos e2, if_pos (by omega)]
    · rw [if_neg e2, if_neg (by omega)]
theorem dcZ1_r {Z : sm_X} {c j : Nat} : dcZ1 Z c (6 + c) j = if j < 5 then 0 else Z (6 + c) j := sm_uf_s
theorem dc_gal {X Z : sm_X} {v : Nat → Nat} {S c : Nat} (hG : gal X) (hI : dcI X v S c Z) : gal Z := ⟨fun k hk => (hI.1 2 k (by omega)).trans (hG.1 k hk), fun a ha => (hI.1 3 a (by omega)).trans (hG.2 a ha)⟩
section
variable {X Z : sm_X} {v : Nat → Nat} {S c : Nat}
theorem dc_hi (hI : dcI X v S (c + 1) Z) (hc : c < 64) {j : Nat} (h5 : 5 ≤ j) (h8 : j < 8) : Z (6 + c) j = mx v c j := by
  by_cases h : c % 8 < 5
  · exact hI.2.2.1 c j (by omega) h5 h8 (by omega)
  · rw [hI.2.2.2.1 c j hc (by omega) h5 h8, mx_0 h8 (by omega) h5]
theorem dc_val (hI : dcI X v S (c + 1) Z) (hv : ∀ i, v i < 256) (hc : c < 64) (k : Nat) : dcV X v Z c k = gf_h (fun i => if i < 5 then mx v c i else 0) (X 75 k) 0 5 := by
  have h1 : gf_h (dcZ1 Z c (6 + c)) (X 75 k) 0 8 = gf_h (fun i => if i < 5 then 0 else mx v c i) (X 75 k) 0 8 := by
    refine gf_h_congr 8 0 (fun i _ hi => ?_)
    rw [dcZ1_r]
    by_cases h : i < 5
    · rw [if_pos h, if_pos h]
    · rw [if_neg h, if_neg h]
      exact dc_hi hI hc (by omega) (by omega)
  unfold dcV mx_b
  rw [h1, gf_h_cut (fun j => mx_lt hv c j) (X 75 k) (n := 5) 8 0, gf_xc]
  exact gf_h_low (n := 5) (fun i hi => if_neg (by omega)) 8 (by decide)
theorem dc_out (hI : dcI X v S (c + 1) Z) (hv : ∀ i, v i < 256) (hc : c < 64) (hp : ∀ k, k < 5 → X 75 k < 256) (hd : ∀ a b, a < 5 → b < 5 → X 75 a = X 75 b → a = b) {k : Nat} (hk : k < 5) : dcZ3 X v Z c 70 k = mx v c k := by
  have e75 : ∀ j, dcZ2 X v Z c 5 75 j = X 75 j := fun j => (dcZ2_o (by decide) (by omega)).trans (hI.1 75 j (by omega))
  have h := gf_interp (n := 5) (X := dcZ2 X v Z c 5 75) (c := fun i => if i < 5 then mx v c i else 0) (v := dcZ2 X v Z c 5 70) (by decide)
    (fun j => by show (if j < 5 then mx v c j else 0) < 256; split; exact mx_lt hv c j; decide) (fun j hj => if_neg (by omega))
    (fun j hj => by rw [e75]; exact hp j hj) (fun a b ha hb he => by rw [e75, e75] at he; exact hd a b ha hb he)
    (fun j hj => by
      have e : dcZ2 X v Z c 5 70 j = dcV X v Z c j := sm_uf_s.trans (if_pos hj)
      rw [e, e75]
      exact dc_val hI hv hc j) k hk
  show sm_uf _ 70 _ 70 k = _
  rw [sm_uf_s]
  exact h.trans (if_pos hk)
theorem dc_step (hI : dcI X v S (c + 1) Z) (hv : ∀ i, v i < 256) (hcS : c < S) (hS : S ≤ 64) (hp : ∀ k, k < 5 → X 75 k < 256) (hd : ∀ a b, a < 5 → b < 5 → X 75 a = X 75 b → a = b) : dcI X v S c (sf (dcZ3 X v Z c) c 5) := by
  have hc : c < 64 := by omega
  have e3 : ∀ a b, a ≠ 70 → a ≠ 6 + c → dcZ3 X v Z c a b = Z a b := fun a b h1 h2 => (sm_uf_o h1).trans (dcZ2_o h1 h2)
  have e4 : ∀ j, dcZ3 X v Z c (6 + c) j = if j < 5 then 0 else Z (6 + c) j := fun j => (sm_uf_o (by omega)).trans ((sm_uf_o (by omega)).trans dcZ1_r)
  -- a row behind the step
  have key : ∀ r j, r < 64 → j < 8 → sf (dcZ3 X v Z c) c 5 (6 + r) j = if (j = c % 8 ∧ c - c % 8 ≤ r ∧ r < c - c % 8 + 5) ∨ (r = c ∧ j < 5) then mx v r j else Z (6 + r) j := by
    intro r j hr hj
    rw [sf_at hc 5 (Nat.le_refl 5)]
    by_cases h1 : j = c % 8 ∧ c - c % 8 ≤ r ∧ r < c - c % 8 + 5
    · rw [if_pos h1, if_pos (Or.inl h1), dc_out hI hv hc hp hd (by omega)]
      have hs := mx_s (v := v) (s := c / 8) (a := c % 8) (b := r - (c - c % 8)) (by omega) (by omega)
      rw [show 8 * (c / 8) + c % 8 = c by omega, show 8 * (c / 8) + (r - (c - c % 8)) = r by omega] at hs
      rw [hs, h1.1]
    · rw [if_neg h1]
      by_cases h2 : r = c ∧ j < 5
      · rw [if_pos h2, if_pos (Or.inr h2), dc_out hI hv hc hp hd h2.2, h2.1]
      · rw [if_neg h2, if_neg (fun q => q.elim h1 h2)]
        by_cases h3 : r = c
        · subst h3
          rw [e4, if_neg (fun q => h2 ⟨rfl, q⟩)]
        · exact e3 _ _ (by omega) (by omega)
  refine ⟨fun a b ha => ?_, fun r j h1 h2 h3 => ?_, fun r j h1 h2 h3 h4 => ?_, fun r j h1 h2 h3 h4 => ?_, fun r j h1 h2 => ?_⟩
  · rw [sf_70 hc (by omega) 5 (Nat.le_refl 5), e3 a b (by omega) (by omega)]
    exact hI.1 a b ha
  · rw [key r j (by omega) h3]
    split
    · rfl
    · rename_i hn
      by_cases h4 : r = c
      · subst h4
        exact dc_hi hI hc (Nat.not_lt.mp (fun q => hn (Or.inr ⟨rfl, q⟩))) h3
      · exact hI.2.1 r j (by omega) h2 h3
  · rw [key r j (by omega) h3]
    split
    · rfl
    · rename_i hn
      by_cases h5 : c + 1 ≤ 8 * (r / 8) + j
      · exact hI.2.2.1 r j (by omega) h2 h3 h5
      · have h6 : 5 ≤ r % 8 := by
          refine Nat.not_lt.mp (fun q => hn (Or.inl ⟨?_, ?_, ?_⟩)) <;> omega
        rw [hI.2.2.2.1 r j (by omega) h6 h2 h3, mx_0 h3 h6 h2]
  · rw [key r j h1 h4]
    split
    · exact mx_0 h4 h2 h3
    · exact hI.2.2.2.1 r j h1 h2 h3 h4
  · rw [key r j h1 h2]
    split
    · exact mx_lt hv r j
    · exact hI.2.2.2.2 r j h1 h2
end

set_option maxHeartbeats 4000000 in
set_option maxRecDepth 100000 in
theorem c_M_decode (l : Launch) (Ω : sm_Ω) {X : sm_X} {w : Nat → Nat → Nat} (hw : ∀ n o, w n o < 2) {o n : Nat} (ho : o < 12) (hn0 : 0 < n) (hn : n ≤ 240) (hG : gal X) {v : Nat → Nat} (hv : ∀ i, v i < 256) (hT : ∀ k, k < 5 → X 74 k < 12 ∧ X 75 k = X 74 k + 1) (hdi : ∀ a b, a < 5 → b < 5 → X 74 a = X 74 b → a = b)
    (hB : ∀ k, k < 5 → ∀ i, i < (8 * ((n + 29) / 30)) → X (83 + 51 * X 74 k + 4 * o + 2 * w (X 74 k) o) i = mx_b v (X 74 k + 1) i) (hz : ∀ r j, r < 64 → 5 ≤ r % 8 → 5 ≤ j → j < 8 → X (6 + r) j = 0) (hr : ∀ r j, r < 64 → j < 8 → X (6 + r) j < 256) : sm_met l Ω y_M_decode b_M_decode 9 none 3 723 [.ref (Ω.2.1 + 4), .ref (Ω.2.1 + 1), .ref (Ω.2.1 + 71), .int (nI o), .ref (Ω.2.1 + 73), .int (nI n)] X (sm_rf w) (fun r X2 Y2 => r = none ∧ dcI X v (8 * ((n + 29) / 30)) 0 X2 ∧ Y2 = sm_rf w) := by
  refine sm_intro (own := RX2) (L := [some (.ref (Ω.2.1 + 4)), some (.ref (Ω.2.1 + 1)), some (.ref (Ω.2.1 + 71)), some (.int (nI o)), some (.ref (Ω.2.1 + 73)), some (.int (nI n)), none, none, none]) (by decide) rfl (by simp [Value.category]) (Nat.le_of_ble_eq_true rfl) rfl ?_
  intro Γ C I
  have hI0 : dcI X v (8 * ((n + 29) / 30)) (8 * ((n + 29) / 30)) X := ⟨fun _ _ _ => rfl, fun r j h1 h2 _ => absurd h1 (by omega), fun r j h1 h2 h3 h4 => absurd h4 (by omega), hz, hr⟩
  refine sg_bi (pc := 0) (v := 8) C d_M_decode_0 (by decide) ?_
  refine sg_il (pc := 2) C d_M_decode_2 rfl ?_
  refine sm_callSN (pc := 4) (As := [.int (nI n)]) C I (c_S_stripesOf l Ω (by omega)) nw_code nw_init sw_S_stripesOf (by decide) rfl (by decide) ⟨by decide, by decide⟩ rfl (Nat.le_of_ble_eq_true rfl) d_M_decode_4 (sm_det_i ?_)
  refine sg_mul (pc := 7) C d_M_decode_7 ?_
  refine sg_ic (pc := 8) (v := 1) C d_M_decode_8 (by decide) ?_
  refine sg_sub (pc := 9) C d_M_decode_9 (by omega) ?_
  refine sg_is6 (pc := 10) C d_M_decode_10 ?_
  have loop1 : ∀ c (Z : sm_X) z7 z8, c ≤ (8 * ((n + 29) / 30)) → dcI X v (8 * ((n + 29) / 30)) c Z → sm_G Γ Ω 723 0 0 12 [some (.ref (Ω.2.1 + 4)), some (.ref (Ω.2.1 + 1)), some (.ref (Ω.2.1 + 71)), some (.int (nI o)), some (.ref (Ω.2.1 + 73)), some (.int (nI n)), some (.int (nI c + (-1))), z7, z8] [] Z (sm_rf w) := by
    intro c
    induction c with
    | zero =>
      intro Z z7 z8 hc hI
      refine sg_il (pc := 12) C d_M_decode_12 rfl ?_
      refine sr_iflt (pc := 14) (tgt := 122) C d_M_decode_14 (by decide) (fun h14 => ?_) (fun h14 => absurd (by decide) h14)
      exact sg_vret (pc := 122) C I rfl d_M_decode_122 ⟨rfl, hI, rfl⟩
    | succ c ih1 =>
      intro Z z7 z8 hc hI
      rw [sn_m1]
      have hG2 := dc_gal hG hI
      have gz : gal (dcZ1 Z c) := gal_uf hG2 (by omega) (by omega)
      have gk : ∀ k, gal (dcZ2 X v Z c k) := fun k => gal_uf gz (by decide) (by decide)
      have rb : ∀ j, j < 8 → dcZ1 Z c (6 + c) j < 256 := fun j hj => by
        rw [dcZ1_r]
        split
        · decide
        · exact hI.2.2.2.2 c j (by omega) hj
      have e75 : ∀ k j, dcZ2 X v Z c k 75 j = X 75 j := fun k j => (dcZ2_o (by decide) (by omega)).trans (hI.1 75 j (by omega))
      have e74 : ∀ k j, dcZ2 X v Z c k 74 j = X 74 j := fun k j => (dcZ2_o (by decide) (by omega)).trans (hI.1 74 j (by omega))
      refine sg_il (pc := 12) C d_M_decode_12 rfl ?_
      refine sr_iflt (pc := 14) (tgt := 122) C d_M_decode_14 (by decide) (fun h14 => absurd h14 (nI_pos (by omega))) (fun h14 => ?_)
      refine sg_aln (pc := 17) C d_M_decode_17 rfl ?_
      refine sg_aln (pc := 18) C d_M_decode_18 rfl ?_
      refine sg_getr (pc := 19) C fw_M_11 (by omega) rfl rfl rfl d_M_decode_19 ?_
      refine sg_il (pc := 22) C d_M_decode_22 rfl ?_
      refine sg_aald (pc := 24) (n := 64) (t := 3) C (by omega) rfl (by decide) rfl rfl (by omega) (by decide) (rf_rows (by omega)) d_M_decode_24 ?_
      refine sm_callV (pc := 25) (As := [.ref (Ω.2.1 + (6 + c))]) C I (c_M_forgetFirstFive l Ω (i := c) (by omega)) cw_M_45 iw_M_forgetFirstFive (C.1.2.2.2.2 _ (List.mem_cons_of_mem _ se_M_forgetFirstFive)) (by omega) rfl rfl rfl rfl (by decide) ⟨by decide, by decide⟩ rfl (Nat.le_of_ble_eq_true rfl) d_M_decode_25 (sm_det_v ?_)
      change sm_G Γ Ω 723 0 0 (25 + 3) _ _ (dcZ1 Z c) (sm_rf w)
      refine sg_ic (pc := 28) (v := 0) C d_M_decode_28 (by decide) ?_
      refine sg_is7 (pc := 29) C d_M_decode_29 ?_
      have loop2 : ∀ t k z8, k + t = 5 → sm_G Γ Ω 723 0 0 31 [some (.ref (Ω.2.1 + 4)), some (.ref (Ω.2.1 + 1)), some (.ref (Ω.2.1 + 71)), some (.int (nI o)), some (.ref (Ω.2.1 + 73)), some (.int (nI n)), some (.int (nI c)), some (.int (nI k)), z8] [] (dcZ2 X v Z c k) (sm_rf w) := by
        intro t
        induction t with
        | zero =>
          intro k z8 hk
          refine sg_il (pc := 31) C d_M_decode_31 rfl ?_
          refine sg_ic (pc := 33) (v := 5) C d_M_decode_33 (by decide) ?_
          refine sg_icge (pc := 34) (tgt := 96) C d_M_decode_34 (by decide) (by omega) (by omega) (fun h34 => ?_) (fun h34 => absurd h34 (by omega))
          refine sg_aln (pc := 96) C d_M_decode_96 rfl ?_
          refine sg_al (pc := 97) C d_M_decode_97 rfl ?_
          refine sg_getr (pc := 99) C fw_M_49 (by omega) rfl rfl rfl d_M_decode_99 ?_
          refine sg_aln (pc := 102) C d_M_decode_102 rfl ?_
          refine sg_getr (pc := 103) C fw_M_16 (by omega) rfl rfl rfl d_M_decode_103 ?_
          refine sg_ic (pc := 106) (v := 5) C d_M_decode_106 (by decide) ?_
          rw [show k = 5 by omega]
          refine sm_callV (pc := 107) (As := [.ref (Ω.2.1 + 75), .ref (Ω.2.1 + 70), .int (nI 5)]) C I (c_G_interpolate l Ω (X := dcZ2 X v Z c 5) (i := 75) (j := 70) (m := 5) (ni := 8) (nj := 5) (gk 5) (by decide) rfl (by decide) (by decide) rfl (by decide) (by decide) (by decide) (by decide) (by decide) (by decide) (by decide) (fun k hk => by rw [e75]; have := hT k hk; omega) (fun k hk => by rw [show dcZ2 X v Z c 5 70 k = dcV X v Z c k from sm_uf_s.trans (if_pos hk), dc_val hI hv (by omega)]; exact gf_h_lt (fun i => by show (if i < 5 then mx v c i else 0) < 256; split; exact mx_lt hv c i; decide) _ _ _)) cw_M_63 iw_G_interpolate (C.1.2.2.2.2 _ (List.mem_cons_of_mem _ se_G_interpolate)) (by omega) rfl rfl rfl rfl (by decide) ⟨by decide, by decide⟩ rfl (Nat.le_of_ble_eq_true rfl) d_M_decode_107 (sm_det_v ?_)
          change sm_G Γ Ω 723 0 0 (107 + 3) _ _ (dcZ3 X v Z c) (sm_rf w)
          refine sg_aln (pc := 110) C d_M_decode_110 rfl ?_
          refine sg_il (pc := 111) C d_M_decode_111 rfl ?_
          refine sm_callV (pc := 113) (As := [.int (nI c)]) C I (c_M_setFirstFive l Ω (i := c) (by omega)) cw_M_67 iw_M_setFirstFive (C.1.2.2.2.2 _ (List.mem_cons_of_mem _ se_M_setFirstFive)) (by omega) rfl rfl rfl rfl (by decide) ⟨by decide, by decide⟩ rfl (Nat.le_of_ble_eq_true rfl) d_M_decode_113 (sm_det_v ?_)
          refine sg_dec6 (pc := 116) C d_M_decode_116 ?_
          refine sg_goto (pc := 119) (tgt := 12) C d_M_decode_119 (by decide) ?_
          exact ih1 _ _ _ (by omega) (dc_step hI hv (by omega) (by omega) (fun k hk => by have := hT k hk; omega) (fun a b ha hb he => hdi a b ha hb (by have := hT a ha; have := hT b hb; omega)))
        | succ t ih2 =>
          intro k z8 hk
          obtain ⟨m1, m2⟩ := hT k (by omega)
          have hwk := hw (X 74 k) o
          refine sg_il (pc := 31) C d_M_decode_31 rfl ?_
          refine sg_ic (pc := 33) (v := 5) C d_M_decode_33 (by decide) ?_
          refine sg_icge (pc := 34) (tgt := 96) C d_M_decode_34 (by decide) (by omega) (by omega) (fun h34 => absurd h34 (by omega)) (fun h34 => ?_)
          refine sg_aln (pc := 37) C d_M_decode_37 rfl ?_
          refine sg_al (pc := 38) C d_M_decode_38 rfl ?_
          refine sg_getr (pc := 40) C fw_M_49 (by omega) rfl rfl rfl d_M_decode_40 ?_
          refine sg_il (pc := 43) C d_M_decode_43 rfl ?_
          refine sg_iald (pc := 45) (n := 8) C (by omega) rfl (by omega) (by decide) d_M_decode_45 ?_
          rw [e75]
          refine sg_aln (pc := 46) C d_M_decode_46 rfl ?_
          refine sg_getr (pc := 47) C fw_M_11 (by omega) rfl rfl rfl d_M_decode_47 ?_
          refine sg_il (pc := 50) C d_M_decode_50 rfl ?_
          refine sg_aald (pc := 52) (n := 64) (t := 3) C (by omega) rfl (by decide) rfl rfl (by omega) (by decide) (rf_rows (by omega)) d_M_decode_52 ?_
          refine sg_ic (pc := 53) (v := 0) C d_M_decode_53 (by decide) ?_
          refine sm_callV (pc := 54) (As := [.int (nI (X 75 k)), .ref (Ω.2.1 + (6 + c)), .int (nI 0)]) C I (c_G_valueAt l Ω (X := dcZ2 X v Z c k) (p := X 75 k) (i := 6 + c) (n := 8) (fr := 0) (gk k) (by omega) (by omega) (sh_R (by omega)) (by decide) (by decide) (fun j hj => by rw [Nat.zero_add, show dcZ2 X v Z c k (6 + c) j = dcZ1 Z c (6 + c) j from sm_uf_o (by omega)]; exact rb j hj)) cw_M_39 iw_G_valueAt (C.1.2.2.2.2 _ (List.mem_cons_of_mem _ se_G_valueAt)) (by omega) rfl rfl rfl rfl (by decide) ⟨by decide, by decide⟩ rfl (Nat.le_of_ble_eq_true rfl) d_M_decode_54 (sm_det_i ?_)
          rw [show gf_h (fun j => dcZ2 X v Z c k (6 + c) (0 + j)) (X 75 k) 0 8 = gf_h (dcZ1 Z c (6 + c)) (X 75 k) 0 8 from gf_h_uf (by omega)]
          refine sg_is8 (pc := 57) C d_M_decode_57 ?_
          refine sg_aln (pc := 59) C d_M_decode_59 rfl ?_
          refine sg_getr (pc := 60) C fw_M_16 (by omega) rfl rfl rfl d_M_decode_60 ?_
          refine sg_il (pc := 63) C d_M_decode_63 rfl ?_
          refine sg_aln (pc := 65) C d_M_decode_65 rfl ?_
          refine sg_al (pc := 66) C d_M_decode_66 rfl ?_
          refine sg_getr (pc := 68) C fw_M_54 (by omega) rfl rfl rfl d_M_decode_68 ?_
          refine sg_il (pc := 71) C d_M_decode_71 rfl ?_
          refine sg_iald (pc := 73) (n := 8) C (by omega) rfl (by omega) (by decide) d_M_decode_73 ?_
          rw [e74]
          refine sg_aald (pc := 74) (n := 12) (t := 4) C (by omega) rfl (by decide) rfl rfl (by omega) (by decide) (rf_nodes (by omega)) d_M_decode_74 ?_
          refine sg_getr (pc := 75) C fw_M_57 (by omega) (sh_N (by omega)) rfl (rf_N1 (by omega)) d_M_decode_75 ?_
          refine sg_iln (pc := 78) C d_M_decode_78 rfl ?_
          refine sg_aald (pc := 79) (n := 12) (t := 6) C (by omega) (sh_Ns (by omega)) (by decide) rfl rfl (by omega) (by decide) (rf_Ns (by omega) (by omega)) d_M_decode_79 ?_
          refine sg_getr (pc := 80) C fw_M_36 (by omega) (sh_S (by omega) (by omega) (hw _ _)) rfl (rf_S2 (by omega) (by omega) (hw _ _)) d_M_decode_80 ?_
          refine sg_il (pc := 83) C d_M_decode_83 rfl ?_
          refine sg_iald (pc := 85) (n := 64) C (by omega) (sh_Sb (by omega) (by omega) (hw _ _)) (by omega) (by decide) d_M_decode_85 ?_
          rw [show dcZ2 X v Z c k (83 + 51 * X 74 k + 4 * o + 2 * w (X 74 k) o) c = mx_b v (X 75 k) c by rw [dcZ2_o (by omega) (by omega), hI.1 _ _ (by omega), hB k (by omega) c (by omega), m2]]
          refine sg_il (pc := 86) C d_M_decode_86 rfl ?_
          refine sg_xor (pc := 88) C d_M_decode_88 ?_
          rw [show mx_b v (X 75 k) c ^^^ gf_h (dcZ1 Z c (6 + c)) (X 75 k) 0 8 = dcV X v Z c k from rfl]
          refine sg_iast (pc := 89) (n := 5) C (by omega) rfl (by omega) (by decide) d_M_decode_89 ?_
          rw [dcZ2_s]
          refine sg_inc7 (pc := 90) (n := 1) C d_M_decode_90 (by decide) ?_
          refine sg_goto (pc := 93) (tgt := 31) C d_M_decode_93 (by decide) ?_
          exact ih2 (k + 1) _ (by omega)
      have h0 := loop2 5 0 z8 (by omega)
      rw [dcZ2_0] at h0
      exact h0
  have h0 := loop1 (8 * ((n + 29) / 30)) X none none (Nat.le_refl _) hI0
  rw [show nI (8 * ((n + 29) / 30)) + (-1) = nI ((8 * ((n + 29) / 30)) - 1) by rw [show (8 * ((n + 29) / 30)) = (8 * ((n + 29) / 30)) - 1 + 1 by omega]; exact sn_m1 _] at h0
  exact h0
