/-! Sending shadows -/
theorem gal_of {X Z : sm_X} (hG : gal X) (h2 : ∀ k, Z 2 k = X 2 k) (h3 : ∀ k, Z 3 k = X 3 k) : gal Z := ⟨fun k hk => (h2 k).trans (hG.1 k hk), fun a ha => (h3 a).trans (hG.2 a ha)⟩
theorem sm_up_lt {X : sm_X} {c j v a k N : Nat} (hv : v < N) (h : X a k < N) : sm_up X c j v a k < N := by
  unfold sm_up
  split
  · exact hv
  · exact h
theorem mf_lt {X : sm_X} {n : Nat} (hl : ∀ q, q < 240 → X 77 q < 256) (hr : ∀ r, r < 64 → ∀ j, j < 8 → X (6 + r) j < 256) {r j : Nat} (h1 : r < 64) (h2 : j < 8) : ∀ q, q ≤ 240 → mf X n q (6 + r) j < 256
  | 0, _ => hr r h1 j h2
  | q + 1, hq => by
    have hv : mv X n q < 256 := by
      unfold mv
      split
      · exact hl q (by omega)
      · decide
    exact sm_up_lt hv (sm_up_lt hv (mf_lt hl hr h1 h2 q (by omega)))
def ssX (T : Nat → Bool) (Z : sm_X) (w : Nat → Nat → Nat) (o m n k : Nat) : sm_X := fun a j =>
  if ((a - 79) / 51) < k ∧ T ((a - 79) / 51) = true ∧ a = 82 + 51 * ((a - 79) / 51) + 4 * o + 2 * (1 - w ((a - 79) / 51) o) ∧ j < 2 then (if j = 0 then m else n) else if ((a - 79) / 51) < k ∧ T ((a - 79) / 51) = true ∧ a = 83 + 51 * ((a - 79) / 51) + 4 * o + 2 * (1 - w ((a - 79) / 51) o) ∧ j < 8 * ((n + 29) / 30) then gf_h (Z (6 + j)) (((a - 79) / 51) + 1) 0 8 else Z a j
section
variable {T : Nat → Bool} {Z : sm_X} {w : Nat → Nat → Nat} {o m n k : Nat}
theorem ssX_o {a j : Nat} (h1 : ¬ (((a - 79) / 51) < k ∧ T ((a - 79) / 51) = true ∧ a = 82 + 51 * ((a - 79) / 51) + 4 * o + 2 * (1 - w ((a - 79) / 51) o) ∧ j < 2)) (h2 : ¬ (((a - 79) / 51) < k ∧ T ((a - 79) / 51) = true ∧ a = 83 + 51 * ((a - 79) / 51) + 4 * o + 2 * (1 - w ((a - 79) / 51) o) ∧ j < 8 * ((n + 29) / 30))) : ssX T Z w o m n k a j = Z a j := (if_neg h1).trans (if_neg h2)
theorem ssX_0 : ssX T Z w o m n 0 = Z := funext fun a => funext fun j => ssX_o (by omega) (by omega)
theorem ssX_f (h : T k = false) : ssX T Z w o m n (k + 1) = ssX T Z w o m n k := by
  funext a j
  unfold ssX
  by_cases e : ((a - 79) / 51) = k
  · rw [e, if_neg (by rw [h]; simp), if_neg (by rw [h]; simp), if_neg (by omega), if_neg (by omega)]
  · by_cases h1 : ((a - 79) / 51) < k ∧ T ((a - 79) / 51) = true ∧ a = 82 + 51 * ((a - 79) / 51) + 4 * o + 2 * (1 - w ((a - 79) / 51) o) ∧ j < 2
    · rw [if_pos h1, if_pos ⟨by omega, h1.2⟩]
    · rw [if_neg h1, if_neg (fun q => h1 ⟨by omega, q.2⟩)]
      by_cases h2 : ((a - 79) / 51) < k ∧ T ((a - 79) / 51) = true ∧ a = 83 + 51 * ((a - 79) / 51) + 4 * o + 2 * (1 - w ((a - 79) / 51) o) ∧ j < 8 * ((n + 29) / 30)
      · rw [if_pos h2, if_pos ⟨by omega, h2.2⟩]
      · rw [if_neg h2, if_neg (fun q => h2 ⟨by omega, q.2⟩)]
theorem ssX_end : ∀ d, (∀ j, k ≤ j → j < k + d → T j = false) → ssX T Z w o m n (k + d) = ssX T Z w o m n k
  | 0, _ => rfl
  | d + 1, h => (ssX_f (h (k + d) (by omega) (by omega))).trans (ssX_end d (fun j h1 h2 => h j h1 (by omega)))
theorem ssX_v {a j : Nat} (h : ((a - 79) / 51) < k ∧ T ((a - 79) / 51) = true ∧ a = 82 + 51 * ((a - 79) / 51) + 4 * o + 2 * (1 - w ((a - 79) / 51) o) ∧ j < 2) : ssX T Z w o m n k a j = if j = 0 then m else n := if_pos h
theorem ssX_b {a j : Nat} (h1 : ¬ (((a - 79) / 51) < k ∧ T ((a - 79) / 51) = true ∧ a = 82 + 51 * ((a - 79) / 51) + 4 * o + 2 * (1 - w ((a - 79) / 51) o) ∧ j < 2)) (h : ((a - 79) / 51) < k ∧ T ((a - 79) / 51) = true ∧ a = 83 + 51 * ((a - 79) / 51) + 4 * o + 2 * (1 - w ((a - 79) / 51) o) ∧ j < 8 * ((n + 29) / 30)) : ssX T Z w o m n k a j = gf_h (Z (6 + j)) (((a - 79) / 51) + 1) 0 8 := (if_neg h1).trans (if_pos h)
theorem ssX_t (ho : o < 12) (hn : n ≤ 240) (h : T k = true) : sm_uf (sm_up (sm_up (ssX T Z w o m n k) (82 + 51 * k + 4 * o + 2 * (1 - w k o)) 0 m) (82 + 51 * k + 4 * o + 2 * (1 - w k o)) 1 n) (83 + 51 * k + 4 * o + 2 * (1 - w k o)) (fun j => if j < 8 * (((sm_up (sm_up (ssX T Z w o m n k) (82 + 51 * k + 4 * o + 2 * (1 - w k o)) 0 m) (82 + 51 * k + 4 * o + 2 * (1 - w k o)) 1 n) (82 + 51 * k + 4 * o + 2 * (1 - w k o)) 1 + 29) / 30) then gf_h ((sm_up (sm_up (ssX T Z w o m n k) (82 + 51 * k + 4 * o + 2 * (1 - w k o)) 0 m) (82 + 51 * k + 4 * o + 2 * (1 - w k o)) 1 n) (6 + j)) (k + 1) 0 8 else (sm_up (sm_up (ssX T Z w o m n k) (82 + 51 * k + 4 * o + 2 * (1 - w k o)) 0 m) (82 + 51 * k + 4 * o + 2 * (1 - w k o)) 1 n) (83 + 51 * k + 4 * o + 2 * (1 - w k o)) j) = ssX T Z w o m n (k + 1) := by
  have e0 : ((82 + 51 * k + 4 * o + 2 * (1 - w k o)) - 79) / 51 = k := by omega
  have e1 : ((83 + 51 * k + 4 * o + 2 * (1 - w k o)) - 79) / 51 = k := by omega
  have eN : (sm_up (sm_up (ssX T Z w o m n k) (82 + 51 * k + 4 * o + 2 * (1 - w k o)) 0 m) (82 + 51 * k + 4 * o + 2 * (1 - w k o)) 1 n) (82 + 51 * k + 4 * o + 2 * (1 - w k o)) 1 = n := sm_up_s
  rw [eN]
  funext a j
  by_cases ha : a = (83 + 51 * k + 4 * o + 2 * (1 - w k o))
  · subst ha
    rw [sm_uf_s]
    by_cases hj : j < 8 * ((n + 29) / 30)
    · rw [if_pos hj, ssX_b (k := k + 1) (by rw [e1]; omega) (by rw [e1]; exact ⟨by omega, h, rfl, hj⟩), e1]
      refine gf_h_congr 8 0 (fun i _ _ => ?_)
      rw [sm_up_x (Or.inl (by omega)), sm_up_x (Or.inl (by omega))]
      exact ssX_o (by omega) (by omega)
    · rw [if_neg hj, sm_up_x (Or.inl (by omega)), sm_up_x (Or.inl (by omega)), ssX_o (by rw [e1]; omega) (by rw [e1]; omega), ssX_o (k := k + 1) (by rw [e1]; omega) (by rw [e1]; omega)]
  · rw [sm_uf_o ha]
    by_cases hc : a = (82 + 51 * k + 4 * o + 2 * (1 - w k o))
    · subst hc
      by_cases h1 : j = 1
      · subst h1
        rw [sm_up_s, ssX_v (k := k + 1) (by rw [e0]; exact ⟨by omega, h, rfl, by decide⟩), if_neg (by decide)]
      · rw [sm_up_n h1]
        by_cases h0 : j = 0
        · subst h0
          rw [sm_up_s, ssX_v (k := k + 1) (by rw [e0]; exact ⟨by omega, h, rfl, by decide⟩), if_pos rfl]
        · rw [sm_up_n h0, ssX_o (by rw [e0]; omega) (by rw [e0]; omega), ssX_o (k := k + 1) (by rw [e0]; omega) (by rw [e0]; omega)]
    · rw [sm_up_x (Or.inl hc), sm_up_x (Or.inl hc)]
      by_cases h1 : ((a - 79) / 51) < k ∧ T ((a - 79) / 51) = true ∧ a = 82 + 51 * ((a - 79) / 51) + 4 * o + 2 * (1 - w ((a - 79) / 51) o) ∧ j < 2
      · rw [ssX_v h1, ssX_v (k := k + 1) ⟨by omega, h1.2⟩]
      · have h1' : ¬ (((a - 79) / 51) < k + 1 ∧ T ((a - 79) / 51) = true ∧ a = 82 + 51 * ((a - 79) / 51) + 4 * o + 2 * (1 - w ((a - 79) / 51) o) ∧ j < 2) := fun q => by
          by_cases e : ((a - 79) / 51) = k
          · rw [e] at q; exact hc q.2.2.1
          · exact h1 ⟨by omega, q.2⟩
        by_cases h2 : ((a - 79) / 51) < k ∧ T ((a - 79) / 51) = true ∧ a = 83 + 51 * ((a - 79) / 51) + 4 * o + 2 * (1 - w ((a - 79) / 51) o) ∧ j < 8 * ((n + 29) / 30)
        · rw [ssX_b h1 h2, ssX_b (k := k + 1) h1' ⟨by omega, h2.2⟩]
        · have h2' : ¬ (((a - 79) / 51) < k + 1 ∧ T ((a - 79) / 51) = true ∧ a = 83 + 51 * ((a - 79) / 51) + 4 * o + 2 * (1 - w ((a - 79) / 51) o) ∧ j < 8 * ((n + 29) / 30)) := fun q => by
            by_cases e : ((a - 79) / 51) = k
            · rw [e] at q; exact ha q.2.2.1
            · exact h2 ⟨by omega, q.2⟩
          rw [ssX_o h1 h2, ssX_o (k := k + 1) h1' h2']
end
def ssT (X : sm_X) (c k : Nat) : Bool := slv X k && decide (sm_n (slv X) k < c)
def ssZ (X : sm_X) (o : Nat) : sm_X := mf X (X (691 + o) 3) (30 * ((X (691 + o) 3 + 29) / 30))

set_option maxHeartbeats 4000000 in
set_option maxRecDepth 100000 in
theorem c_S_sendShadows (l : Launch) (Ω : sm_Ω) {X : sm_X} {w : Nat → Nat → Nat} (hf : swf X w) {o c : Nat} (ho : o < 12) (hc : c < 2 ^ 31) (hG : gal X) (hl : ∀ q, q < 240 → X 77 q < 256) (hr : ∀ r, r < 64 → ∀ j, j < 8 → X (6 + r) j < 256) : sm_met l Ω y_S_sendShadows b_S_sendShadows 7 none 4 723 [.ref (Ω.2.1 + 0), .int (nI o), .int (nI c)] X (sm_rf w) (sm_det none (ssX (ssT X c) (ssZ X o) w o (X (691 + o) 2) (X (691 + o) 3) 12) (sm_rf w)) := by
  refine sm_intro (own := RX6) (L := [some (.ref (Ω.2.1 + 0)), some (.int (nI o)), some (.int (nI c)), none, none, none, none]) (by decide) rfl (by simp [Value.category]) (Nat.le_of_ble_eq_true rfl) rfl ?_
  intro Γ C I
  have hw := hf.1
  have gi := hf.2.2.1 o ho
  have gn := gi.2.2.2
  have zo : ∀ a b, (a < 6 ∨ 70 ≤ a) → ssZ X o a b = X a b := fun a b h => mf_o h _ (by omega)
  have zr : ∀ r, r < 64 → ∀ j, j < 8 → ssZ X o (6 + r) j < 256 := fun r h1 j h2 => mf_lt hl hr h1 h2 _ (by omega)
  refine sg_aln (pc := 0) C d_S_sendShadows_0 rfl ?_
  refine sg_getr (pc := 1) C fw_S_31 (by omega) rfl rfl rfl d_S_sendShadows_1 ?_
  refine sg_iln (pc := 4) C d_S_sendShadows_4 rfl ?_
  refine sg_aald (pc := 5) (n := 12) (t := 5) C (by omega) rfl (by decide) rfl rfl (by omega) (by decide) (rf_items (by omega)) d_S_sendShadows_5 ?_
  refine sg_as3 (pc := 6) C d_S_sendShadows_6 ?_
  refine sg_aln (pc := 7) C d_S_sendShadows_7 rfl ?_
  refine sg_getr (pc := 8) C fw_S_19 (by omega) rfl rfl rfl d_S_sendShadows_8 ?_
  refine sg_aln (pc := 11) C d_S_sendShadows_11 rfl ?_
  refine sg_getr (pc := 12) C fw_S_46 (by omega) rfl rfl rfl d_S_sendShadows_12 ?_
  refine sg_aln (pc := 15) C d_S_sendShadows_15 rfl ?_
  refine sg_geti (pc := 16) C fw_S_206 (by omega) (sh_I (by omega)) rfl d_S_sendShadows_16 ?_
  refine sm_callV (pc := 19) (As := [.ref (Ω.2.1 + 77), .int (nI (X (691 + o) 3))]) C I (c_M_fill l Ω (by omega)) cw_S_209 iw_M_fill (C.1.2.2.2.2 _ (List.mem_cons_of_mem _ se_M_fill)) (by omega) rfl rfl rfl rfl (by decide) ⟨by decide, by decide⟩ rfl (Nat.le_of_ble_eq_true rfl) d_S_sendShadows_19 (sm_det_v ?_)
  change sm_G Γ Ω 723 0 0 (19 + 3) _ _ (ssZ X o) (sm_rf w)
  refine sg_iln (pc := 22) C d_S_sendShadows_22 rfl ?_
  refine sg_is4 (pc := 23) C d_S_sendShadows_23 ?_
  refine sg_ic (pc := 25) (v := 0) C d_S_sendShadows_25 (by decide) ?_
  refine sg_is5 (pc := 26) C d_S_sendShadows_26 ?_
  have loop : ∀ t k z, k + t = 12 → sm_G Γ Ω 723 0 0 28 [some (.ref (Ω.2.1 + 0)), some (.int (nI o)), some (.int (nI c)), some (.ref (Ω.2.1 + (691 + o))), some (.int (nI (c - sm_n (slv X) k))), some (.int (nI k)), z] [] (ssX (ssT X c) (ssZ X o) w o (X (691 + o) 2) (X (691 + o) 3) k) (sm_rf w) := by
    intro t
    induction t with
    | zero =>
      intro k z hk
      refine sg_il (pc := 28) C d_S_sendShadows_28 rfl ?_
      refine sg_bi (pc := 30) (v := 12) C d_S_sendShadows_30 (by decide) ?_
      refine sg_icge (pc := 32) (tgt := 112) C d_S_sendShadows_32 (by decide) (by omega) (by omega) (fun h32 => ?_) (fun h32 => absurd h32 (by omega))
      exact sg_vret (pc := 112) C I rfl d_S_sendShadows_112 ⟨rfl, by rw [show k = 12 by omega], rfl⟩
    | succ t ih =>
      intro k z hk
      have hbk := hf.2.1 k (by omega)
      have hwk := hw k o
      have e3 : (ssX (ssT X c) (ssZ X o) w o (X (691 + o) 2) (X (691 + o) 3) k) (79 + 51 * k) 3 = X (79 + 51 * k) 3 := (ssX_o (by omega) (by omega)).trans (zo _ _ (by omega))
      have e0 : (ssX (ssT X c) (ssZ X o) w o (X (691 + o) 2) (X (691 + o) 3) k) (79 + 51 * k) 0 = k + 1 := (ssX_o (by omega) (by omega)).trans ((zo _ _ (by omega)).trans hbk.1)
      have e4 : (ssX (ssT X c) (ssZ X o) w o (X (691 + o) 2) (X (691 + o) 3) k) (691 + o) 2 = (X (691 + o) 2) := (ssX_o (by omega) (by omega)).trans (zo _ _ (by omega))
      have e5 : (ssX (ssT X c) (ssZ X o) w o (X (691 + o) 2) (X (691 + o) 3) k) (691 + o) 3 = (X (691 + o) 3) := (ssX_o (by omega) (by omega)).trans (zo _ _ (by omega))
      have gg : gal (ssX (ssT X c) (ssZ X o) w o (X (691 + o) 2) (X (691 + o) 3) k) := gal_of hG (fun j => (ssX_o (by omega) (by omega)).trans (zo _ _ (by omega))) (fun j => (ssX_o (by omega) (by omega)).trans (zo _ _ (by omega)))
      have rr : ∀ r, r < 64 → ∀ j, j < 8 → (ssX (ssT X c) (ssZ X o) w o (X (691 + o) 2) (X (691 + o) 3) k) (6 + r) j < 256 := fun r h1 j h2 => by rw [ssX_o (by omega) (by omega)]; exact zr r h1 j h2
      have en : sm_n (slv X) (k + 1) = sm_n (slv X) k + (if slv X k = true then 1 else 0) := rfl
      refine sg_il (pc := 28) C d_S_sendShadows_28 rfl ?_
      refine sg_bi (pc := 30) (v := 12) C d_S_sendShadows_30 (by decide) ?_
      refine sg_icge (pc := 32) (tgt := 112) C d_S_sendShadows_32 (by decide) (by omega) (by omega) (fun h32 => absurd h32 (by omega)) (fun h32 => ?_)
      refine sg_il (pc := 35) C d_S_sendShadows_35 rfl ?_
      refine sg_ifle (pc := 37) (tgt := 112) C d_S_sendShadows_37 (by decide) (by omega) (fun h37 => ?_) (fun h37 => ?_)
      · exact sg_vret (pc := 112) C I rfl d_S_sendShadows_112 (by
            have hz : ∀ j, k ≤ j → j < k + (12 - k) → ssT X c j = false := fun j h1 h2 => by
              have := sm_n_mono (slv X) h1
              simp [ssT]; omega
            have he := ssX_end (Z := ssZ X o) (w := w) (o := o) (m := (X (691 + o) 2)) (n := (X (691 + o) 3)) (12 - k) hz
            rw [show k + (12 - k) = 12 by omega] at he
            exact ⟨rfl, he.symm, rfl⟩)
      · refine sg_aln (pc := 40) C d_S_sendShadows_40 rfl ?_
        refine sg_getr (pc := 41) C fw_S_25 (by omega) rfl rfl rfl d_S_sendShadows_41 ?_
        refine sg_il (pc := 44) C d_S_sendShadows_44 rfl ?_
        refine sg_aald (pc := 46) (n := 12) (t := 4) C (by omega) rfl (by decide) rfl rfl (by omega) (by decide) (rf_nodes (by omega)) d_S_sendShadows_46 ?_
        refine sg_geti (pc := 47) C fw_S_149 (by omega) (sh_N (by omega)) rfl d_S_sendShadows_47 ?_
        rw [e3]
        refine sg_ifeq (pc := 50) (tgt := 106) C d_S_sendShadows_50 (by decide) (by omega) (fun h50 => ?_) (fun h50 => ?_)
        · refine sg_inc5 (pc := 106) (n := 1) C d_S_sendShadows_106 (by decide) ?_
          refine sg_goto (pc := 109) (tgt := 28) C d_S_sendShadows_109 (by decide) ?_
          have hp : slv X k = false := by simp [slv, h50]
          have hT : ssT X c k = false := by simp [ssT, hp]
          have h := ih (k + 1) z (by omega)
          rw [en, hp, ssX_f hT] at h
          exact h
        · refine sg_aln (pc := 53) C d_S_sendShadows_53 rfl ?_
          refine sg_getr (pc := 54) C fw_S_25 (by omega) rfl rfl rfl d_S_sendShadows_54 ?_
          refine sg_il (pc := 57) C d_S_sendShadows_57 rfl ?_
          refine sg_aald (pc := 59) (n := 12) (t := 4) C (by omega) rfl (by decide) rfl rfl (by omega) (by decide) (rf_nodes (by omega)) d_S_sendShadows_59 ?_
          refine sg_getr (pc := 60) C fw_S_212 (by omega) (sh_N (by omega)) rfl (rf_N2 (by omega)) d_S_sendShadows_60 ?_
          refine sg_iln (pc := 63) C d_S_sendShadows_63 rfl ?_
          refine sg_aald (pc := 64) (n := 12) (t := 6) C (by omega) (sh_Nh (by omega)) (by decide) rfl rfl (by omega) (by decide) (rf_Nh (by omega) (by omega)) d_S_sendShadows_64 ?_
          refine sg_as6 (pc := 65) C d_S_sendShadows_65 ?_
          refine sg_al (pc := 67) C d_S_sendShadows_67 rfl ?_
          refine sg_aln (pc := 69) C d_S_sendShadows_69 rfl ?_
          refine sg_geti (pc := 70) C fw_S_97 (by omega) (sh_I (by omega)) rfl d_S_sendShadows_70 ?_
          rw [e4]
          refine sg_aln (pc := 73) C d_S_sendShadows_73 rfl ?_
          refine sg_geti (pc := 74) C fw_S_206 (by omega) (sh_I (by omega)) rfl d_S_sendShadows_74 ?_
          rw [e5]
          refine sm_callV (pc := 77) (As := [.int (nI (X (691 + o) 2)), .int (nI (X (691 + o) 3))]) C I (c_H_become l Ω (by omega) (sh_S (by omega) ho (by omega))) cw_S_215 iw_H_become (C.1.2.2.2.2 _ (List.mem_cons_of_mem _ se_H_become)) (by omega) (sh_S (by omega) (by omega) (by omega)) rfl rfl rfl (by decide) ⟨by decide, by decide⟩ rfl (Nat.le_of_ble_eq_true rfl) d_S_sendShadows_77 (sm_det_v ?_)
          refine sg_aln (pc := 80) C d_S_sendShadows_80 rfl ?_
          refine sg_getr (pc := 81) C fw_S_19 (by omega) rfl rfl rfl d_S_sendShadows_81 ?_
          refine sg_aln (pc := 84) C d_S_sendShadows_84 rfl ?_
          refine sg_getr (pc := 85) C fw_S_12 (by omega) rfl rfl rfl d_S_sendShadows_85 ?_
          refine sg_aln (pc := 88) C d_S_sendShadows_88 rfl ?_
          refine sg_getr (pc := 89) C fw_S_25 (by omega) rfl rfl rfl d_S_sendShadows_89 ?_
          refine sg_il (pc := 92) C d_S_sendShadows_92 rfl ?_
          refine sg_aald (pc := 94) (n := 12) (t := 4) C (by omega) rfl (by decide) rfl rfl (by omega) (by decide) (rf_nodes (by omega)) d_S_sendShadows_94 ?_
          refine sg_geti (pc := 95) C fw_S_218 (by omega) (sh_N (by omega)) rfl d_S_sendShadows_95 ?_
          rw [sm_up_x (Or.inl (by omega)), sm_up_x (Or.inl (by omega)), e0]
          refine sg_al (pc := 98) C d_S_sendShadows_98 rfl ?_
          refine sm_callV (pc := 100) (As := [.ref (Ω.2.1 + 1), .int (nI (k + 1)), .ref (Ω.2.1 + (82 + 51 * k + 4 * o + 2 * (1 - w k o)))]) C I (c_M_encode l Ω (X := (sm_up (sm_up (ssX (ssT X c) (ssZ X o) w o (X (691 + o) 2) (X (691 + o) 3) k) (82 + 51 * k + 4 * o + 2 * (1 - w k o)) 0 (X (691 + o) 2)) (82 + 51 * k + 4 * o + 2 * (1 - w k o)) 1 (X (691 + o) 3))) (n := k) (o := o) (b := 1 - w k o) (p := k + 1) (by omega) ho (by omega) (gal_of gg (fun j => (sm_up_x (Or.inl (by omega))).trans (sm_up_x (Or.inl (by omega)))) (fun j => (sm_up_x (Or.inl (by omega))).trans (sm_up_x (Or.inl (by omega))))) (by omega) (by rw [sm_up_s]; exact gn) (fun r h1 j h2 => by rw [sm_up_x (Or.inl (by omega)), sm_up_x (Or.inl (by omega))]; exact rr r h1 j h2)) cw_S_221 iw_M_encode (C.1.2.2.2.2 _ (List.mem_cons_of_mem _ se_M_encode)) (by omega) rfl rfl rfl rfl (by decide) ⟨by decide, by decide⟩ rfl (Nat.le_of_ble_eq_true rfl) d_S_sendShadows_100 (sm_det_v ?_)
          have hT : ssT X c k = true := by simp [ssT, slv, h50]; omega
          rw [ssX_t ho gn hT]
          refine sg_dec4 (pc := 103) C d_S_sendShadows_103 ?_
          refine sg_inc5 (pc := 106) (n := 1) C d_S_sendShadows_106 (by decide) ?_
          refine sg_goto (pc := 109) (tgt := 28) C d_S_sendShadows_109 (by decide) ?_
          have hp : slv X k = true := by simp [slv, h50]
          have h := ih (k + 1) (some (.ref (Ω.2.1 + (82 + 51 * k + 4 * o + 2 * (1 - w k o))))) (by omega)
          rw [en, hp, if_pos rfl] at h
          rw [show c - sm_n (slv X) k = c - (sm_n (slv X) k + 1) + 1 by omega, sn_m1]
          exact h
  have h0 := loop 12 0 none (by omega)
  rw [ssX_0] at h0
  exact h0
