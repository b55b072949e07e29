/-! The reference: sendAll -/
theorem sm_any_s {p : Nat → Bool} {k : Nat} : sm_any p (k + 1) = (sm_any p k || p k) := by
  unfold sm_any
  rw [List.range_succ, List.any_append]
  simp
theorem sn_bl {b : Nat} (h : b < 2 ^ 31) : nI b + (-1) < 0 ↔ b = 0 := by
  constructor
  · intro e
    cases b with
    | zero => rfl
    | succ b =>
      rw [sn_m1] at e
      exact absurd e (nI_pos (by omega))
  · intro e
    subst e
    decide
theorem cN_ok {s : Nat → Nat} {p : Nat → Bool} (h8 : 8 ≤ sm_n p 12) {k : Nat} (hk : k < 8) : bs s (cQ s p k) 12 = cN s p k + 1 ∧ cN s p k < 12 ∧ cQ s p k (cN s p k) = true := by
  have h := cM_ok (X := fun a _ => s ((a - 79) / 51)) h8 hk
  have e : (fun n => (fun a (_ : Nat) => s ((a - 79) / 51)) (79 + 51 * n) 4) = s := funext fun n => by
    show s ((79 + 51 * n - 79) / 51) = s n
    rw [show (79 + 51 * n - 79) / 51 = n by omega]
  rw [cP_cQ, cM_cN, bst_bs] at h
  rw [e] at h
  exact ⟨h.1, h.2.1, h.2.2.1⟩
theorem cQ_any {s : Nat → Nat} {p : Nat → Bool} {q : Nat} : ∀ k, cQ s p k q = true → sm_any (fun i => decide (cN s p i = q)) k = false
  | 0, _ => rfl
  | k + 1, h => by
    have h1 : (cQ s p k q && decide (q ≠ bs s (cQ s p k) 12 - 1)) = true := h
    rw [Bool.and_eq_true] at h1
    rw [sm_any_s, cQ_any k h1.1, Bool.false_or]
    exact decide_eq_false (fun e => of_decide_eq_true h1.2 e.symm)
def saA (X : sm_X) (k : Nat) (Z : sm_X) : Prop := (∀ a j, a ≠ 720 → a ≠ 721 → Z a j = X a j) ∧ ∀ q, q < k → Z 720 q = X 712 q ∧ Z 721 q = 0
theorem saA_s {X Z : sm_X} {k : Nat} (h : saA X k Z) : saA X (k + 1) (sm_up (sm_up Z 720 k (X 712 k)) 721 k 0) := by
  refine ⟨fun a j h1 h2 => ?_, fun q hq => ?_⟩
  · rw [sm_up_x (Or.inl h2), sm_up_x (Or.inl h1)]; exact h.1 a j h1 h2
  · by_cases e : q = k
    · subst e
      rw [sm_up_s, sm_up_x (Or.inl (by decide)), sm_up_s]
      exact ⟨rfl, rfl⟩
    · exact ⟨(sm_up_x (Or.inr e)).trans ((sm_up_x (Or.inr e)).trans (h.2 q (by omega)).1), (sm_up_x (Or.inr e)).trans ((sm_up_x (Or.inr e)).trans (h.2 q (by omega)).2)⟩
def saB (X : sm_X) (P : Nat → Bool) (e k : Nat) (Z : sm_X) : Prop := (∀ a j, a ≠ 712 → a ≠ 720 → a ≠ 721 → Z a j = X a j) ∧ ∀ q, q < 12 → Z 720 q = X 712 q ∧ Z 721 q < 2 ∧ (decide (Z 721 q = 0) && P q) = cQ (X 712) P k q ∧ Z 712 q = X 712 q + (if sm_any (fun i => decide (cN (X 712) P i = q)) k = true then e else 0)
theorem saB_0 {X Z : sm_X} {P : Nat → Bool} {e : Nat} (h : saA X 12 Z) : saB X P e 0 Z := by
  refine ⟨fun a j h1 h2 h3 => h.1 a j h2 h3, fun q hq => ?_⟩
  have h4 := h.2 q hq
  refine ⟨h4.1, by rw [h4.2]; decide, by rw [h4.2]; rfl, ?_⟩
  rw [if_neg (by show ¬ sm_any _ 0 = true; rw [sm_any_f (fun i hi => absurd hi (Nat.not_lt_zero i))]; decide)]
  exact h.1 712 q (by decide) (by decide)
theorem saB_s {X Z : sm_X} {P : Nat → Bool} {e k : Nat} (h : saB X P e k Z) (h8 : 8 ≤ sm_n P 12) (hk : k < 8) : saB X P e (k + 1) (sm_up (sm_up Z 721 (cN (X 712) P k) 1) 712 (cN (X 712) P k) (Z 712 (cN (X 712) P k) + e)) := by
  have ok := cN_ok (s := X 712) h8 hk
  refine ⟨fun a j h1 h2 h3 => ?_, fun q hq => ?_⟩
  · rw [sm_up_x (Or.inl h1), sm_up_x (Or.inl h3)]; exact h.1 a j h1 h2 h3
  · have h4 := h.2 q hq
    have eQ : cQ (X 712) P (k + 1) q = (cQ (X 712) P k q && decide (q ≠ cN (X 712) P k)) := rfl
    rw [sm_up_x (a := 720) (Or.inl (by decide)), sm_up_x (a := 720) (Or.inl (by decide)), sm_up_x (a := 721) (Or.inl (by decide)), sm_any_s, eQ]
    by_cases e1 : q = cN (X 712) P k
    · subst e1
      have h5 := cQ_any k ok.2.2
      rw [sm_up_s, sm_up_s, h5, Bool.false_or, decide_eq_true rfl, if_pos rfl]
      rw [h5, if_neg (by decide), Nat.add_zero] at h4
      refine ⟨h4.1, by decide, ?_, by rw [h4.2.2.2]⟩
      rw [decide_eq_false (show ¬ (cN (X 712) P k ≠ cN (X 712) P k) from fun z => z rfl), Bool.and_false]
      rfl
    · rw [sm_up_n e1, sm_up_n e1, sm_up_x (Or.inl (by decide)), decide_eq_true e1, Bool.and_true, decide_eq_false (p := cN (X 712) P k = q) (fun z => e1 z.symm), Bool.or_false]
      exact h4
theorem rwf_B {X Z : sm_X} (hf : rwf X) (h : ∀ a j, a ≠ 712 → a ≠ 720 → a ≠ 721 → Z a j = X a j) (h2 : ∀ q, q < 12 → Z 712 q < 2 ^ 30) : rwf Z := by
  refine ⟨fun p hp => ?_, fun k hk => ?_⟩
  · have g := hf.1 p hp
    rw [h 706 p (by decide) (by decide) (by decide), h 707 p (by decide) (by decide) (by decide), h 708 p (by decide) (by decide) (by decide), h 709 p (by decide) (by decide) (by decide), h 710 p (by decide) (by decide) (by decide), h 711 p (by decide) (by decide) (by decide)]
    exact ⟨g.1, g.2.1, g.2.2.1, g.2.2.2.1, g.2.2.2.2.1, g.2.2.2.2.2.1, h2 p hp⟩
  · rw [h 713 k (by decide) (by decide) (by decide), h 714 k (by decide) (by decide) (by decide), h 716 k (by decide) (by decide) (by decide), h 717 k (by decide) (by decide) (by decide)]
    exact hf.2 k hk
theorem rch_B {X Z : sm_X} {n o m d : Nat} (h : ∀ a j, a ≠ 712 → a ≠ 720 → a ≠ 721 → Z a j = X a j) : rch Z n o m d = rch X n o m d := by
  unfold rch rlv rfr
  rw [h 711 d (by decide) (by decide) (by decide), h 713 _ (by decide) (by decide) (by decide), h 706 o (by decide) (by decide) (by decide)]

set_option maxHeartbeats 4000000 in
set_option maxRecDepth 100000 in
theorem c_R_sendAll (l : Launch) (Ω : sm_Ω) {X : sm_X} {w : Nat → Nat → Nat} (hf : rwf X) {n o m e : Nat} (hn : n < 12) (ho : o < 12) (hm : m < 4096) (he : e ≤ 8) (hs : ∀ q, q < 12 → X 712 q + 8 < 2 ^ 30) (h8 : 8 ≤ sm_n (rch X n o m) 12) : sm_met l Ω y_R_sendAll b_R_sendAll 8 (some .int) 4 723 [.ref (Ω.2.1 + 703), .int (nI n), .int (nI o), .int (nI m), .int (nI e)] X (sm_rf w) (fun r Z Y2 => r = some (.int (nI (cN (X 712) (rch X n o m) 7))) ∧ saB X (rch X n o m) e 8 Z ∧ Y2 = sm_rf w) := by
  refine sm_intro (own := RX7) (L := [some (.ref (Ω.2.1 + 703)), some (.int (nI n)), some (.int (nI o)), some (.int (nI m)), some (.int (nI e)), none, none, none]) (by decide) rfl (by simp [Value.category]) (Nat.le_of_ble_eq_true rfl) rfl ?_
  intro Γ C I
  refine sg_icm (pc := 0) (v := -1) C d_R_sendAll_0 (by decide) ?_
  refine sg_is5 (pc := 1) C d_R_sendAll_1 ?_
  refine sg_ic (pc := 3) (v := 0) C d_R_sendAll_3 (by decide) ?_
  refine sg_is6 (pc := 4) C d_R_sendAll_4 ?_
  have loop1 : ∀ t k (Z : sm_X), k + t = 12 → saA X k Z → sm_G Γ Ω 723 0 0 6 [some (.ref (Ω.2.1 + 703)), some (.int (nI n)), some (.int (nI o)), some (.int (nI m)), some (.int (nI e)), some (.int (-1)), some (.int (nI k)), none] [] Z (sm_rf w) := by
    intro t
    induction t with
    | zero =>
      intro k Z hk hA
      refine sg_il (pc := 6) C d_R_sendAll_6 rfl ?_
      refine sg_bi (pc := 8) (v := 12) C d_R_sendAll_8 (by decide) ?_
      refine sg_icge (pc := 10) (tgt := 41) C d_R_sendAll_10 (by decide) (by omega) (by omega) (fun h10 => ?_) (fun h10 => absurd h10 (by omega))
      refine sg_ic (pc := 41) (v := 0) C d_R_sendAll_41 (by decide) ?_
      refine sg_is6 (pc := 42) C d_R_sendAll_42 ?_
      have loop2 : ∀ t k (Z : sm_X) z y, k + t = 8 → saB X (rch X n o m) e k Z → (k = 8 → z = some (.int (nI (cN (X 712) (rch X n o m) 7)))) → sm_G Γ Ω 723 0 0 44 [some (.ref (Ω.2.1 + 703)), some (.int (nI n)), some (.int (nI o)), some (.int (nI m)), some (.int (nI e)), z, some (.int (nI k)), y] [] Z (sm_rf w) := by
        intro t
        induction t with
        | zero =>
          intro k Z z y hk hB hz
          obtain rfl := hz (by omega)
          obtain rfl : k = 8 := by omega
          refine sg_il (pc := 44) C d_R_sendAll_44 rfl ?_
          refine sg_bi (pc := 46) (v := 8) C d_R_sendAll_46 (by decide) ?_
          refine sg_icge (pc := 48) (tgt := 144) C d_R_sendAll_48 (by decide) (by omega) (by omega) (fun h48 => ?_) (fun h48 => absurd h48 (by omega))
          refine sg_il (pc := 144) C d_R_sendAll_144 rfl ?_
          exact sg_iret (pc := 146) C I rfl rfl d_R_sendAll_146 ⟨rfl, hB, rfl⟩
        | succ t ih2 =>
          intro k Z z y hk hB hz
          have ok := cN_ok (s := (X 712)) h8 (show k < 8 by omega)
          have hfz : rwf Z := rwf_B hf hB.1 (fun q hq => by have := hs q hq; rw [(hB.2 q hq).2.2.2]; split <;> omega)
          refine sg_il (pc := 44) C d_R_sendAll_44 rfl ?_
          refine sg_bi (pc := 46) (v := 8) C d_R_sendAll_46 (by decide) ?_
          refine sg_icge (pc := 48) (tgt := 144) C d_R_sendAll_48 (by decide) (by omega) (by omega) (fun h48 => absurd h48 (by omega)) (fun h48 => ?_)
          refine sg_icm (pc := 51) (v := -1) C d_R_sendAll_51 (by decide) ?_
          refine sg_is5 (pc := 52) C d_R_sendAll_52 ?_
          refine sg_ic (pc := 54) (v := 0) C d_R_sendAll_54 (by decide) ?_
          refine sg_is7 (pc := 55) C d_R_sendAll_55 ?_
          have loop3 : ∀ t j, j + t = 12 → sm_G Γ Ω 723 0 0 57 [some (.ref (Ω.2.1 + 703)), some (.int (nI n)), some (.int (nI o)), some (.int (nI m)), some (.int (nI e)), some (.int (nI (bs (X 712) (cQ (X 712) (rch X n o m) k) j) + (-1))), some (.int (nI k)), some (.int (nI j))] [] Z (sm_rf w) := by
            intro t
            induction t with
            | zero =>
              intro j hj
              refine sg_il (pc := 57) C d_R_sendAll_57 rfl ?_
              refine sg_bi (pc := 59) (v := 12) C d_R_sendAll_59 (by decide) ?_
              refine sg_icge (pc := 61) (tgt := 118) C d_R_sendAll_61 (by decide) (by omega) (by omega) (fun h61 => ?_) (fun h61 => absurd h61 (by omega))
              rw [show j = 12 by omega, ok.1, sn_m1]
              refine sg_aln (pc := 118) C d_R_sendAll_118 rfl ?_
              refine sg_getr (pc := 119) C fw_R_67 (by omega) rfl rfl rfl d_R_sendAll_119 ?_
              refine sg_il (pc := 122) C d_R_sendAll_122 rfl ?_
              refine sg_ic (pc := 124) (v := 1) C d_R_sendAll_124 (by decide) ?_
              refine sg_bast (pc := 125) (n := 12) C (by omega) rfl (by omega) (by decide) (by omega) d_R_sendAll_125 ?_
              refine sg_aln (pc := 126) C d_R_sendAll_126 rfl ?_
              refine sg_getr (pc := 127) C fw_R_39 (by omega) rfl rfl rfl d_R_sendAll_127 ?_
              refine sg_il (pc := 130) C d_R_sendAll_130 rfl ?_
              refine sg_dup2 (pc := 132) C d_R_sendAll_132 rfl rfl ?_
              refine sg_iald (pc := 133) (n := 12) C (by omega) rfl (by omega) (by decide) d_R_sendAll_133 ?_
              rw [sm_up_x (Or.inl (by decide))]
              refine sg_il (pc := 134) C d_R_sendAll_134 rfl ?_
              refine sg_add (pc := 136) C d_R_sendAll_136 ?_
              refine sg_iast (pc := 137) (n := 12) C (by omega) rfl (by omega) (by decide) d_R_sendAll_137 ?_
              refine sg_inc6 (pc := 138) (n := 1) C d_R_sendAll_138 (by decide) ?_
              refine sg_goto (pc := 141) (tgt := 44) C d_R_sendAll_141 (by decide) ?_
              exact ih2 (k + 1) _ _ _ (by omega) (saB_s hB h8 (by omega)) (fun h => by rw [show k = 7 by omega])
            | succ t ih3 =>
              intro j hj
              have hb := bs_le (s := (X 712)) (p := cQ (X 712) (rch X n o m) k) j
              have gj := hB.2 j (by omega)
              have gs := hf.1 j (by omega)
              have b1 := b2_lt ((rch X n o m) j)
              have es : bs (X 712) (cQ (X 712) (rch X n o m) k) (j + 1) = if cQ (X 712) (rch X n o m) k j = true ∧ ((bs (X 712) (cQ (X 712) (rch X n o m) k) j) = 0 ∨ X 712 j < X 712 ((bs (X 712) (cQ (X 712) (rch X n o m) k) j) - 1)) then j + 1 else (bs (X 712) (cQ (X 712) (rch X n o m) k) j) := rfl
              refine sg_il (pc := 57) C d_R_sendAll_57 rfl ?_
              refine sg_bi (pc := 59) (v := 12) C d_R_sendAll_59 (by decide) ?_
              refine sg_icge (pc := 61) (tgt := 118) C d_R_sendAll_61 (by decide) (by omega) (by omega) (fun h61 => absurd h61 (by omega)) (fun h61 => ?_)
              refine sg_aln (pc := 64) C d_R_sendAll_64 rfl ?_
              refine sg_getr (pc := 65) C fw_R_67 (by omega) rfl rfl rfl d_R_sendAll_65 ?_
              refine sg_il (pc := 68) C d_R_sendAll_68 rfl ?_
              refine sg_bald (pc := 70) (n := 12) C (by omega) rfl (by omega) (by decide) d_R_sendAll_70 ?_
              refine sg_ifne (pc := 71) (tgt := 112) C d_R_sendAll_71 (by decide) (by omega) (fun h71 => ?_) (fun h71 => ?_)
              · refine sg_inc7 (pc := 112) (n := 1) C d_R_sendAll_112 (by decide) ?_
                refine sg_goto (pc := 115) (tgt := 57) C d_R_sendAll_115 (by decide) ?_
                have h := ih3 (j + 1) (by omega)
                rw [es, if_neg (fun q => by rw [← gj.2.2.1, decide_eq_false h71] at q; simp at q)] at h
                exact h
              · refine sg_aln (pc := 74) C d_R_sendAll_74 rfl ?_
                refine sg_il (pc := 75) C d_R_sendAll_75 rfl ?_
                refine sg_iln (pc := 77) C d_R_sendAll_77 rfl ?_
                refine sg_iln (pc := 78) C d_R_sendAll_78 rfl ?_
                refine sg_iln (pc := 79) C d_R_sendAll_79 rfl ?_
                refine sm_callV (pc := 80) (As := [.int (nI j), .int (nI n), .int (nI o), .int (nI m)]) C I (c_R_canHelp l Ω hfz (by omega) hn ho hm) cw_R_117 iw_R_canHelp (C.1.2.2.2.2 _ (List.mem_cons_of_mem _ se_R_canHelp)) (by omega) rfl rfl rfl rfl (by decide) ⟨by decide, by decide⟩ rfl (Nat.le_of_ble_eq_true rfl) d_R_sendAll_80 (sm_det_i ?_)
                rw [rch_B hB.1]
                refine sg_ifeq (pc := 83) (tgt := 112) C d_R_sendAll_83 (by decide) (by omega) (fun h83 => ?_) (fun h83 => ?_)
                · refine sg_inc7 (pc := 112) (n := 1) C d_R_sendAll_112 (by decide) ?_
                  refine sg_goto (pc := 115) (tgt := 57) C d_R_sendAll_115 (by decide) ?_
                  have h := ih3 (j + 1) (by omega)
                  rw [es, if_neg (fun q => by rw [← gj.2.2.1, b2_0 h83] at q; simp at q)] at h
                  exact h
                · refine sg_il (pc := 86) C d_R_sendAll_86 rfl ?_
                  refine sr_iflt (pc := 88) (tgt := 108) C d_R_sendAll_88 (by decide) (fun h88 => ?_) (fun h88 => ?_)
                  · refine sg_il (pc := 108) C d_R_sendAll_108 rfl ?_
                    refine sg_is5 (pc := 110) C d_R_sendAll_110 ?_
                    refine sg_inc7 (pc := 112) (n := 1) C d_R_sendAll_112 (by decide) ?_
                    refine sg_goto (pc := 115) (tgt := 57) C d_R_sendAll_115 (by decide) ?_
                    have h := ih3 (j + 1) (by omega)
                    rw [es, if_pos ⟨by rw [← gj.2.2.1, b2_1 h83, decide_eq_true h71]; rfl, Or.inl ((sn_bl (by omega)).mp h88)⟩, sn_m1] at h
                    exact h
                  · obtain ⟨b', hb'⟩ : ∃ b', (bs (X 712) (cQ (X 712) (rch X n o m) k) j) = b' + 1 := ⟨(bs (X 712) (cQ (X 712) (rch X n o m) k) j) - 1, by have := mt (sn_bl (b := (bs (X 712) (cQ (X 712) (rch X n o m) k) j)) (by omega)).mpr h88; omega⟩
                    rw [hb', sn_m1]
                    have gb := hB.2 b' (by omega)
                    have gt := hf.1 b' (by omega)
                    refine sg_aln (pc := 91) C d_R_sendAll_91 rfl ?_
                    refine sg_getr (pc := 92) C fw_R_64 (by omega) rfl rfl rfl d_R_sendAll_92 ?_
                    refine sg_il (pc := 95) C d_R_sendAll_95 rfl ?_
                    refine sg_iald (pc := 97) (n := 12) C (by omega) rfl (by omega) (by decide) d_R_sendAll_97 ?_
                    rw [gj.1]
                    refine sg_aln (pc := 98) C d_R_sendAll_98 rfl ?_
                    refine sg_getr (pc := 99) C fw_R_64 (by omega) rfl rfl rfl d_R_sendAll_99 ?_
                    refine sg_il (pc := 102) C d_R_sendAll_102 rfl ?_
                    refine sg_iald (pc := 104) (n := 12) C (by omega) rfl (by omega) (by decide) d_R_sendAll_104 ?_
                    rw [gb.1]
                    refine sg_icge (pc := 105) (tgt := 112) C d_R_sendAll_105 (by decide) (by omega) (by omega) (fun h105 => ?_) (fun h105 => ?_)
                    · refine sg_inc7 (pc := 112) (n := 1) C d_R_sendAll_112 (by decide) ?_
                      refine sg_goto (pc := 115) (tgt := 57) C d_R_sendAll_115 (by decide) ?_
                      have h := ih3 (j + 1) (by omega)
                      rw [es, if_neg (fun q => q.2.elim (fun z => by omega) (fun z => by rw [hb'] at z; simp only [Nat.add_sub_cancel] at z; omega)), hb', sn_m1] at h
                      exact h
                    · refine sg_il (pc := 108) C d_R_sendAll_108 rfl ?_
                      refine sg_is5 (pc := 110) C d_R_sendAll_110 ?_
                      refine sg_inc7 (pc := 112) (n := 1) C d_R_sendAll_112 (by decide) ?_
                      refine sg_goto (pc := 115) (tgt := 57) C d_R_sendAll_115 (by decide) ?_
                      have h := ih3 (j + 1) (by omega)
                      rw [es, if_pos ⟨by rw [← gj.2.2.1, b2_1 h83, decide_eq_true h71]; rfl, Or.inr (by rw [hb']; simp only [Nat.add_sub_cancel]; omega)⟩, sn_m1] at h
                      exact h
          have h0 := loop3 12 0 (by omega)
          rw [show nI (bs (X 712) (cQ (X 712) (rch X n o m) k) 0) + (-1) = -1 from by show nI 0 + (-1) = -1; decide] at h0
          exact h0
      exact loop2 8 0 Z _ _ (by omega) (saB_0 (by rw [show k = 12 by omega] at hA; exact hA)) (fun h => absurd h (by decide))
    | succ t ih1 =>
      intro k Z hk hA
      refine sg_il (pc := 6) C d_R_sendAll_6 rfl ?_
      refine sg_bi (pc := 8) (v := 12) C d_R_sendAll_8 (by decide) ?_
      refine sg_icge (pc := 10) (tgt := 41) C d_R_sendAll_10 (by decide) (by omega) (by omega) (fun h10 => absurd h10 (by omega)) (fun h10 => ?_)
      refine sg_aln (pc := 13) C d_R_sendAll_13 rfl ?_
      refine sg_getr (pc := 14) C fw_R_64 (by omega) rfl rfl rfl d_R_sendAll_14 ?_
      refine sg_il (pc := 17) C d_R_sendAll_17 rfl ?_
      refine sg_aln (pc := 19) C d_R_sendAll_19 rfl ?_
      refine sg_getr (pc := 20) C fw_R_39 (by omega) rfl rfl rfl d_R_sendAll_20 ?_
      refine sg_il (pc := 23) C d_R_sendAll_23 rfl ?_
      refine sg_iald (pc := 25) (n := 12) C (by omega) rfl (by omega) (by decide) d_R_sendAll_25 ?_
      rw [hA.1 712 k (by decide) (by decide)]
      refine sg_iast (pc := 26) (n := 12) C (by omega) rfl (by omega) (by decide) d_R_sendAll_26 ?_
      refine sg_aln (pc := 27) C d_R_sendAll_27 rfl ?_
      refine sg_getr (pc := 28) C fw_R_67 (by omega) rfl rfl rfl d_R_sendAll_28 ?_
      refine sg_il (pc := 31) C d_R_sendAll_31 rfl ?_
      refine sg_ic (pc := 33) (v := 0) C d_R_sendAll_33 (by decide) ?_
      refine sg_bast (pc := 34) (n := 12) C (by omega) rfl (by omega) (by decide) (by omega) d_R_sendAll_34 ?_
      refine sg_inc6 (pc := 35) (n := 1) C d_R_sendAll_35 (by decide) ?_
      refine sg_goto (pc := 38) (tgt := 6) C d_R_sendAll_38 (by decide) ?_
      exact ih1 (k + 1) _ (by omega) (saA_s hA)
  exact loop1 12 0 X (by omega) ⟨fun _ _ _ _ => rfl, fun q hq => absurd hq (Nat.not_lt_zero q)⟩
