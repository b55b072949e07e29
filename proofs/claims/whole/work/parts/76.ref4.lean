/-! The reference: put, settle -/
theorem tld_le (p : Nat → Bool) (b m k : Nat) : tld p b m k ≤ m := by
  unfold tld
  split <;> omega
theorem tld_2 {p : Nat → Bool} {m : Nat} : tld p 0 m 12 = tld p (sm_n p 12) m 0 := by
  unfold tld
  rw [show sm_n p 0 = 0 from rfl, Nat.zero_add, Nat.add_zero]
theorem tld_f {p : Nat → Bool} {b m k : Nat} (h : p k = false) : tld p b m (k + 1) = tld p b m k ∧ rpT p b m k = false := by
  have e : sm_n p (k + 1) = sm_n p k + (if p k = true then 1 else 0) := rfl
  rw [h, if_neg (by decide), Nat.add_zero] at e
  refine ⟨by unfold tld; rw [e]; rfl, by unfold rpT; rw [h, Bool.false_and]⟩
theorem tld_g {p : Nat → Bool} {b m k : Nat} (h : m ≤ tld p b m k) : tld p b m (k + 1) = tld p b m k ∧ rpT p b m k = false := by
  have e : sm_n p (k + 1) = sm_n p k + (if p k = true then 1 else 0) := rfl
  unfold tld at h
  have h2 : ¬ b + sm_n p k < m := by
    intro c
    rw [if_pos c] at h
    omega
  refine ⟨?_, by unfold rpT; rw [decide_eq_false h2, Bool.and_false]⟩
  unfold tld
  rw [if_neg h2, if_neg (by rw [e]; omega)]
theorem tld_t {p : Nat → Bool} {b m k : Nat} (hp : p k = true) (h : tld p b m k < m) : tld p b m (k + 1) = tld p b m k + 1 ∧ rpT p b m k = true := by
  have e : sm_n p (k + 1) = sm_n p k + (if p k = true then 1 else 0) := rfl
  rw [hp, if_pos rfl] at e
  have h2 : b + sm_n p k < m := by
    unfold tld at h
    split at h
    · assumption
    · omega
  refine ⟨?_, by unfold rpT; rw [decide_eq_true h2, hp]; rfl⟩
  unfold tld
  rw [if_pos h2, e]
  split <;> omega
theorem rq1_f {T : Nat → Bool} {Z : sm_X} {o n k : Nat} (h : T k = false) : rq1 T Z o n (k + 1) = rq1 T Z o n k := by
  show (if T k = true then rcs (rq1 T Z o n k) k o n else rq1 T Z o n k) = _
  rw [h, if_neg (by decide)]
theorem rq1_t {T : Nat → Bool} {Z : sm_X} {o n k : Nat} (h : T k = true) : rq1 T Z o n (k + 1) = rcs (rq1 T Z o n k) k o n := by
  show (if T k = true then rcs (rq1 T Z o n k) k o n else rq1 T Z o n k) = _
  rw [h, if_pos rfl]
theorem rq2_f {T : Nat → Bool} {Z : sm_X} {o k : Nat} (h : T k = false) : rq2 T Z o (k + 1) = rq2 T Z o k := by
  show (if T k = true then rsn (rq2 T Z o k) k o else rq2 T Z o k) = _
  rw [h, if_neg (by decide)]
theorem rq2_t {T : Nat → Bool} {Z : sm_X} {o k : Nat} (h : T k = true) : rq2 T Z o (k + 1) = rsn (rq2 T Z o k) k o := by
  show (if T k = true then rsn (rq2 T Z o k) k o else rq2 T Z o k) = _
  rw [h, if_pos rfl]
theorem rpZ_o {X : sm_X} {o n m a j : Nat} (h0 : a ≠ 703) (h1 : a ≠ 708) (h2 : a ≠ 709) (h3 : a ≠ 713) (h4 : a ≠ 714) (h5 : a ≠ 715) (h6 : a ≠ 716) (h7 : a ≠ 717) (h8 : a ≠ 718) : rpZ X o n m a j = X a j := by
  unfold rpZ
  rw [rq2_o h3 h4 h5 h6, rq1_o h6 h7 h8, rpA_o h0 h1 h2]
theorem rpZ_8 {X : sm_X} {o n m : Nat} : rpZ X o n m 708 o = X 708 o + 1 := by
  unfold rpZ
  rw [rq2_o (by decide) (by decide) (by decide) (by decide), rq1_o (by decide) (by decide) (by decide)]
  unfold rpA
  rw [sm_up_x (Or.inl (by decide)), sm_up_x (Or.inl (by decide)), sm_up_s]
theorem rmo_le {X : sm_X} {a m : Nat} (h : rmo X a m) : m ≤ a := by
  rcases h with ⟨_, h⟩ | ⟨q, _, _, h⟩
  · omega
  · rw [h]; split <;> omega

set_option maxHeartbeats 4000000 in
set_option maxRecDepth 100000 in
theorem c_R_put (l : Launch) (Ω : sm_Ω) {X : sm_X} {w : Nat → Nat → Nat} (hf : rwf X) {o n m : Nat} (ho : o < 12) (hn : n ≤ 240) (hs : X 710 o = 0) (h9 : 9 ≤ (sm_n (rlv X) 12)) (hm : X 708 o + 1 < 2 ^ 30) (hmo : rmo X (2 * (sm_n (rlv X) 12)) m) : sm_met l Ω y_R_put b_R_put 7 (some .int) 4 723 [.ref (Ω.2.1 + 703), .int (nI o), .int (nI n)] X (sm_rf w) (sm_det (some (.int (nI (X 708 o + 1)))) (rpE X o n m) (sm_rf w)) := by
  refine sm_intro (own := RX7) (L := [some (.ref (Ω.2.1 + 703)), some (.int (nI o)), some (.int (nI n)), none, none, none, none]) (by decide) rfl (by simp [Value.category]) (Nat.le_of_ble_eq_true rfl) rfl ?_
  intro Γ C I
  have gi := hf.1 o ho
  have hle := sm_n_le (rlv X) 12
  have hma := rmo_le hmo
  refine sg_aln (pc := 0) C d_R_put_0 rfl ?_
  refine sg_ic (pc := 1) (v := 0) C d_R_put_1 (by decide) ?_
  refine sg_puti (pc := 2) C pw_R_70 (by omega) rfl rfl rfl rfl d_R_put_2 ?_
  refine sg_iln (pc := 5) C d_R_put_5 rfl ?_
  refine sm_callS (pc := 6) (As := [.int (nI o)]) C I (c_R_isObject1 l Ω (by omega)) cw_R_88 sw_R_isObject rfl (by decide) ⟨by decide, by decide⟩ rfl (Nat.le_of_ble_eq_true rfl) d_R_put_6 (sm_det_i ?_)
  refine sg_ifne (pc := 9) (tgt := 18) C d_R_put_9 (by decide) (by omega) (fun h9 => ?_) (fun h9 => absurd h9 (by decide))
  refine sg_iln (pc := 18) C d_R_put_18 rfl ?_
  refine sg_ic (pc := 19) (v := 0) C d_R_put_19 (by decide) ?_
  refine sg_si (pc := 20) (v := 240) C d_R_put_20 (by decide) ?_
  refine sm_callS (pc := 23) (As := [.int (nI n), .int (nI 0), .int (nI 240)]) C I (c_R_within1 l Ω (nI_nlt (Nat.zero_le _) (by omega)) (nI_nlt (by omega) (by decide))) cw_R_73 sw_R_within rfl (by decide) ⟨by decide, by decide⟩ rfl (Nat.le_of_ble_eq_true rfl) d_R_put_23 (sm_det_i ?_)
  refine sg_ifne (pc := 26) (tgt := 35) C d_R_put_26 (by decide) (by omega) (fun h26 => ?_) (fun h26 => absurd h26 (by decide))
  refine sg_aln (pc := 35) C d_R_put_35 rfl ?_
  refine sg_getr (pc := 36) C fw_R_32 (by omega) rfl rfl rfl d_R_put_36 ?_
  refine sg_iln (pc := 39) C d_R_put_39 rfl ?_
  refine sg_bald (pc := 40) (n := 12) C (by omega) rfl (by omega) (by decide) d_R_put_40 ?_
  rw [sm_up_x (Or.inl (by decide))]
  refine sg_ifeq (pc := 41) (tgt := 50) C d_R_put_41 (by decide) (by omega) (fun h41 => ?_) (fun h41 => absurd hs h41)
  refine sg_aln (pc := 50) C d_R_put_50 rfl ?_
  refine sm_callV (pc := 51) (As := []) C I (c_R_live l Ω (rwf_t hf)) cw_R_92 iw_R_live (C.1.2.2.2.2 _ (List.mem_cons_of_mem _ se_R_live)) (by omega) rfl rfl rfl rfl (by decide) ⟨by decide, by decide⟩ rfl (Nat.le_of_ble_eq_true rfl) d_R_put_51 (sm_det_i ?_)
  rw [sm_n_rlv (X := X) (fun k hk => sm_up_x (Or.inl (by decide)))]
  refine sg_bi (pc := 54) (v := 9) C d_R_put_54 (by decide) ?_
  refine sg_icge (pc := 56) (tgt := 65) C d_R_put_56 (by decide) (by omega) (by omega) (fun h56 => ?_) (fun h56 => absurd h56 (by omega))
  refine sg_aln (pc := 65) C d_R_put_65 rfl ?_
  refine sg_getr (pc := 66) C fw_R_26 (by omega) rfl rfl rfl d_R_put_66 ?_
  refine sg_iln (pc := 69) C d_R_put_69 rfl ?_
  refine sg_dup2 (pc := 70) C d_R_put_70 rfl rfl ?_
  refine sg_iald (pc := 71) (n := 12) C (by omega) rfl (by omega) (by decide) d_R_put_71 ?_
  rw [sm_up_x (Or.inl (by decide))]
  refine sg_ic (pc := 72) (v := 1) C d_R_put_72 (by decide) ?_
  refine sg_add (pc := 73) C d_R_put_73 ?_
  refine sg_iast (pc := 74) (n := 12) C (by omega) rfl (by omega) (by decide) d_R_put_74 ?_
  refine sg_aln (pc := 75) C d_R_put_75 rfl ?_
  refine sg_getr (pc := 76) C fw_R_29 (by omega) rfl rfl rfl d_R_put_76 ?_
  refine sg_iln (pc := 79) C d_R_put_79 rfl ?_
  refine sg_iln (pc := 80) C d_R_put_80 rfl ?_
  refine sg_iast (pc := 81) (n := 12) C (by omega) rfl (by omega) (by decide) d_R_put_81 ?_
  refine sg_ic (pc := 82) (v := 2) C d_R_put_82 (by decide) ?_
  refine sg_aln (pc := 83) C d_R_put_83 rfl ?_
  refine sm_callV (pc := 84) (As := []) C I (c_R_live l Ω (rwf_A hf hm hn)) cw_R_92 iw_R_live (C.1.2.2.2.2 _ (List.mem_cons_of_mem _ se_R_live)) (by omega) rfl rfl rfl rfl (by decide) ⟨by decide, by decide⟩ rfl (Nat.le_of_ble_eq_true rfl) d_R_put_84 (sm_det_i ?_)
  rw [sm_n_rlv (X := X) (fun k hk => by rw [sm_up_x (Or.inl (by decide)), sm_up_x (Or.inl (by decide)), sm_up_x (Or.inl (by decide))])]
  refine sg_mul (pc := 87) C d_R_put_87 ?_
  refine sg_is3 (pc := 88) C d_R_put_88 ?_
  have J : sm_G Γ Ω 723 0 0 112 [some (.ref (Ω.2.1 + 703)), some (.int (nI o)), some (.int (nI n)), some (.int (nI (2 * (sm_n (rlv X) 12)))), none, none, none] [.int (nI m)] (sm_up (sm_up (sm_up X 703 0 0) 708 o (X 708 o + 1)) 709 o n) (sm_rf w) := by
    refine sg_is4 (pc := 112) C d_R_put_112 ?_
    refine sg_aln (pc := 114) C d_R_put_114 rfl ?_
    refine sg_icm (pc := 115) (v := -1) C d_R_put_115 (by decide) ?_
    refine sg_top (y := nI 4294967295) C (by decide) ?_
    refine sg_puti (pc := 116) C pw_R_16 (by omega) rfl rfl rfl rfl d_R_put_116 ?_
    refine sg_ic (pc := 119) (v := 0) C d_R_put_119 (by decide) ?_
    refine sg_is5 (pc := 120) C d_R_put_120 ?_
    refine sg_ic (pc := 122) (v := 0) C d_R_put_122 (by decide) ?_
    refine sg_is6 (pc := 123) C d_R_put_123 ?_
    have loop125 : ∀ t k, k + t = 12 → sm_G Γ Ω 723 0 0 125 [some (.ref (Ω.2.1 + 703)), some (.int (nI o)), some (.int (nI n)), some (.int (nI (2 * (sm_n (rlv X) 12)))), some (.int (nI m)), some (.int (nI (tld (rlv X) 0 m k))), some (.int (nI k))] [] (rq1 (rpT (rlv X) 0 m) (rpA X o n) o n k) (sm_rf w) := by
      intro t
      induction t with
      | zero =>
        intro k hk
        refine sg_il (pc := 125) C d_R_put_125 rfl ?_
        refine sg_bi (pc := 127) (v := 12) C d_R_put_127 (by decide) ?_
        refine sg_icge (pc := 129) (tgt := 166) C d_R_put_129 (by decide) (by omega) (by omega) (fun h129 => ?_) (fun h129 => absurd h129 (by omega))
        have hk12 : k = 12 := by omega
        subst hk12
        rw [tld_2]
        refine sg_ic (pc := 166) (v := 0) C d_R_put_166 (by decide) ?_
        refine sg_is6 (pc := 167) C d_R_put_167 ?_
        have loop169 : ∀ t k, k + t = 12 → sm_G Γ Ω 723 0 0 169 [some (.ref (Ω.2.1 + 703)), some (.int (nI o)), some (.int (nI n)), some (.int (nI (2 * (sm_n (rlv X) 12)))), some (.int (nI m)), some (.int (nI (tld (rlv X) (sm_n (rlv X) 12) m k))), some (.int (nI k))] [] (rq2 (rpT (rlv X) (sm_n (rlv X) 12) m) (rq1 (rpT (rlv X) 0 m) (rpA X o n) o n 12) o k) (sm_rf w) := by
          intro t
          induction t with
          | zero =>
            intro k hk
            refine sg_il (pc := 169) C d_R_put_169 rfl ?_
            refine sg_bi (pc := 171) (v := 12) C d_R_put_171 (by decide) ?_
            refine sg_icge (pc := 173) (tgt := 209) C d_R_put_173 (by decide) (by omega) (by omega) (fun h173 => ?_) (fun h173 => absurd h173 (by omega))
            have hk12 : k = 12 := by omega
            subst hk12
            change sm_G Γ Ω 723 0 0 209 _ [] (rpZ X o n m) (sm_rf w)
            refine sg_aln (pc := 209) C d_R_put_209 rfl ?_
            refine sg_getr (pc := 210) C fw_R_32 (by omega) rfl rfl rfl d_R_put_210 ?_
            refine sg_iln (pc := 213) C d_R_put_213 rfl ?_
            refine sg_il (pc := 214) C d_R_put_214 rfl ?_
            refine sg_iln (pc := 216) C d_R_put_216 rfl ?_
            refine sg_icge (pc := 217) (tgt := 224) C d_R_put_217 (by decide) (by omega) (by omega) (fun h217 => ?_) (fun h217 => ?_)
            · refine sg_ic (pc := 224) (v := 0) C d_R_put_224 (by decide) ?_
              refine sg_bast (pc := 225) (n := 12) C (by omega) rfl (by omega) (by decide) (by omega) d_R_put_225 ?_
              refine sg_il (pc := 226) C d_R_put_226 rfl ?_
              refine sg_iln (pc := 228) C d_R_put_228 rfl ?_
              refine sg_icne (pc := 229) (tgt := 251) C d_R_put_229 (by decide) (by omega) (by omega) (fun h229 => absurd (by omega) h229) (fun h229 => ?_)
              refine sg_aln (pc := 232) C d_R_put_232 rfl ?_
              refine sg_getr (pc := 233) C fw_R_20 (by omega) rfl rfl rfl d_R_put_233 ?_
              refine sg_iln (pc := 236) C d_R_put_236 rfl ?_
              refine sg_aln (pc := 237) C d_R_put_237 rfl ?_
              refine sg_getr (pc := 238) C fw_R_26 (by omega) rfl rfl rfl d_R_put_238 ?_
              refine sg_iln (pc := 241) C d_R_put_241 rfl ?_
              refine sg_iald (pc := 242) (n := 12) C (by omega) rfl (by omega) (by decide) d_R_put_242 ?_
              rw [sm_up_x (Or.inl (by decide)), rpZ_8]
              refine sg_iast (pc := 243) (n := 12) C (by omega) rfl (by omega) (by decide) d_R_put_243 ?_
              refine sg_aln (pc := 244) C d_R_put_244 rfl ?_
              refine sg_getr (pc := 245) C fw_R_23 (by omega) rfl rfl rfl d_R_put_245 ?_
              refine sg_iln (pc := 248) C d_R_put_248 rfl ?_
              refine sg_iln (pc := 249) C d_R_put_249 rfl ?_
              refine sg_iast (pc := 250) (n := 12) C (by omega) rfl (by omega) (by decide) d_R_put_250 ?_
              refine sg_aln (pc := 251) C d_R_put_251 rfl ?_
              refine sg_getr (pc := 252) C fw_R_26 (by omega) rfl rfl rfl d_R_put_252 ?_
              refine sg_iln (pc := 255) C d_R_put_255 rfl ?_
              refine sg_iald (pc := 256) (n := 12) C (by omega) rfl (by omega) (by decide) d_R_put_256 ?_
              first
                | rw [sm_up_x (Or.inl (by decide)), sm_up_x (Or.inl (by decide)), sm_up_x (Or.inl (by decide)), rpZ_8]
                | rw [sm_up_x (Or.inl (by decide)), rpZ_8]
              exact sg_iret (pc := 257) C I rfl rfl d_R_put_257 ⟨rfl, by unfold rpE; rw [if_pos (show m = 2 * sm_n (rlv X) 12 by omega)], rfl⟩
            · refine sg_ic (pc := 220) (v := 1) C d_R_put_220 (by decide) ?_
              refine sg_goto (pc := 221) (tgt := 225) C d_R_put_221 (by decide) ?_
              refine sg_bast (pc := 225) (n := 12) C (by omega) rfl (by omega) (by decide) (by omega) d_R_put_225 ?_
              refine sg_il (pc := 226) C d_R_put_226 rfl ?_
              refine sg_iln (pc := 228) C d_R_put_228 rfl ?_
              refine sg_icne (pc := 229) (tgt := 251) C d_R_put_229 (by decide) (by omega) (by omega) (fun h229 => ?_) (fun h229 => absurd h229 (by omega))
              refine sg_aln (pc := 251) C d_R_put_251 rfl ?_
              refine sg_getr (pc := 252) C fw_R_26 (by omega) rfl rfl rfl d_R_put_252 ?_
              refine sg_iln (pc := 255) C d_R_put_255 rfl ?_
              refine sg_iald (pc := 256) (n := 12) C (by omega) rfl (by omega) (by decide) d_R_put_256 ?_
              first
                | rw [sm_up_x (Or.inl (by decide)), sm_up_x (Or.inl (by decide)), sm_up_x (Or.inl (by decide)), rpZ_8]
                | rw [sm_up_x (Or.inl (by decide)), rpZ_8]
              exact sg_iret (pc := 257) C I rfl rfl d_R_put_257 ⟨rfl, by unfold rpE; rw [if_neg (show ¬ m = 2 * sm_n (rlv X) 12 by omega)], rfl⟩
          | succ t ih169 =>
            intro k hk
            have g1 := hf.1 k (by omega)
            have ht := tld_le (rlv X) (sm_n (rlv X) 12) m k
            refine sg_il (pc := 169) C d_R_put_169 rfl ?_
            refine sg_bi (pc := 171) (v := 12) C d_R_put_171 (by decide) ?_
            refine sg_icge (pc := 173) (tgt := 209) C d_R_put_173 (by decide) (by omega) (by omega) (fun h173 => absurd h173 (by omega)) (fun h173 => ?_)
            refine sg_aln (pc := 176) C d_R_put_176 rfl ?_
            refine sg_getr (pc := 177) C fw_R_36 (by omega) rfl rfl rfl d_R_put_177 ?_
            refine sg_il (pc := 180) C d_R_put_180 rfl ?_
            refine sg_bald (pc := 182) (n := 12) C (by omega) rfl (by omega) (by decide) d_R_put_182 ?_
            rw [rq2_o (by decide) (by decide) (by decide) (by decide), rq1_o (by decide) (by decide) (by decide), rpA_o (by decide) (by decide) (by decide)]
            refine sg_ifne (pc := 183) (tgt := 203) C d_R_put_183 (by decide) (by omega) (fun h183 => ?_) (fun h183 => ?_)
            · refine sg_inc6 (pc := 203) (n := 1) C d_R_put_203 (by decide) ?_
              refine sg_goto (pc := 206) (tgt := 169) C d_R_put_206 (by decide) ?_
              have hh := tld_f (b := (sm_n (rlv X) 12)) (m := m) (show (rlv X) k = false by simp [rlv, h183])
              have h := ih169 (k + 1) (by omega)
              rw [hh.1, rq2_f hh.2] at h
              exact h
            · refine sg_il (pc := 186) C d_R_put_186 rfl ?_
              refine sg_il (pc := 188) C d_R_put_188 rfl ?_
              refine sg_icge (pc := 190) (tgt := 203) C d_R_put_190 (by decide) (by omega) (by omega) (fun h190 => ?_) (fun h190 => ?_)
              · refine sg_inc6 (pc := 203) (n := 1) C d_R_put_203 (by decide) ?_
                refine sg_goto (pc := 206) (tgt := 169) C d_R_put_206 (by decide) ?_
                have hh := tld_g (p := (rlv X)) (b := (sm_n (rlv X) 12)) (m := m) (k := k) (by omega)
                have h := ih169 (k + 1) (by omega)
                rw [hh.1, rq2_f hh.2] at h
                exact h
              · refine sg_aln (pc := 193) C d_R_put_193 rfl ?_
                refine sg_il (pc := 194) C d_R_put_194 rfl ?_
                refine sg_iln (pc := 196) C d_R_put_196 rfl ?_
                refine sm_callV (pc := 197) (As := [.int (nI k), .int (nI o)]) C I (c_R_settleNode l Ω (by omega) ho) cw_R_100 iw_R_settleNode (C.1.2.2.2.2 _ (List.mem_cons_of_mem _ se_R_settleNode)) (by omega) rfl rfl rfl rfl (by decide) ⟨by decide, by decide⟩ rfl (Nat.le_of_ble_eq_true rfl) d_R_put_197 (sm_det_v ?_)
                refine sg_inc5 (pc := 200) (n := 1) C d_R_put_200 (by decide) ?_
                refine sg_inc6 (pc := 203) (n := 1) C d_R_put_203 (by decide) ?_
                refine sg_goto (pc := 206) (tgt := 169) C d_R_put_206 (by decide) ?_
                have hh := tld_t (b := (sm_n (rlv X) 12)) (m := m) (show (rlv X) k = true by simp [rlv, h183]) (by omega)
                have h := ih169 (k + 1) (by omega)
                rw [hh.1, rq2_t hh.2] at h
                exact h
        exact loop169 12 0 (by omega)
      | succ t ih125 =>
        intro k hk
        have g1 := hf.1 k (by omega)
        have ht := tld_le (rlv X) 0 m k
        refine sg_il (pc := 125) C d_R_put_125 rfl ?_
        refine sg_bi (pc := 127) (v := 12) C d_R_put_127 (by decide) ?_
        refine sg_icge (pc := 129) (tgt := 166) C d_R_put_129 (by decide) (by omega) (by omega) (fun h129 => absurd h129 (by omega)) (fun h129 => ?_)
        refine sg_aln (pc := 132) C d_R_put_132 rfl ?_
        refine sg_getr (pc := 133) C fw_R_36 (by omega) rfl rfl rfl d_R_put_133 ?_
        refine sg_il (pc := 136) C d_R_put_136 rfl ?_
        refine sg_bald (pc := 138) (n := 12) C (by omega) rfl (by omega) (by decide) d_R_put_138 ?_
        rw [rq1_o (by decide) (by decide) (by decide), rpA_o (by decide) (by decide) (by decide)]
        refine sg_ifne (pc := 139) (tgt := 160) C d_R_put_139 (by decide) (by omega) (fun h139 => ?_) (fun h139 => ?_)
        · refine sg_inc6 (pc := 160) (n := 1) C d_R_put_160 (by decide) ?_
          refine sg_goto (pc := 163) (tgt := 125) C d_R_put_163 (by decide) ?_
          have hh := tld_f (b := 0) (m := m) (show (rlv X) k = false by simp [rlv, h139])
          have h := ih125 (k + 1) (by omega)
          rw [hh.1, rq1_f hh.2] at h
          exact h
        · refine sg_il (pc := 142) C d_R_put_142 rfl ?_
          refine sg_il (pc := 144) C d_R_put_144 rfl ?_
          refine sg_icge (pc := 146) (tgt := 160) C d_R_put_146 (by decide) (by omega) (by omega) (fun h146 => ?_) (fun h146 => ?_)
          · refine sg_inc6 (pc := 160) (n := 1) C d_R_put_160 (by decide) ?_
            refine sg_goto (pc := 163) (tgt := 125) C d_R_put_163 (by decide) ?_
            have hh := tld_g (p := (rlv X)) (b := 0) (m := m) (k := k) (by omega)
            have h := ih125 (k + 1) (by omega)
            rw [hh.1, rq1_f hh.2] at h
            exact h
          · refine sg_aln (pc := 149) C d_R_put_149 rfl ?_
            refine sg_il (pc := 150) C d_R_put_150 rfl ?_
            refine sg_iln (pc := 152) C d_R_put_152 rfl ?_
            refine sg_iln (pc := 153) C d_R_put_153 rfl ?_
            refine sm_callV (pc := 154) (As := [.int (nI k), .int (nI o), .int (nI n)]) C I (c_R_cast l Ω (by omega) ho hn) cw_R_96 iw_R_cast (C.1.2.2.2.2 _ (List.mem_cons_of_mem _ se_R_cast)) (by omega) rfl rfl rfl rfl (by decide) ⟨by decide, by decide⟩ rfl (Nat.le_of_ble_eq_true rfl) d_R_put_154 (sm_det_v ?_)
            refine sg_inc5 (pc := 157) (n := 1) C d_R_put_157 (by decide) ?_
            refine sg_inc6 (pc := 160) (n := 1) C d_R_put_160 (by decide) ?_
            refine sg_goto (pc := 163) (tgt := 125) C d_R_put_163 (by decide) ?_
            have hh := tld_t (b := 0) (m := m) (show (rlv X) k = true by simp [rlv, h139]) (by omega)
            have h := ih125 (k + 1) (by omega)
            rw [hh.1, rq1_t hh.2] at h
            exact h
    have h0 := loop125 12 0 (by omega)
    rw [show tld (rlv X) 0 m 0 = 0 by unfold tld; rw [show sm_n (rlv X) 0 = 0 from rfl]; split <;> omega] at h0
    exact h0
  rcases hmo with ⟨hc, hm2⟩ | ⟨q, hq, hc, hm2⟩
  · refine sg_aln (pc := 89) C d_R_put_89 rfl ?_
    refine sg_geti (pc := 90) C fw_R_16 (by omega) rfl rfl d_R_put_90 ?_
    rw [sm_up_x (Or.inl (by decide)), sm_up_x (Or.inl (by decide)), sm_up_x (Or.inr (by decide))]
    refine sr_iflt (pc := 93) (tgt := 104) C d_R_put_93 (by decide) (fun h93 => ?_) (fun h93 => absurd (by rw [hc]; decide) h93)
    refine sg_iln (pc := 104) C d_R_put_104 rfl ?_
    refine sg_goto (pc := 105) (tgt := 112) C d_R_put_105 (by decide) ?_
    rw [hm2] at J
    exact J
  · refine sg_aln (pc := 89) C d_R_put_89 rfl ?_
    refine sg_geti (pc := 90) C fw_R_16 (by omega) rfl rfl d_R_put_90 ?_
    rw [sm_up_x (Or.inl (by decide)), sm_up_x (Or.inl (by decide)), sm_up_x (Or.inr (by decide))]
    refine sr_iflt (pc := 93) (tgt := 104) C d_R_put_93 (by decide) (fun h93 => absurd h93 (by rw [hc]; exact nI_pos hq)) (fun h93 => ?_)
    refine sg_aln (pc := 96) C d_R_put_96 rfl ?_
    refine sg_geti (pc := 97) C fw_R_16 (by omega) rfl rfl d_R_put_97 ?_
    rw [sm_up_x (Or.inl (by decide)), sm_up_x (Or.inl (by decide)), sm_up_x (Or.inr (by decide))]
    refine sg_iln (pc := 100) C d_R_put_100 rfl ?_
    refine sg_iclt (pc := 101) (tgt := 108) C d_R_put_101 (by decide) (by omega) (by omega) (fun h101 => ?_) (fun h101 => ?_)
    · refine sg_aln (pc := 108) C d_R_put_108 rfl ?_
      refine sg_geti (pc := 109) C fw_R_16 (by omega) rfl rfl d_R_put_109 ?_
      rw [sm_up_x (Or.inl (by decide)), sm_up_x (Or.inl (by decide)), sm_up_x (Or.inr (by decide))]
      rw [hm2, ← hc, if_pos h101] at J
      exact J
    · refine sg_iln (pc := 104) C d_R_put_104 rfl ?_
      refine sg_goto (pc := 105) (tgt := 112) C d_R_put_105 (by decide) ?_
      rw [hm2, ← hc, if_neg (by omega)] at J
      exact J

def rcn (X : sm_X) (o : Nat) : Nat → Bool
  | 0 => false
  | k + 1 => rcn X o k || decide (X 713 (12 * k + o) = X 708 o)
def rst (X : sm_X) (o : Nat) (c : Bool) : Nat → sm_X
  | 0 => sm_up X 703 0 0
  | k + 1 => if rlv X k = true then sm_up (if (c && decide (X 716 (12 * k + o) = X 708 o)) = true then rsn (rst X o c k) k o else rst X o c k) 716 (12 * k + o) 0 else rst X o c k
theorem rst_o {X : sm_X} {o a j : Nat} {c : Bool} (h0 : a ≠ 703) (h1 : a ≠ 713) (h2 : a ≠ 714) (h3 : a ≠ 715) (h4 : a ≠ 716) : ∀ k, rst X o c k a j = X a j
  | 0 => sm_up_x (Or.inl h0)
  | k + 1 => by
    have ih := rst_o (X := X) (o := o) (a := a) (j := j) (c := c) h0 h1 h2 h3 h4 k
    show (if rlv X k = true then sm_up (if (c && decide (X 716 (12 * k + o) = X 708 o)) = true then rsn (rst X o c k) k o else rst X o c k) 716 (12 * k + o) 0 else rst X o c k) a j = X a j
    split
    · rw [sm_up_x (Or.inl h4)]
      split
      · rw [rsn_o h1 h2 h3 h4]; exact ih
      · exact ih
    · exact ih
theorem rst_6 {X : sm_X} {o d : Nat} {c : Bool} : ∀ k, k ≤ d → rst X o c k 716 (12 * d + o) = X 716 (12 * d + o)
  | 0, _ => sm_up_x (Or.inl (by decide))
  | k + 1, h => by
    have ih := rst_6 (X := X) (o := o) (d := d) (c := c) k (by omega)
    show (if rlv X k = true then sm_up (if (c && decide (X 716 (12 * k + o) = X 708 o)) = true then rsn (rst X o c k) k o else rst X o c k) 716 (12 * k + o) 0 else rst X o c k) 716 (12 * d + o) = X 716 (12 * d + o)
    split
    · rw [sm_up_x (Or.inr (by omega))]
      split
      · unfold rsn
        rw [sm_up_x (Or.inr (by omega)), sm_uf_o (by decide), sm_up_x (Or.inl (by decide)), sm_up_x (Or.inl (by decide))]; exact ih
      · exact ih
    · exact ih
def rsE (X : sm_X) (o : Nat) : sm_X := if rcn X o 12 = true then sm_up (sm_up (sm_up (rst X o true 12) 710 o 0) 706 o (X 708 o)) 707 o (X 709 o) else sm_up (rst X o false 12) 710 o 0

set_option maxHeartbeats 4000000 in
set_option maxRecDepth 100000 in
theorem c_R_settleX1 (l : Launch) (Ω : sm_Ω) {X : sm_X} {w : Nat → Nat → Nat} {x : Int32} (hx : x < 0 ∨ nI 12 ≤ x) : sm_met l Ω y_R_settle b_R_settle 4 (some .boolean) 4 723 [.ref (Ω.2.1 + 703), .int x] X (sm_rf w) (sm_det (some (.int (nI 0))) (sm_up X 703 0 1) (sm_rf w)) := by
  refine sm_intro (own := RX7) (L := [some (.ref (Ω.2.1 + 703)), some (.int x), none, none]) (by decide) rfl (by simp [Value.category]) (Nat.le_of_ble_eq_true rfl) rfl ?_
  intro Γ C I
  refine sg_aln (pc := 0) C d_R_settle_0 rfl ?_
  refine sg_ic (pc := 1) (v := 0) C d_R_settle_1 (by decide) ?_
  refine sg_puti (pc := 2) C pw_R_70 (by omega) rfl rfl rfl rfl d_R_settle_2 ?_
  refine sg_iln (pc := 5) C d_R_settle_5 rfl ?_
  refine sm_callS (pc := 6) (As := [.int x]) C I (c_R_isObject0 l Ω hx) cw_R_88 sw_R_isObject rfl (by decide) ⟨by decide, by decide⟩ rfl (Nat.le_of_ble_eq_true rfl) d_R_settle_6 (sm_det_i ?_)
  refine sg_ifne (pc := 9) (tgt := 26) C d_R_settle_9 (by decide) (by omega) (fun h9 => absurd rfl h9) (fun h9 => ?_)
  refine sg_aln (pc := 12) C d_R_settle_12 rfl ?_
  refine sg_ic (pc := 13) (v := 1) C d_R_settle_13 (by decide) ?_
  refine sm_callV (pc := 14) (As := [.int (nI 1)]) C I (c_R_fails l Ω) cw_R_81 iw_R_fails (C.1.2.2.2.2 _ (List.mem_cons_of_mem _ se_R_fails)) (by omega) rfl rfl rfl rfl (by decide) ⟨by decide, by decide⟩ rfl (Nat.le_of_ble_eq_true rfl) d_R_settle_14 (sm_det_i ?_)
  refine sg_ifle (pc := 17) (tgt := 24) C d_R_settle_17 (by decide) (by omega) (fun h17 => ?_) (fun h17 => absurd h17 (by omega))
  refine sg_ic (pc := 24) (v := 0) C d_R_settle_24 (by decide) ?_
  exact sg_iret (pc := 25) C I rfl (sn_b (by decide)) d_R_settle_25 ⟨rfl, sm_up_up, rfl⟩

set_option maxHeartbeats 4000000 in
set_option maxRecDepth 100000 in
theorem c_R_settleX2 (l : Launch) (Ω : sm_Ω) {X : sm_X} {w : Nat → Nat → Nat} (hf : rwf X) {o : Nat} (ho : o < 12) (hs : X 710 o = 0) : sm_met l Ω y_R_settle b_R_settle 4 (some .boolean) 4 723 [.ref (Ω.2.1 + 703), .int (nI o)] X (sm_rf w) (sm_det (some (.int (nI 0))) (sm_up X 703 0 2) (sm_rf w)) := by
  refine sm_intro (own := RX7) (L := [some (.ref (Ω.2.1 + 703)), some (.int (nI o)), none, none]) (by decide) rfl (by simp [Value.category]) (Nat.le_of_ble_eq_true rfl) rfl ?_
  intro Γ C I
  have gi := hf.1 o ho
  refine sg_aln (pc := 0) C d_R_settle_0 rfl ?_
  refine sg_ic (pc := 1) (v := 0) C d_R_settle_1 (by decide) ?_
  refine sg_puti (pc := 2) C pw_R_70 (by omega) rfl rfl rfl rfl d_R_settle_2 ?_
  refine sg_iln (pc := 5) C d_R_settle_5 rfl ?_
  refine sm_callS (pc := 6) (As := [.int (nI o)]) C I (c_R_isObject1 l Ω (by omega)) cw_R_88 sw_R_isObject rfl (by decide) ⟨by decide, by decide⟩ rfl (Nat.le_of_ble_eq_true rfl) d_R_settle_6 (sm_det_i ?_)
  refine sg_ifne (pc := 9) (tgt := 26) C d_R_settle_9 (by decide) (by omega) (fun h9 => ?_) (fun h9 => absurd h9 (by decide))
  refine sg_aln (pc := 26) C d_R_settle_26 rfl ?_
  refine sg_getr (pc := 27) C fw_R_32 (by omega) rfl rfl rfl d_R_settle_27 ?_
  refine sg_iln (pc := 30) C d_R_settle_30 rfl ?_
  refine sg_bald (pc := 31) (n := 12) C (by omega) rfl (by omega) (by decide) d_R_settle_31 ?_
  rw [sm_up_x (Or.inl (by decide))]
  refine sg_ifne (pc := 32) (tgt := 49) C d_R_settle_32 (by decide) (by omega) (fun h32 => absurd hs h32) (fun h32 => ?_)
  refine sg_aln (pc := 35) C d_R_settle_35 rfl ?_
  refine sg_ic (pc := 36) (v := 2) C d_R_settle_36 (by decide) ?_
  refine sm_callV (pc := 37) (As := [.int (nI 2)]) C I (c_R_fails l Ω) cw_R_81 iw_R_fails (C.1.2.2.2.2 _ (List.mem_cons_of_mem _ se_R_fails)) (by omega) rfl rfl rfl rfl (by decide) ⟨by decide, by decide⟩ rfl (Nat.le_of_ble_eq_true rfl) d_R_settle_37 (sm_det_i ?_)
  refine sg_ifle (pc := 40) (tgt := 47) C d_R_settle_40 (by decide) (by omega) (fun h40 => ?_) (fun h40 => absurd h40 (by omega))
  refine sg_ic (pc := 47) (v := 0) C d_R_settle_47 (by decide) ?_
  exact sg_iret (pc := 48) C I rfl (sn_b (by decide)) d_R_settle_48 ⟨rfl, sm_up_up, rfl⟩

set_option maxHeartbeats 4000000 in
set_option maxRecDepth 100000 in
theorem c_R_settle1 (l : Launch) (Ω : sm_Ω) {X : sm_X} {w : Nat → Nat → Nat} (hf : rwf X) {o : Nat} (ho : o < 12) (hs : X 710 o ≠ 0) (hcn : (rcn X o 12) = true) : sm_met l Ω y_R_settle b_R_settle 4 (some .boolean) 4 723 [.ref (Ω.2.1 + 703), .int (nI o)] X (sm_rf w) (sm_det (some (.int (nI (b2 (rcn X o 12))))) (rsE X o) (sm_rf w)) := by
  refine sm_intro (own := RX7) (L := [some (.ref (Ω.2.1 + 703)), some (.int (nI o)), none, none]) (by decide) rfl (by simp [Value.category]) (Nat.le_of_ble_eq_true rfl) rfl ?_
  intro Γ C I
  have gi := hf.1 o ho
  refine sg_aln (pc := 0) C d_R_settle_0 rfl ?_
  refine sg_ic (pc := 1) (v := 0) C d_R_settle_1 (by decide) ?_
  refine sg_puti (pc := 2) C pw_R_70 (by omega) rfl rfl rfl rfl d_R_settle_2 ?_
  refine sg_iln (pc := 5) C d_R_settle_5 rfl ?_
  refine sm_callS (pc := 6) (As := [.int (nI o)]) C I (c_R_isObject1 l Ω (by omega)) cw_R_88 sw_R_isObject rfl (by decide) ⟨by decide, by decide⟩ rfl (Nat.le_of_ble_eq_true rfl) d_R_settle_6 (sm_det_i ?_)
  refine sg_ifne (pc := 9) (tgt := 26) C d_R_settle_9 (by decide) (by omega) (fun h9 => ?_) (fun h9 => absurd h9 (by decide))
  refine sg_aln (pc := 26) C d_R_settle_26 rfl ?_
  refine sg_getr (pc := 27) C fw_R_32 (by omega) rfl rfl rfl d_R_settle_27 ?_
  refine sg_iln (pc := 30) C d_R_settle_30 rfl ?_
  refine sg_bald (pc := 31) (n := 12) C (by omega) rfl (by omega) (by decide) d_R_settle_31 ?_
  rw [sm_up_x (Or.inl (by decide))]
  refine sg_ifne (pc := 32) (tgt := 49) C d_R_settle_32 (by decide) (by omega) (fun h32 => ?_) (fun h32 => absurd h32 hs)
  refine sg_ic (pc := 49) (v := 0) C d_R_settle_49 (by decide) ?_
  refine sg_is2 (pc := 50) C d_R_settle_50 ?_
  refine sg_ic (pc := 51) (v := 0) C d_R_settle_51 (by decide) ?_
  refine sg_is3 (pc := 52) C d_R_settle_52 ?_
  have loop : ∀ t k, k + t = 12 → sm_G Γ Ω 723 0 0 53 [some (.ref (Ω.2.1 + 703)), some (.int (nI o)), some (.int (nI (b2 (rcn X o k)))), some (.int (nI k))] [] (sm_up X 703 0 0) (sm_rf w) := by
    intro t
    induction t with
    | zero =>
      intro k hk
      refine sg_iln (pc := 53) C d_R_settle_53 rfl ?_
      refine sg_bi (pc := 54) (v := 12) C d_R_settle_54 (by decide) ?_
      refine sg_icge (pc := 56) (tgt := 94) C d_R_settle_56 (by decide) (by omega) (by omega) (fun h56 => ?_) (fun h56 => absurd h56 (by omega))
      rw [show k = 12 by omega, hcn]
      change sm_G Γ Ω 723 0 0 94 [some (.ref (Ω.2.1 + 703)), some (.int (nI o)), some (.int (nI 1)), _] [] _ _
      refine sg_ic (pc := 94) (v := 0) C d_R_settle_94 (by decide) ?_
      refine sg_is3 (pc := 95) C d_R_settle_95 ?_
      have loop2 : ∀ t k, k + t = 12 → sm_G Γ Ω 723 0 0 96 [some (.ref (Ω.2.1 + 703)), some (.int (nI o)), some (.int (nI 1)), some (.int (nI k))] [] (rst X o true k) (sm_rf w) := by
        intro t
        induction t with
        | zero =>
          intro k hk
          refine sg_iln (pc := 96) C d_R_settle_96 rfl ?_
          refine sg_bi (pc := 97) (v := 12) C d_R_settle_97 (by decide) ?_
          refine sg_icge (pc := 99) (tgt := 157) C d_R_settle_99 (by decide) (by omega) (by omega) (fun h99 => ?_) (fun h99 => absurd h99 (by omega))
          rw [show k = 12 by omega]
          refine sg_aln (pc := 157) C d_R_settle_157 rfl ?_
          refine sg_getr (pc := 158) C fw_R_32 (by omega) rfl rfl rfl d_R_settle_158 ?_
          refine sg_iln (pc := 161) C d_R_settle_161 rfl ?_
          refine sg_ic (pc := 162) (v := 0) C d_R_settle_162 (by decide) ?_
          refine sg_bast (pc := 163) (n := 12) C (by omega) rfl (by omega) (by decide) (by omega) d_R_settle_163 ?_
          refine sg_iln (pc := 164) C d_R_settle_164 rfl ?_
          refine sg_ifeq (pc := 165) (tgt := 192) C d_R_settle_165 (by decide) (by omega) (fun h165 => absurd h165 (by decide)) (fun h165 => ?_)
          refine sg_aln (pc := 168) C d_R_settle_168 rfl ?_
          refine sg_getr (pc := 169) C fw_R_20 (by omega) rfl rfl rfl d_R_settle_169 ?_
          refine sg_iln (pc := 172) C d_R_settle_172 rfl ?_
          refine sg_aln (pc := 173) C d_R_settle_173 rfl ?_
          refine sg_getr (pc := 174) C fw_R_26 (by omega) rfl rfl rfl d_R_settle_174 ?_
          refine sg_iln (pc := 177) C d_R_settle_177 rfl ?_
          refine sg_iald (pc := 178) (n := 12) C (by omega) rfl (by omega) (by decide) d_R_settle_178 ?_
          rw [sm_up_x (Or.inl (by decide)), rst_o (by decide) (by decide) (by decide) (by decide) (by decide)]
          refine sg_iast (pc := 179) (n := 12) C (by omega) rfl (by omega) (by decide) d_R_settle_179 ?_
          refine sg_aln (pc := 180) C d_R_settle_180 rfl ?_
          refine sg_getr (pc := 181) C fw_R_23 (by omega) rfl rfl rfl d_R_settle_181 ?_
          refine sg_iln (pc := 184) C d_R_settle_184 rfl ?_
          refine sg_aln (pc := 185) C d_R_settle_185 rfl ?_
          refine sg_getr (pc := 186) C fw_R_29 (by omega) rfl rfl rfl d_R_settle_186 ?_
          refine sg_iln (pc := 189) C d_R_settle_189 rfl ?_
          refine sg_iald (pc := 190) (n := 12) C (by omega) rfl (by omega) (by decide) d_R_settle_190 ?_
          rw [sm_up_x (Or.inl (by decide)), sm_up_x (Or.inl (by decide)), rst_o (by decide) (by decide) (by decide) (by decide) (by decide)]
          refine sg_iast (pc := 191) (n := 12) C (by omega) rfl (by omega) (by decide) d_R_settle_191 ?_
          refine sg_iln (pc := 192) C d_R_settle_192 rfl ?_
          exact sg_iret (pc := 193) C I rfl (sn_b (by decide)) d_R_settle_193 ⟨by rw [hcn]; rfl, by unfold rsE; rw [hcn]; rfl, rfl⟩
        | succ t ih2 =>
          intro k hk
          have g1 := hf.1 k (by omega)
          have g2 := hf.2 (12 * k + o) (by omega)
          have es : rst X o true (k + 1) = if rlv X k = true then sm_up (if (true && decide (X 716 (12 * k + o) = X 708 o)) = true then rsn (rst X o true k) k o else rst X o true k) 716 (12 * k + o) 0 else rst X o true k := rfl
          refine sg_iln (pc := 96) C d_R_settle_96 rfl ?_
          refine sg_bi (pc := 97) (v := 12) C d_R_settle_97 (by decide) ?_
          refine sg_icge (pc := 99) (tgt := 157) C d_R_settle_99 (by decide) (by omega) (by omega) (fun h99 => absurd h99 (by omega)) (fun h99 => ?_)
          refine sg_aln (pc := 102) C d_R_settle_102 rfl ?_
          refine sg_getr (pc := 103) C fw_R_36 (by omega) rfl rfl rfl d_R_settle_103 ?_
          refine sg_iln (pc := 106) C d_R_settle_106 rfl ?_
          refine sg_bald (pc := 107) (n := 12) C (by omega) rfl (by omega) (by decide) d_R_settle_107 ?_
          rw [rst_o (by decide) (by decide) (by decide) (by decide) (by decide)]
          refine sg_ifne (pc := 108) (tgt := 151) C d_R_settle_108 (by decide) (by omega) (fun h108 => ?_) (fun h108 => ?_)
          · refine sg_inc3 (pc := 151) (n := 1) C d_R_settle_151 (by decide) ?_
            refine sg_goto (pc := 154) (tgt := 96) C d_R_settle_154 (by decide) ?_
            have h := ih2 (k + 1) (by omega)
            rw [es, if_neg (by simp [rlv, h108])] at h
            exact h
          · refine sg_iln (pc := 111) C d_R_settle_111 rfl ?_
            refine sg_ifeq (pc := 112) (tgt := 140) C d_R_settle_112 (by decide) (by omega) (fun h112 => absurd h112 (by decide)) (fun h112 => ?_)
            refine sg_aln (pc := 115) C d_R_settle_115 rfl ?_
            refine sg_getr (pc := 116) C fw_R_52 (by omega) rfl rfl rfl d_R_settle_116 ?_
            refine sg_iln (pc := 119) C d_R_settle_119 rfl ?_
            refine sg_iln (pc := 120) C d_R_settle_120 rfl ?_
            refine sm_callS (pc := 121) (As := [.int (nI k), .int (nI o)]) C I (c_R_at l Ω) cw_R_85 sw_R_at rfl (by decide) ⟨by decide, by decide⟩ rfl (Nat.le_of_ble_eq_true rfl) d_R_settle_121 (sm_det_i ?_)
            refine sg_iald (pc := 124) (n := 144) C (by omega) rfl (by omega) (by decide) d_R_settle_124 ?_
            rw [rst_6 k (Nat.le_refl k)]
            refine sg_aln (pc := 125) C d_R_settle_125 rfl ?_
            refine sg_getr (pc := 126) C fw_R_26 (by omega) rfl rfl rfl d_R_settle_126 ?_
            refine sg_iln (pc := 129) C d_R_settle_129 rfl ?_
            refine sg_iald (pc := 130) (n := 12) C (by omega) rfl (by omega) (by decide) d_R_settle_130 ?_
            rw [rst_o (by decide) (by decide) (by decide) (by decide) (by decide)]
            refine sg_icne (pc := 131) (tgt := 140) C d_R_settle_131 (by decide) (by omega) (by omega) (fun h131 => ?_) (fun h131 => ?_)
            · refine sg_aln (pc := 140) C d_R_settle_140 rfl ?_
              refine sg_getr (pc := 141) C fw_R_52 (by omega) rfl rfl rfl d_R_settle_141 ?_
              refine sg_iln (pc := 144) C d_R_settle_144 rfl ?_
              refine sg_iln (pc := 145) C d_R_settle_145 rfl ?_
              refine sm_callS (pc := 146) (As := [.int (nI k), .int (nI o)]) C I (c_R_at l Ω) cw_R_85 sw_R_at rfl (by decide) ⟨by decide, by decide⟩ rfl (Nat.le_of_ble_eq_true rfl) d_R_settle_146 (sm_det_i ?_)
              refine sg_ic (pc := 149) (v := 0) C d_R_settle_149 (by decide) ?_
              refine sg_iast (pc := 150) (n := 144) C (by omega) rfl (by omega) (by decide) d_R_settle_150 ?_
              refine sg_inc3 (pc := 151) (n := 1) C d_R_settle_151 (by decide) ?_
              refine sg_goto (pc := 154) (tgt := 96) C d_R_settle_154 (by decide) ?_
              have h := ih2 (k + 1) (by omega)
              rw [es, if_pos (show rlv X k = true from decide_eq_true h108), if_neg (by simp [h131])] at h
              exact h
            · refine sg_aln (pc := 134) C d_R_settle_134 rfl ?_
              refine sg_iln (pc := 135) C d_R_settle_135 rfl ?_
              refine sg_iln (pc := 136) C d_R_settle_136 rfl ?_
              refine sm_callV (pc := 137) (As := [.int (nI k), .int (nI o)]) C I (c_R_settleNode l Ω (by omega) ho) cw_R_100 iw_R_settleNode (C.1.2.2.2.2 _ (List.mem_cons_of_mem _ se_R_settleNode)) (by omega) rfl rfl rfl rfl (by decide) ⟨by decide, by decide⟩ rfl (Nat.le_of_ble_eq_true rfl) d_R_settle_137 (sm_det_v ?_)
              refine sg_aln (pc := 140) C d_R_settle_140 rfl ?_
              refine sg_getr (pc := 141) C fw_R_52 (by omega) rfl rfl rfl d_R_settle_141 ?_
              refine sg_iln (pc := 144) C d_R_settle_144 rfl ?_
              refine sg_iln (pc := 145) C d_R_settle_145 rfl ?_
              refine sm_callS (pc := 146) (As := [.int (nI k), .int (nI o)]) C I (c_R_at l Ω) cw_R_85 sw_R_at rfl (by decide) ⟨by decide, by decide⟩ rfl (Nat.le_of_ble_eq_true rfl) d_R_settle_146 (sm_det_i ?_)
              refine sg_ic (pc := 149) (v := 0) C d_R_settle_149 (by decide) ?_
              refine sg_iast (pc := 150) (n := 144) C (by omega) rfl (by omega) (by decide) d_R_settle_150 ?_
              refine sg_inc3 (pc := 151) (n := 1) C d_R_settle_151 (by decide) ?_
              refine sg_goto (pc := 154) (tgt := 96) C d_R_settle_154 (by decide) ?_
              have h := ih2 (k + 1) (by omega)
              rw [es, if_pos (show rlv X k = true from decide_eq_true h108), if_pos (by simp [h131])] at h
              exact h
      exact loop2 12 0 (by omega)
    | succ t ih =>
      intro k hk
      have g1 := hf.2 (12 * k + o) (by omega)
      have b1 := b2_lt (rcn X o k)
      have ec : rcn X o (k + 1) = (rcn X o k || decide (X 713 (12 * k + o) = X 708 o)) := rfl
      refine sg_iln (pc := 53) C d_R_settle_53 rfl ?_
      refine sg_bi (pc := 54) (v := 12) C d_R_settle_54 (by decide) ?_
      refine sg_icge (pc := 56) (tgt := 94) C d_R_settle_56 (by decide) (by omega) (by omega) (fun h56 => absurd h56 (by omega)) (fun h56 => ?_)
      refine sg_iln (pc := 59) C d_R_settle_59 rfl ?_
      refine sg_ifne (pc := 60) (tgt := 82) C d_R_settle_60 (by decide) (by omega) (fun h60 => ?_) (fun h60 => ?_)
      · refine sg_ic (pc := 82) (v := 1) C d_R_settle_82 (by decide) ?_
        refine sg_goto (pc := 83) (tgt := 87) C d_R_settle_83 (by decide) ?_
        refine sg_is2 (pc := 87) C d_R_settle_87 ?_
        refine sg_inc3 (pc := 88) (n := 1) C d_R_settle_88 (by decide) ?_
        refine sg_goto (pc := 91) (tgt := 53) C d_R_settle_91 (by decide) ?_
        have h := ih (k + 1) (by omega)
        rw [ec, b2_1 h60, Bool.true_or] at h
        exact h
      · refine sg_aln (pc := 63) C d_R_settle_63 rfl ?_
        refine sg_getr (pc := 64) C fw_R_42 (by omega) rfl rfl rfl d_R_settle_64 ?_
        refine sg_iln (pc := 67) C d_R_settle_67 rfl ?_
        refine sg_iln (pc := 68) C d_R_settle_68 rfl ?_
        refine sm_callS (pc := 69) (As := [.int (nI k), .int (nI o)]) C I (c_R_at l Ω) cw_R_85 sw_R_at rfl (by decide) ⟨by decide, by decide⟩ rfl (Nat.le_of_ble_eq_true rfl) d_R_settle_69 (sm_det_i ?_)
        refine sg_iald (pc := 72) (n := 144) C (by omega) rfl (by omega) (by decide) d_R_settle_72 ?_
        rw [sm_up_x (Or.inl (by decide))]
        refine sg_aln (pc := 73) C d_R_settle_73 rfl ?_
        refine sg_getr (pc := 74) C fw_R_26 (by omega) rfl rfl rfl d_R_settle_74 ?_
        refine sg_iln (pc := 77) C d_R_settle_77 rfl ?_
        refine sg_iald (pc := 78) (n := 12) C (by omega) rfl (by omega) (by decide) d_R_settle_78 ?_
        rw [sm_up_x (Or.inl (by decide))]
        refine sg_icne (pc := 79) (tgt := 86) C d_R_settle_79 (by decide) (by omega) (by omega) (fun h79 => ?_) (fun h79 => ?_)
        · refine sg_ic (pc := 86) (v := 0) C d_R_settle_86 (by decide) ?_
          refine sg_is2 (pc := 87) C d_R_settle_87 ?_
          refine sg_inc3 (pc := 88) (n := 1) C d_R_settle_88 (by decide) ?_
          refine sg_goto (pc := 91) (tgt := 53) C d_R_settle_91 (by decide) ?_
          have h := ih (k + 1) (by omega)
          rw [ec, b2_0 h60, decide_eq_false h79] at h
          exact h
        · refine sg_ic (pc := 82) (v := 1) C d_R_settle_82 (by decide) ?_
          refine sg_goto (pc := 83) (tgt := 87) C d_R_settle_83 (by decide) ?_
          refine sg_is2 (pc := 87) C d_R_settle_87 ?_
          refine sg_inc3 (pc := 88) (n := 1) C d_R_settle_88 (by decide) ?_
          refine sg_goto (pc := 91) (tgt := 53) C d_R_settle_91 (by decide) ?_
          have h := ih (k + 1) (by omega)
          rw [ec, decide_eq_true h79, Bool.or_true] at h
          exact h
  exact loop 12 0 (by omega)

set_option maxHeartbeats 4000000 in
set_option maxRecDepth 100000 in
theorem c_R_settle0 (l : Launch) (Ω : sm_Ω) {X : sm_X} {w : Nat → Nat → Nat} (hf : rwf X) {o : Nat} (ho : o < 12) (hs : X 710 o ≠ 0) (hcn : (rcn X o 12) = false) : sm_met l Ω y_R_settle b_R_settle 4 (some .boolean) 4 723 [.ref (Ω.2.1 + 703), .int (nI o)] X (sm_rf w) (sm_det (some (.int (nI (b2 (rcn X o 12))))) (rsE X o) (sm_rf w)) := by
  refine sm_intro (own := RX7) (L := [some (.ref (Ω.2.1 + 703)), some (.int (nI o)), none, none]) (by decide) rfl (by simp [Value.category]) (Nat.le_of_ble_eq_true rfl) rfl ?_
  intro Γ C I
  have gi := hf.1 o ho
  refine sg_aln (pc := 0) C d_R_settle_0 rfl ?_
  refine sg_ic (pc := 1) (v := 0) C d_R_settle_1 (by decide) ?_
  refine sg_puti (pc := 2) C pw_R_70 (by omega) rfl rfl rfl rfl d_R_settle_2 ?_
  refine sg_iln (pc := 5) C d_R_settle_5 rfl ?_
  refine sm_callS (pc := 6) (As := [.int (nI o)]) C I (c_R_isObject1 l Ω (by omega)) cw_R_88 sw_R_isObject rfl (by decide) ⟨by decide, by decide⟩ rfl (Nat.le_of_ble_eq_true rfl) d_R_settle_6 (sm_det_i ?_)
  refine sg_ifne (pc := 9) (tgt := 26) C d_R_settle_9 (by decide) (by omega) (fun h9 => ?_) (fun h9 => absurd h9 (by decide))
  refine sg_aln (pc := 26) C d_R_settle_26 rfl ?_
  refine sg_getr (pc := 27) C fw_R_32 (by omega) rfl rfl rfl d_R_settle_27 ?_
  refine sg_iln (pc := 30) C d_R_settle_30 rfl ?_
  refine sg_bald (pc := 31) (n := 12) C (by omega) rfl (by omega) (by decide) d_R_settle_31 ?_
  rw [sm_up_x (Or.inl (by decide))]
  refine sg_ifne (pc := 32) (tgt := 49) C d_R_settle_32 (by decide) (by omega) (fun h32 => ?_) (fun h32 => absurd h32 hs)
  refine sg_ic (pc := 49) (v := 0) C d_R_settle_49 (by decide) ?_
  refine sg_is2 (pc := 50) C d_R_settle_50 ?_
  refine sg_ic (pc := 51) (v := 0) C d_R_settle_51 (by decide) ?_
  refine sg_is3 (pc := 52) C d_R_settle_52 ?_
  have loop : ∀ t k, k + t = 12 → sm_G Γ Ω 723 0 0 53 [some (.ref (Ω.2.1 + 703)), some (.int (nI o)), some (.int (nI (b2 (rcn X o k)))), some (.int (nI k))] [] (sm_up X 703 0 0) (sm_rf w) := by
    intro t
    induction t with
    | zero =>
      intro k hk
      refine sg_iln (pc := 53) C d_R_settle_53 rfl ?_
      refine sg_bi (pc := 54) (v := 12) C d_R_settle_54 (by decide) ?_
      refine sg_icge (pc := 56) (tgt := 94) C d_R_settle_56 (by decide) (by omega) (by omega) (fun h56 => ?_) (fun h56 => absurd h56 (by omega))
      rw [show k = 12 by omega, hcn]
      change sm_G Γ Ω 723 0 0 94 [some (.ref (Ω.2.1 + 703)), some (.int (nI o)), some (.int (nI 0)), _] [] _ _
      refine sg_ic (pc := 94) (v := 0) C d_R_settle_94 (by decide) ?_
      refine sg_is3 (pc := 95) C d_R_settle_95 ?_
      have loop2 : ∀ t k, k + t = 12 → sm_G Γ Ω 723 0 0 96 [some (.ref (Ω.2.1 + 703)), some (.int (nI o)), some (.int (nI 0)), some (.int (nI k))] [] (rst X o false k) (sm_rf w) := by
        intro t
        induction t with
        | zero =>
          intro k hk
          refine sg_iln (pc := 96) C d_R_settle_96 rfl ?_
          refine sg_bi (pc := 97) (v := 12) C d_R_settle_97 (by decide) ?_
          refine sg_icge (pc := 99) (tgt := 157) C d_R_settle_99 (by decide) (by omega) (by omega) (fun h99 => ?_) (fun h99 => absurd h99 (by omega))
          rw [show k = 12 by omega]
          refine sg_aln (pc := 157) C d_R_settle_157 rfl ?_
          refine sg_getr (pc := 158) C fw_R_32 (by omega) rfl rfl rfl d_R_settle_158 ?_
          refine sg_iln (pc := 161) C d_R_settle_161 rfl ?_
          refine sg_ic (pc := 162) (v := 0) C d_R_settle_162 (by decide) ?_
          refine sg_bast (pc := 163) (n := 12) C (by omega) rfl (by omega) (by decide) (by omega) d_R_settle_163 ?_
          refine sg_iln (pc := 164) C d_R_settle_164 rfl ?_
          refine sg_ifeq (pc := 165) (tgt := 192) C d_R_settle_165 (by decide) (by omega) (fun h165 => ?_) (fun h165 => absurd rfl h165)
          refine sg_iln (pc := 192) C d_R_settle_192 rfl ?_
          exact sg_iret (pc := 193) C I rfl (sn_b (by decide)) d_R_settle_193 ⟨by rw [hcn]; rfl, by unfold rsE; rw [hcn]; rfl, rfl⟩
        | succ t ih2 =>
          intro k hk
          have g1 := hf.1 k (by omega)
          have g2 := hf.2 (12 * k + o) (by omega)
          have es : rst X o false (k + 1) = if rlv X k = true then sm_up (if (false && decide (X 716 (12 * k + o) = X 708 o)) = true then rsn (rst X o false k) k o else rst X o false k) 716 (12 * k + o) 0 else rst X o false k := rfl
          refine sg_iln (pc := 96) C d_R_settle_96 rfl ?_
          refine sg_bi (pc := 97) (v := 12) C d_R_settle_97 (by decide) ?_
          refine sg_icge (pc := 99) (tgt := 157) C d_R_settle_99 (by decide) (by omega) (by omega) (fun h99 => absurd h99 (by omega)) (fun h99 => ?_)
          refine sg_aln (pc := 102) C d_R_settle_102 rfl ?_
          refine sg_getr (pc := 103) C fw_R_36 (by omega) rfl rfl rfl d_R_settle_103 ?_
          refine sg_iln (pc := 106) C d_R_settle_106 rfl ?_
          refine sg_bald (pc := 107) (n := 12) C (by omega) rfl (by omega) (by decide) d_R_settle_107 ?_
          rw [rst_o (by decide) (by decide) (by decide) (by decide) (by decide)]
          refine sg_ifne (pc := 108) (tgt := 151) C d_R_settle_108 (by decide) (by omega) (fun h108 => ?_) (fun h108 => ?_)
          · refine sg_inc3 (pc := 151) (n := 1) C d_R_settle_151 (by decide) ?_
            refine sg_goto (pc := 154) (tgt := 96) C d_R_settle_154 (by decide) ?_
            have h := ih2 (k + 1) (by omega)
            rw [es, if_neg (by simp [rlv, h108])] at h
            exact h
          · refine sg_iln (pc := 111) C d_R_settle_111 rfl ?_
            refine sg_ifeq (pc := 112) (tgt := 140) C d_R_settle_112 (by decide) (by omega) (fun h112 => ?_) (fun h112 => absurd rfl h112)
            refine sg_aln (pc := 140) C d_R_settle_140 rfl ?_
            refine sg_getr (pc := 141) C fw_R_52 (by omega) rfl rfl rfl d_R_settle_141 ?_
            refine sg_iln (pc := 144) C d_R_settle_144 rfl ?_
            refine sg_iln (pc := 145) C d_R_settle_145 rfl ?_
            refine sm_callS (pc := 146) (As := [.int (nI k), .int (nI o)]) C I (c_R_at l Ω) cw_R_85 sw_R_at rfl (by decide) ⟨by decide, by decide⟩ rfl (Nat.le_of_ble_eq_true rfl) d_R_settle_146 (sm_det_i ?_)
            refine sg_ic (pc := 149) (v := 0) C d_R_settle_149 (by decide) ?_
            refine sg_iast (pc := 150) (n := 144) C (by omega) rfl (by omega) (by decide) d_R_settle_150 ?_
            refine sg_inc3 (pc := 151) (n := 1) C d_R_settle_151 (by decide) ?_
            refine sg_goto (pc := 154) (tgt := 96) C d_R_settle_154 (by decide) ?_
            have h := ih2 (k + 1) (by omega)
            rw [es, if_pos (show rlv X k = true from decide_eq_true h108), if_neg (by simp)] at h
            exact h
      exact loop2 12 0 (by omega)
    | succ t ih =>
      intro k hk
      have g1 := hf.2 (12 * k + o) (by omega)
      have b1 := b2_lt (rcn X o k)
      have ec : rcn X o (k + 1) = (rcn X o k || decide (X 713 (12 * k + o) = X 708 o)) := rfl
      refine sg_iln (pc := 53) C d_R_settle_53 rfl ?_
      refine sg_bi (pc := 54) (v := 12) C d_R_settle_54 (by decide) ?_
      refine sg_icge (pc := 56) (tgt := 94) C d_R_settle_56 (by decide) (by omega) (by omega) (fun h56 => absurd h56 (by omega)) (fun h56 => ?_)
      refine sg_iln (pc := 59) C d_R_settle_59 rfl ?_
      refine sg_ifne (pc := 60) (tgt := 82) C d_R_settle_60 (by decide) (by omega) (fun h60 => ?_) (fun h60 => ?_)
      · refine sg_ic (pc := 82) (v := 1) C d_R_settle_82 (by decide) ?_
        refine sg_goto (pc := 83) (tgt := 87) C d_R_settle_83 (by decide) ?_
        refine sg_is2 (pc := 87) C d_R_settle_87 ?_
        refine sg_inc3 (pc := 88) (n := 1) C d_R_settle_88 (by decide) ?_
        refine sg_goto (pc := 91) (tgt := 53) C d_R_settle_91 (by decide) ?_
        have h := ih (k + 1) (by omega)
        rw [ec, b2_1 h60, Bool.true_or] at h
        exact h
      · refine sg_aln (pc := 63) C d_R_settle_63 rfl ?_
        refine sg_getr (pc := 64) C fw_R_42 (by omega) rfl rfl rfl d_R_settle_64 ?_
        refine sg_iln (pc := 67) C d_R_settle_67 rfl ?_
        refine sg_iln (pc := 68) C d_R_settle_68 rfl ?_
        refine sm_callS (pc := 69) (As := [.int (nI k), .int (nI o)]) C I (c_R_at l Ω) cw_R_85 sw_R_at rfl (by decide) ⟨by decide, by decide⟩ rfl (Nat.le_of_ble_eq_true rfl) d_R_settle_69 (sm_det_i ?_)
        refine sg_iald (pc := 72) (n := 144) C (by omega) rfl (by omega) (by decide) d_R_settle_72 ?_
        rw [sm_up_x (Or.inl (by decide))]
        refine sg_aln (pc := 73) C d_R_settle_73 rfl ?_
        refine sg_getr (pc := 74) C fw_R_26 (by omega) rfl rfl rfl d_R_settle_74 ?_
        refine sg_iln (pc := 77) C d_R_settle_77 rfl ?_
        refine sg_iald (pc := 78) (n := 12) C (by omega) rfl (by omega) (by decide) d_R_settle_78 ?_
        rw [sm_up_x (Or.inl (by decide))]
        refine sg_icne (pc := 79) (tgt := 86) C d_R_settle_79 (by decide) (by omega) (by omega) (fun h79 => ?_) (fun h79 => ?_)
        · refine sg_ic (pc := 86) (v := 0) C d_R_settle_86 (by decide) ?_
          refine sg_is2 (pc := 87) C d_R_settle_87 ?_
          refine sg_inc3 (pc := 88) (n := 1) C d_R_settle_88 (by decide) ?_
          refine sg_goto (pc := 91) (tgt := 53) C d_R_settle_91 (by decide) ?_
          have h := ih (k + 1) (by omega)
          rw [ec, b2_0 h60, decide_eq_false h79] at h
          exact h
        · refine sg_ic (pc := 82) (v := 1) C d_R_settle_82 (by decide) ?_
          refine sg_goto (pc := 83) (tgt := 87) C d_R_settle_83 (by decide) ?_
          refine sg_is2 (pc := 87) C d_R_settle_87 ?_
          refine sg_inc3 (pc := 88) (n := 1) C d_R_settle_88 (by decide) ?_
          refine sg_goto (pc := 91) (tgt := 53) C d_R_settle_91 (by decide) ?_
          have h := ih (k + 1) (by omega)
          rw [ec, decide_eq_true h79, Bool.or_true] at h
          exact h
  exact loop 12 0 (by omega)
