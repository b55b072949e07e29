/-! The law's body, call by call -/
section
variable {Γ : sm_Γ} {Ω : sm_Ω} {w0 : Cond} {l : Launch} {b0 N c S0 : Nat} {xs : Nat → Int32} {X : sm_X} {w : Nat → Nat → Nat} {CT : Nat → Nat → Nat → Nat} {LN : Nat → Nat → Nat}

set_option maxHeartbeats 4000000 in
set_option maxRecDepth 100000 in
theorem lb_load (C : sm_C Γ Ω code RL 7 w0) (I : sm_la Γ = l ∧ sm_rm Γ = sm_room 11 601024 7293033 ∧ True) (hl : l.stackTraces = false) (hNC : sm_NC (sm_s Γ)) (hX : va_X b0 N xs (sm_s Γ) (sm_s Γ).heap) (hb : b0 < (sm_s Γ).heap.size) (hA : ¬ Ω.2.1 ≤ b0) (hN : N ≤ 2048) (hc : 4 * c + 4 ≤ N) (hS0 : S0 < 1000000) (h : sim X X w CT LN c) (u5 u6 : Option Value)
    (kk : ∀ (v5 v6 : Option Value) X2 w2 CT2 LN2, sim X2 X2 w2 CT2 LN2 (c + 1) → sm_G Γ Ω 723 (724 + c) (S0 + 6 * c + 6) 991 [some (.ref b0), some (.ref (Ω.2.1 + 0)), some (.ref (Ω.2.1 + 703)), some (.ref (Ω.2.1 + 722)), some (.int (nI (4 * c))), v5, v6] [] X2 (sm_rf w2)) : sm_G Γ Ω 723 (723 + c) (S0 + 6 * c) 108 [some (.ref b0), some (.ref (Ω.2.1 + 0)), some (.ref (Ω.2.1 + 703)), some (.ref (Ω.2.1 + 722)), some (.int (nI (4 * c))), u5, u6] [] X (sm_rf w) := by
  obtain ⟨k, mc, ms, pw, hk, hmc, hms, hw, hn⟩ := st_load l hl Ω h (by omega) (xs (4 * c + 1)) (xs (4 * c + 2))
  refine sg_aln (pc := 108) C d_L_law_108 rfl ?_
  refine sg_aln (pc := 109) C d_L_law_109 rfl ?_
  refine sg_il (pc := 110) C d_L_law_110 rfl ?_
  refine sg_ic (pc := 112) (v := 1) C d_L_law_112 (by decide) ?_
  refine sg_add (pc := 113) C d_L_law_113 ?_
  refine sg_sld (pc := 114) C hX hb hA (by omega) (by omega) d_L_law_114 ?_
  refine sg_aln (pc := 115) C d_L_law_115 rfl ?_
  refine sg_il (pc := 116) C d_L_law_116 rfl ?_
  refine sg_ic (pc := 118) (v := 2) C d_L_law_118 (by decide) ?_
  refine sg_add (pc := 119) C d_L_law_119 ?_
  refine sg_sld (pc := 120) C hX hb hA (by omega) (by omega) d_L_law_120 ?_
  refine sm_callW (pc := 121) (na := 3) (As := [.ref (Ω.2.1 + 0), .int (xs (4 * c + 1)), .int (xs (4 * c + 2))]) C I hNC hw kw_L_load ki_L_load kl_L_72 ⟨by decide, by decide, by decide +kernel⟩ (by decide) sw_L_load rfl (by decide) ⟨by omega, by omega⟩ rfl (Nat.le_of_ble_eq_true rfl) d_L_law_121 (fun v X1 Y1 hv => ?_)
  obtain ⟨rfl, w1, rfl, pr, hR, hn2⟩ := hn v X1 Y1 hv
  refine sm_di ?_
  refine sg_is5 (pc := 124) C d_L_law_124 ?_
  refine sg_aln (pc := 126) C d_L_law_126 rfl ?_
  refine sg_aln (pc := 127) C d_L_law_127 rfl ?_
  refine sg_il (pc := 128) C d_L_law_128 rfl ?_
  refine sg_ic (pc := 130) (v := 1) C d_L_law_130 (by decide) ?_
  refine sg_add (pc := 131) C d_L_law_131 ?_
  refine sg_sld (pc := 132) C hX hb hA (by omega) (by omega) d_L_law_132 ?_
  refine sg_aln (pc := 133) C d_L_law_133 rfl ?_
  refine sg_il (pc := 134) C d_L_law_134 rfl ?_
  refine sg_ic (pc := 136) (v := 2) C d_L_law_136 (by decide) ?_
  refine sg_add (pc := 137) C d_L_law_137 ?_
  refine sg_sld (pc := 138) C hX hb hA (by omega) (by omega) d_L_law_138 ?_
  refine sm_callV (pc := 139) (As := [.int (xs (4 * c + 1)), .int (xs (4 * c + 2))]) C I hR cw_L_77 iw_R_load (C.1.2.2.2.2 _ (List.mem_cons_of_mem _ se_R_load)) (by decide) rfl rfl rfl rfl (by decide) ⟨by omega, by omega⟩ rfl (Nat.le_of_ble_eq_true rfl) d_L_law_139 (fun r X2 Y2 hr => ?_)
  obtain ⟨rfl, ht, ⟨CT2, LN2, h2⟩, hans⟩ := hn2 r X2 Y2 hr
  obtain rfl : r = none := hans
  refine sm_dn ?_
  refine sg_aln (pc := 142) C d_L_law_142 rfl ?_
  refine sm_callV (pc := 143) (As := []) C I (c_R_thrown l Ω) cw_L_78 iw_R_thrown (C.1.2.2.2.2 _ (List.mem_cons_of_mem _ se_R_thrown)) (by decide) rfl rfl rfl rfl (by decide) ⟨by omega, by omega⟩ rfl (Nat.le_of_ble_eq_true rfl) d_L_law_143 (sm_det_i ?_)
  rw [ht]
  refine sg_il (pc := 146) C d_L_law_146 rfl ?_
  refine sg_iceq (pc := 148) (tgt := 153) C d_L_law_148 (by decide) (by omega) (by omega) (fun _ => ?_) (fun q => absurd rfl q)
  refine sg_goto (pc := 153) (tgt := 991) C d_L_law_153 (by decide) ?_
  exact sg_widen (by omega) (by omega) (kk _ _ X2 w1 CT2 LN2 h2)

set_option maxHeartbeats 4000000 in
set_option maxRecDepth 100000 in
theorem lb_put (C : sm_C Γ Ω code RL 7 w0) (I : sm_la Γ = l ∧ sm_rm Γ = sm_room 11 601024 7293033 ∧ True) (hl : l.stackTraces = false) (hNC : sm_NC (sm_s Γ)) (hX : va_X b0 N xs (sm_s Γ) (sm_s Γ).heap) (hb : b0 < (sm_s Γ).heap.size) (hA : ¬ Ω.2.1 ≤ b0) (hN : N ≤ 2048) (hc : 4 * c + 4 ≤ N) (hS0 : S0 < 1000000) (h : sim X X w CT LN c) (u5 u6 : Option Value)
    (kk : ∀ (v5 v6 : Option Value) X2 w2 CT2 LN2, sim X2 X2 w2 CT2 LN2 (c + 1) → sm_G Γ Ω 723 (724 + c) (S0 + 6 * c + 6) 991 [some (.ref b0), some (.ref (Ω.2.1 + 0)), some (.ref (Ω.2.1 + 703)), some (.ref (Ω.2.1 + 722)), some (.int (nI (4 * c))), v5, v6] [] X2 (sm_rf w2)) : sm_G Γ Ω 723 (723 + c) (S0 + 6 * c) 156 [some (.ref b0), some (.ref (Ω.2.1 + 0)), some (.ref (Ω.2.1 + 703)), some (.ref (Ω.2.1 + 722)), some (.int (nI (4 * c))), u5, u6] [] X (sm_rf w) := by
  obtain ⟨k, mc, ms, pw, hk, hmc, hms, hw, hn⟩ := st_put l hl Ω h (by omega) (xs (4 * c + 1)) (xs (4 * c + 2))
  refine sg_aln (pc := 156) C d_L_law_156 rfl ?_
  refine sg_aln (pc := 157) C d_L_law_157 rfl ?_
  refine sg_il (pc := 158) C d_L_law_158 rfl ?_
  refine sg_ic (pc := 160) (v := 1) C d_L_law_160 (by decide) ?_
  refine sg_add (pc := 161) C d_L_law_161 ?_
  refine sg_sld (pc := 162) C hX hb hA (by omega) (by omega) d_L_law_162 ?_
  refine sg_aln (pc := 163) C d_L_law_163 rfl ?_
  refine sg_il (pc := 164) C d_L_law_164 rfl ?_
  refine sg_ic (pc := 166) (v := 2) C d_L_law_166 (by decide) ?_
  refine sg_add (pc := 167) C d_L_law_167 ?_
  refine sg_sld (pc := 168) C hX hb hA (by omega) (by omega) d_L_law_168 ?_
  refine sg_aln (pc := 169) C d_L_law_169 rfl ?_
  refine sm_callW (pc := 170) (na := 4) (As := [.ref (Ω.2.1 + 0), .int (xs (4 * c + 1)), .int (xs (4 * c + 2)), .ref (Ω.2.1 + 722)]) C I hNC hw kw_L_put ki_L_put kl_L_82 ⟨by decide, by decide, by decide +kernel⟩ (by decide) sw_L_put rfl (by decide) ⟨by omega, by omega⟩ rfl (Nat.le_of_ble_eq_true rfl) d_L_law_170 (fun v X1 Y1 hv => ?_)
  obtain ⟨rfl, w1, rfl, pr, hR, hn2⟩ := hn v X1 Y1 hv
  refine sm_di ?_
  refine sg_is5 (pc := 173) C d_L_law_173 ?_
  refine sg_aln (pc := 175) C d_L_law_175 rfl ?_
  refine sg_aln (pc := 176) C d_L_law_176 rfl ?_
  refine sg_il (pc := 177) C d_L_law_177 rfl ?_
  refine sg_ic (pc := 179) (v := 1) C d_L_law_179 (by decide) ?_
  refine sg_add (pc := 180) C d_L_law_180 ?_
  refine sg_sld (pc := 181) C hX hb hA (by omega) (by omega) d_L_law_181 ?_
  refine sg_aln (pc := 182) C d_L_law_182 rfl ?_
  refine sg_il (pc := 183) C d_L_law_183 rfl ?_
  refine sg_ic (pc := 185) (v := 2) C d_L_law_185 (by decide) ?_
  refine sg_add (pc := 186) C d_L_law_186 ?_
  refine sg_sld (pc := 187) C hX hb hA (by omega) (by omega) d_L_law_187 ?_
  refine sm_callV (pc := 188) (As := [.int (xs (4 * c + 1)), .int (xs (4 * c + 2))]) C I hR cw_L_85 iw_R_put (C.1.2.2.2.2 _ (List.mem_cons_of_mem _ se_R_put)) (by decide) rfl rfl rfl rfl (by decide) ⟨by omega, by omega⟩ rfl (Nat.le_of_ble_eq_true rfl) d_L_law_188 (fun r X2 Y2 hr => ?_)
  obtain ⟨rfl, ht, ⟨CT2, LN2, h2⟩, hans⟩ := hn2 r X2 Y2 hr
  obtain ⟨y, rfl, hans⟩ := hans
  refine sm_di ?_
  refine sg_is6 (pc := 191) C d_L_law_191 ?_
  refine sg_aln (pc := 193) C d_L_law_193 rfl ?_
  refine sm_callV (pc := 194) (As := []) C I (c_R_thrown l Ω) cw_L_78 iw_R_thrown (C.1.2.2.2.2 _ (List.mem_cons_of_mem _ se_R_thrown)) (by decide) rfl rfl rfl rfl (by decide) ⟨by omega, by omega⟩ rfl (Nat.le_of_ble_eq_true rfl) d_L_law_194 (sm_det_i ?_)
  rw [ht]
  refine sg_il (pc := 197) C d_L_law_197 rfl ?_
  refine sg_iceq (pc := 199) (tgt := 204) C d_L_law_199 (by decide) (by omega) (by omega) (fun _ => ?_) (fun q => absurd rfl q)
  refine sg_il (pc := 204) C d_L_law_204 rfl ?_
  refine sg_ifne (pc := 206) (tgt := 221) C d_L_law_206 (by decide) (by omega) (fun h0 => ?_) (fun h0 => ?_)
  · refine sg_goto (pc := 221) (tgt := 991) C d_L_law_221 (by decide) ?_
    exact sg_widen (by omega) (by omega) (kk _ _ X2 w1 CT2 LN2 h2)
  · refine sg_aln (pc := 209) C d_L_law_209 rfl ?_
    refine sg_ic (pc := 210) (v := 0) C d_L_law_210 (by decide) ?_
    refine sg_lald (pc := 211) (n := 1) C (by decide) rfl (by decide) (by decide) d_L_law_211 ?_
    refine sg_il (pc := 212) C d_L_law_212 rfl ?_
    refine sr_i2l (pc := 214) C d_L_law_214 (hans h0) ?_
    refine sg_lcmp (pc := 215) C d_L_law_215 ?_
    refine sg_ifeq (pc := 216) (tgt := 221) C d_L_law_216 (by decide) (by decide) (fun _ => ?_) (fun q => absurd rfl q)
    refine sg_goto (pc := 221) (tgt := 991) C d_L_law_221 (by decide) ?_
    exact sg_widen (by omega) (by omega) (kk _ _ X2 w1 CT2 LN2 h2)

set_option maxHeartbeats 4000000 in
set_option maxRecDepth 100000 in
theorem lb_cut (C : sm_C Γ Ω code RL 7 w0) (I : sm_la Γ = l ∧ sm_rm Γ = sm_room 11 601024 7293033 ∧ True) (hl : l.stackTraces = false) (hNC : sm_NC (sm_s Γ)) (hX : va_X b0 N xs (sm_s Γ) (sm_s Γ).heap) (hb : b0 < (sm_s Γ).heap.size) (hA : ¬ Ω.2.1 ≤ b0) (hN : N ≤ 2048) (hc : 4 * c + 4 ≤ N) (hS0 : S0 < 1000000) (h : sim X X w CT LN c) (u5 u6 : Option Value)
    (kk : ∀ (v5 v6 : Option Value) X2 w2 CT2 LN2, sim X2 X2 w2 CT2 LN2 (c + 1) → sm_G Γ Ω 723 (724 + c) (S0 + 6 * c + 6) 991 [some (.ref b0), some (.ref (Ω.2.1 + 0)), some (.ref (Ω.2.1 + 703)), some (.ref (Ω.2.1 + 722)), some (.int (nI (4 * c))), v5, v6] [] X2 (sm_rf w2)) : sm_G Γ Ω 723 (723 + c) (S0 + 6 * c) 224 [some (.ref b0), some (.ref (Ω.2.1 + 0)), some (.ref (Ω.2.1 + 703)), some (.ref (Ω.2.1 + 722)), some (.int (nI (4 * c))), u5, u6] [] X (sm_rf w) := by
  obtain ⟨k, mc, ms, pw, hk, hmc, hms, hw, hn⟩ := st_cut l hl Ω h (by omega) (xs (4 * c + 1))
  refine sg_aln (pc := 224) C d_L_law_224 rfl ?_
  refine sg_aln (pc := 225) C d_L_law_225 rfl ?_
  refine sg_il (pc := 226) C d_L_law_226 rfl ?_
  refine sg_ic (pc := 228) (v := 1) C d_L_law_228 (by decide) ?_
  refine sg_add (pc := 229) C d_L_law_229 ?_
  refine sg_sld (pc := 230) C hX hb hA (by omega) (by omega) d_L_law_230 ?_
  refine sm_callW (pc := 231) (na := 2) (As := [.ref (Ω.2.1 + 0), .int (xs (4 * c + 1))]) C I hNC hw kw_L_cut ki_L_cut kl_L_86 ⟨by decide, by decide, by decide +kernel⟩ (by decide) sw_L_cut rfl (by decide) ⟨by omega, by omega⟩ rfl (Nat.le_of_ble_eq_true rfl) d_L_law_231 (fun v X1 Y1 hv => ?_)
  obtain ⟨rfl, w1, rfl, pr, hR, hn2⟩ := hn v X1 Y1 hv
  refine sm_di ?_
  refine sg_is5 (pc := 234) C d_L_law_234 ?_
  refine sg_aln (pc := 236) C d_L_law_236 rfl ?_
  refine sg_aln (pc := 237) C d_L_law_237 rfl ?_
  refine sg_il (pc := 238) C d_L_law_238 rfl ?_
  refine sg_ic (pc := 240) (v := 1) C d_L_law_240 (by decide) ?_
  refine sg_add (pc := 241) C d_L_law_241 ?_
  refine sg_sld (pc := 242) C hX hb hA (by omega) (by omega) d_L_law_242 ?_
  refine sm_callV (pc := 243) (As := [.int (xs (4 * c + 1))]) C I hR cw_L_89 iw_R_cut (C.1.2.2.2.2 _ (List.mem_cons_of_mem _ se_R_cut)) (by decide) rfl rfl rfl rfl (by decide) ⟨by omega, by omega⟩ rfl (Nat.le_of_ble_eq_true rfl) d_L_law_243 (fun r X2 Y2 hr => ?_)
  obtain ⟨rfl, ht, ⟨CT2, LN2, h2⟩, hans⟩ := hn2 r X2 Y2 hr
  obtain rfl : r = none := hans
  refine sm_dn ?_
  refine sg_aln (pc := 246) C d_L_law_246 rfl ?_
  refine sm_callV (pc := 247) (As := []) C I (c_R_thrown l Ω) cw_L_78 iw_R_thrown (C.1.2.2.2.2 _ (List.mem_cons_of_mem _ se_R_thrown)) (by decide) rfl rfl rfl rfl (by decide) ⟨by omega, by omega⟩ rfl (Nat.le_of_ble_eq_true rfl) d_L_law_247 (sm_det_i ?_)
  rw [ht]
  refine sg_il (pc := 250) C d_L_law_250 rfl ?_
  refine sg_iceq (pc := 252) (tgt := 257) C d_L_law_252 (by decide) (by omega) (by omega) (fun _ => ?_) (fun q => absurd rfl q)
  refine sg_goto (pc := 257) (tgt := 991) C d_L_law_257 (by decide) ?_
  exact sg_widen (by omega) (by omega) (kk _ _ X2 w1 CT2 LN2 h2)

set_option maxHeartbeats 4000000 in
set_option maxRecDepth 100000 in
theorem lb_settle (C : sm_C Γ Ω code RL 7 w0) (I : sm_la Γ = l ∧ sm_rm Γ = sm_room 11 601024 7293033 ∧ True) (hl : l.stackTraces = false) (hNC : sm_NC (sm_s Γ)) (hX : va_X b0 N xs (sm_s Γ) (sm_s Γ).heap) (hb : b0 < (sm_s Γ).heap.size) (hA : ¬ Ω.2.1 ≤ b0) (hN : N ≤ 2048) (hc : 4 * c + 4 ≤ N) (hS0 : S0 < 1000000) (h : sim X X w CT LN c) (u5 u6 : Option Value)
    (kk : ∀ (v5 v6 : Option Value) X2 w2 CT2 LN2, sim X2 X2 w2 CT2 LN2 (c + 1) → sm_G Γ Ω 723 (724 + c) (S0 + 6 * c + 6) 991 [some (.ref b0), some (.ref (Ω.2.1 + 0)), some (.ref (Ω.2.1 + 703)), some (.ref (Ω.2.1 + 722)), some (.int (nI (4 * c))), v5, v6] [] X2 (sm_rf w2)) : sm_G Γ Ω 723 (723 + c) (S0 + 6 * c) 260 [some (.ref b0), some (.ref (Ω.2.1 + 0)), some (.ref (Ω.2.1 + 703)), some (.ref (Ω.2.1 + 722)), some (.int (nI (4 * c))), u5, u6] [] X (sm_rf w) := by
  obtain ⟨k, mc, ms, pw, hk, hmc, hms, hw, hn⟩ := st_settle l hl Ω h (by omega) (xs (4 * c + 1))
  refine sg_aln (pc := 260) C d_L_law_260 rfl ?_
  refine sg_aln (pc := 261) C d_L_law_261 rfl ?_
  refine sg_il (pc := 262) C d_L_law_262 rfl ?_
  refine sg_ic (pc := 264) (v := 1) C d_L_law_264 (by decide) ?_
  refine sg_add (pc := 265) C d_L_law_265 ?_
  refine sg_sld (pc := 266) C hX hb hA (by omega) (by omega) d_L_law_266 ?_
  refine sg_aln (pc := 267) C d_L_law_267 rfl ?_
  refine sm_callW (pc := 268) (na := 3) (As := [.ref (Ω.2.1 + 0), .int (xs (4 * c + 1)), .ref (Ω.2.1 + 722)]) C I hNC hw kw_L_settle ki_L_settle kl_L_90 ⟨by decide, by decide, by decide +kernel⟩ (by decide) sw_L_settle rfl (by decide) ⟨by omega, by omega⟩ rfl (Nat.le_of_ble_eq_true rfl) d_L_law_268 (fun v X1 Y1 hv => ?_)
  obtain ⟨rfl, w1, rfl, pr, hR, hn2⟩ := hn v X1 Y1 hv
  refine sm_di ?_
  refine sg_is5 (pc := 271) C d_L_law_271 ?_
  refine sg_aln (pc := 273) C d_L_law_273 rfl ?_
  refine sg_aln (pc := 274) C d_L_law_274 rfl ?_
  refine sg_il (pc := 275) C d_L_law_275 rfl ?_
  refine sg_ic (pc := 277) (v := 1) C d_L_law_277 (by decide) ?_
  refine sg_add (pc := 278) C d_L_law_278 ?_
  refine sg_sld (pc := 279) C hX hb hA (by omega) (by omega) d_L_law_279 ?_
  refine sm_callV (pc := 280) (As := [.int (xs (4 * c + 1))]) C I hR cw_L_93 iw_R_settle (C.1.2.2.2.2 _ (List.mem_cons_of_mem _ se_R_settle)) (by decide) rfl rfl rfl rfl (by decide) ⟨by omega, by omega⟩ rfl (Nat.le_of_ble_eq_true rfl) d_L_law_280 (fun r X2 Y2 hr => ?_)
  obtain ⟨rfl, ht, ⟨CT2, LN2, h2⟩, hans⟩ := hn2 r X2 Y2 hr
  obtain ⟨b, hb2, rfl, hans⟩ := hans
  refine sm_di ?_
  refine sg_is6 (pc := 283) C d_L_law_283 ?_
  refine sg_aln (pc := 285) C d_L_law_285 rfl ?_
  refine sm_callV (pc := 286) (As := []) C I (c_R_thrown l Ω) cw_L_78 iw_R_thrown (C.1.2.2.2.2 _ (List.mem_cons_of_mem _ se_R_thrown)) (by decide) rfl rfl rfl rfl (by decide) ⟨by omega, by omega⟩ rfl (Nat.le_of_ble_eq_true rfl) d_L_law_286 (sm_det_i ?_)
  rw [ht]
  refine sg_il (pc := 289) C d_L_law_289 rfl ?_
  refine sg_iceq (pc := 291) (tgt := 296) C d_L_law_291 (by decide) (by omega) (by omega) (fun _ => ?_) (fun q => absurd rfl q)
  refine sg_il (pc := 296) C d_L_law_296 rfl ?_
  refine sg_ifne (pc := 298) (tgt := 320) C d_L_law_298 (by decide) (by omega) (fun h0 => ?_) (fun h0 => ?_)
  · refine sg_goto (pc := 320) (tgt := 991) C d_L_law_320 (by decide) ?_
    exact sg_widen (by omega) (by omega) (kk _ _ X2 w1 CT2 LN2 h2)
  · refine sg_aln (pc := 301) C d_L_law_301 rfl ?_
    refine sg_ic (pc := 302) (v := 0) C d_L_law_302 (by decide) ?_
    refine sg_lald (pc := 303) (n := 1) C (by decide) rfl (by decide) (by decide) d_L_law_303 ?_
    rw [hans h0]
    refine sg_il (pc := 304) C d_L_law_304 rfl ?_
    refine sg_ifeq (pc := 306) (tgt := 313) C d_L_law_306 (by decide) (by omega) (fun hb0 => ?_) (fun hb0 => ?_)
    · subst hb0
      refine sg_lconst (pc := 313) C d_L_law_313 ?_
      refine sg_lcmp (pc := 314) C d_L_law_314 ?_
      refine sg_ifeq (pc := 315) (tgt := 320) C d_L_law_315 (by decide) (by decide) (fun _ => ?_) (fun q => absurd rfl q)
      refine sg_goto (pc := 320) (tgt := 991) C d_L_law_320 (by decide) ?_
      exact sg_widen (by omega) (by omega) (kk _ _ X2 w1 CT2 LN2 h2)
    · obtain rfl : b = 1 := by omega
      refine sg_lconst (pc := 309) C d_L_law_309 ?_
      refine sg_goto (pc := 310) (tgt := 314) C d_L_law_310 (by decide) ?_
      refine sg_lcmp (pc := 314) C d_L_law_314 ?_
      refine sg_ifeq (pc := 315) (tgt := 320) C d_L_law_315 (by decide) (by decide) (fun _ => ?_) (fun q => absurd rfl q)
      refine sg_goto (pc := 320) (tgt := 991) C d_L_law_320 (by decide) ?_
      exact sg_widen (by omega) (by omega) (kk _ _ X2 w1 CT2 LN2 h2)

set_option maxHeartbeats 4000000 in
set_option maxRecDepth 100000 in
theorem lb_get (C : sm_C Γ Ω code RL 7 w0) (I : sm_la Γ = l ∧ sm_rm Γ = sm_room 11 601024 7293033 ∧ True) (hl : l.stackTraces = false) (hNC : sm_NC (sm_s Γ)) (hX : va_X b0 N xs (sm_s Γ) (sm_s Γ).heap) (hb : b0 < (sm_s Γ).heap.size) (hA : ¬ Ω.2.1 ≤ b0) (hN : N ≤ 2048) (hc : 4 * c + 4 ≤ N) (hS0 : S0 < 1000000) (h : sim X X w CT LN c) (u5 u6 : Option Value)
    (kk : ∀ (v5 v6 : Option Value) X2 w2 CT2 LN2, sim X2 X2 w2 CT2 LN2 (c + 1) → sm_G Γ Ω 723 (724 + c) (S0 + 6 * c + 6) 991 [some (.ref b0), some (.ref (Ω.2.1 + 0)), some (.ref (Ω.2.1 + 703)), some (.ref (Ω.2.1 + 722)), some (.int (nI (4 * c))), v5, v6] [] X2 (sm_rf w2)) : sm_G Γ Ω 723 (723 + c) (S0 + 6 * c) 323 [some (.ref b0), some (.ref (Ω.2.1 + 0)), some (.ref (Ω.2.1 + 703)), some (.ref (Ω.2.1 + 722)), some (.int (nI (4 * c))), u5, u6] [] X (sm_rf w) := by
  obtain ⟨k, mc, ms, pw, hk, hmc, hms, hw, hn⟩ := st_get l hl Ω h (by omega) (xs (4 * c + 1)) (xs (4 * c + 2))
  refine sg_aln (pc := 323) C d_L_law_323 rfl ?_
  refine sg_aln (pc := 324) C d_L_law_324 rfl ?_
  refine sg_il (pc := 325) C d_L_law_325 rfl ?_
  refine sg_ic (pc := 327) (v := 1) C d_L_law_327 (by decide) ?_
  refine sg_add (pc := 328) C d_L_law_328 ?_
  refine sg_sld (pc := 329) C hX hb hA (by omega) (by omega) d_L_law_329 ?_
  refine sg_aln (pc := 330) C d_L_law_330 rfl ?_
  refine sg_il (pc := 331) C d_L_law_331 rfl ?_
  refine sg_ic (pc := 333) (v := 2) C d_L_law_333 (by decide) ?_
  refine sg_add (pc := 334) C d_L_law_334 ?_
  refine sg_sld (pc := 335) C hX hb hA (by omega) (by omega) d_L_law_335 ?_
  refine sg_aln (pc := 336) C d_L_law_336 rfl ?_
  refine sm_callW (pc := 337) (na := 4) (As := [.ref (Ω.2.1 + 0), .int (xs (4 * c + 1)), .int (xs (4 * c + 2)), .ref (Ω.2.1 + 722)]) C I hNC hw kw_L_get ki_L_get kl_L_94 ⟨by decide, by decide, by decide +kernel⟩ (by decide) sw_L_get rfl (by decide) ⟨by omega, by omega⟩ rfl (Nat.le_of_ble_eq_true rfl) d_L_law_337 (fun v X1 Y1 hv => ?_)
  obtain ⟨rfl, w1, rfl, pr, hR, hn2⟩ := hn v X1 Y1 hv
  refine sm_di ?_
  refine sg_is5 (pc := 340) C d_L_law_340 ?_
  refine sg_aln (pc := 342) C d_L_law_342 rfl ?_
  refine sg_aln (pc := 343) C d_L_law_343 rfl ?_
  refine sg_il (pc := 344) C d_L_law_344 rfl ?_
  refine sg_ic (pc := 346) (v := 1) C d_L_law_346 (by decide) ?_
  refine sg_add (pc := 347) C d_L_law_347 ?_
  refine sg_sld (pc := 348) C hX hb hA (by omega) (by omega) d_L_law_348 ?_
  refine sg_aln (pc := 349) C d_L_law_349 rfl ?_
  refine sg_il (pc := 350) C d_L_law_350 rfl ?_
  refine sg_ic (pc := 352) (v := 2) C d_L_law_352 (by decide) ?_
  refine sg_add (pc := 353) C d_L_law_353 ?_
  refine sg_sld (pc := 354) C hX hb hA (by omega) (by omega) d_L_law_354 ?_
  refine sm_callV (pc := 355) (As := [.int (xs (4 * c + 1)), .int (xs (4 * c + 2))]) C I hR cw_L_96 iw_R_get (C.1.2.2.2.2 _ (List.mem_cons_of_mem _ se_R_get)) (by decide) rfl rfl rfl rfl (by decide) ⟨by omega, by omega⟩ rfl (Nat.le_of_ble_eq_true rfl) d_L_law_355 (fun r X2 Y2 hr => ?_)
  obtain ⟨rfl, ht, ⟨CT2, LN2, h2⟩, hans⟩ := hn2 r X2 Y2 hr
  obtain ⟨y, rfl, hans⟩ := hans
  refine sm_di ?_
  refine sg_is6 (pc := 358) C d_L_law_358 ?_
  refine sg_aln (pc := 360) C d_L_law_360 rfl ?_
  refine sm_callV (pc := 361) (As := []) C I (c_R_thrown l Ω) cw_L_78 iw_R_thrown (C.1.2.2.2.2 _ (List.mem_cons_of_mem _ se_R_thrown)) (by decide) rfl rfl rfl rfl (by decide) ⟨by omega, by omega⟩ rfl (Nat.le_of_ble_eq_true rfl) d_L_law_361 (sm_det_i ?_)
  rw [ht]
  refine sg_il (pc := 364) C d_L_law_364 rfl ?_
  refine sg_iceq (pc := 366) (tgt := 371) C d_L_law_366 (by decide) (by omega) (by omega) (fun _ => ?_) (fun q => absurd rfl q)
  refine sg_il (pc := 371) C d_L_law_371 rfl ?_
  refine sg_ifne (pc := 373) (tgt := 388) C d_L_law_373 (by decide) (by omega) (fun h0 => ?_) (fun h0 => ?_)
  · refine sg_goto (pc := 388) (tgt := 991) C d_L_law_388 (by decide) ?_
    exact sg_widen (by omega) (by omega) (kk _ _ X2 w1 CT2 LN2 h2)
  · refine sg_aln (pc := 376) C d_L_law_376 rfl ?_
    refine sg_ic (pc := 377) (v := 0) C d_L_law_377 (by decide) ?_
    refine sg_lald (pc := 378) (n := 1) C (by decide) rfl (by decide) (by decide) d_L_law_378 ?_
    refine sg_il (pc := 379) C d_L_law_379 rfl ?_
    refine sr_i2l (pc := 381) C d_L_law_381 (hans h0) ?_
    refine sg_lcmp (pc := 382) C d_L_law_382 ?_
    refine sg_ifeq (pc := 383) (tgt := 388) C d_L_law_383 (by decide) (by decide) (fun _ => ?_) (fun q => absurd rfl q)
    refine sg_goto (pc := 388) (tgt := 991) C d_L_law_388 (by decide) ?_
    exact sg_widen (by omega) (by omega) (kk _ _ X2 w1 CT2 LN2 h2)

set_option maxHeartbeats 4000000 in
set_option maxRecDepth 100000 in
theorem lb_out (C : sm_C Γ Ω code RL 7 w0) (I : sm_la Γ = l ∧ sm_rm Γ = sm_room 11 601024 7293033 ∧ True) (hl : l.stackTraces = false) (hNC : sm_NC (sm_s Γ)) (hX : va_X b0 N xs (sm_s Γ) (sm_s Γ).heap) (hb : b0 < (sm_s Γ).heap.size) (hA : ¬ Ω.2.1 ≤ b0) (hN : N ≤ 2048) (hc : 4 * c + 4 ≤ N) (hS0 : S0 < 1000000) (h : sim X X w CT LN c) (u5 u6 : Option Value)
    (kk : ∀ (v5 v6 : Option Value) X2 w2 CT2 LN2, sim X2 X2 w2 CT2 LN2 (c + 1) → sm_G Γ Ω 723 (724 + c) (S0 + 6 * c + 6) 991 [some (.ref b0), some (.ref (Ω.2.1 + 0)), some (.ref (Ω.2.1 + 703)), some (.ref (Ω.2.1 + 722)), some (.int (nI (4 * c))), v5, v6] [] X2 (sm_rf w2)) : sm_G Γ Ω 723 (723 + c) (S0 + 6 * c) 391 [some (.ref b0), some (.ref (Ω.2.1 + 0)), some (.ref (Ω.2.1 + 703)), some (.ref (Ω.2.1 + 722)), some (.int (nI (4 * c))), u5, u6] [] X (sm_rf w) := by
  obtain ⟨k, mc, ms, pw, hk, hmc, hms, hw, hn⟩ := st_out l hl Ω h (by omega) (xs (4 * c + 1))
  refine sg_aln (pc := 391) C d_L_law_391 rfl ?_
  refine sg_aln (pc := 392) C d_L_law_392 rfl ?_
  refine sg_il (pc := 393) C d_L_law_393 rfl ?_
  refine sg_ic (pc := 395) (v := 1) C d_L_law_395 (by decide) ?_
  refine sg_add (pc := 396) C d_L_law_396 ?_
  refine sg_sld (pc := 397) C hX hb hA (by omega) (by omega) d_L_law_397 ?_
  refine sg_aln (pc := 398) C d_L_law_398 rfl ?_
  refine sm_callW (pc := 399) (na := 3) (As := [.ref (Ω.2.1 + 0), .int (xs (4 * c + 1)), .ref (Ω.2.1 + 722)]) C I hNC hw kw_L_out ki_L_out kl_L_97 ⟨by decide, by decide, by decide +kernel⟩ (by decide) sw_L_out rfl (by decide) ⟨by omega, by omega⟩ rfl (Nat.le_of_ble_eq_true rfl) d_L_law_399 (fun v X1 Y1 hv => ?_)
  obtain ⟨rfl, w1, rfl, pr, hR, hn2⟩ := hn v X1 Y1 hv
  refine sm_di ?_
  refine sg_is5 (pc := 402) C d_L_law_402 ?_
  refine sg_aln (pc := 404) C d_L_law_404 rfl ?_
  refine sg_aln (pc := 405) C d_L_law_405 rfl ?_
  refine sg_il (pc := 406) C d_L_law_406 rfl ?_
  refine sg_ic (pc := 408) (v := 1) C d_L_law_408 (by decide) ?_
  refine sg_add (pc := 409) C d_L_law_409 ?_
  refine sg_sld (pc := 410) C hX hb hA (by omega) (by omega) d_L_law_410 ?_
  refine sm_callV (pc := 411) (As := [.int (xs (4 * c + 1))]) C I hR cw_L_99 iw_R_out (C.1.2.2.2.2 _ (List.mem_cons_of_mem _ se_R_out)) (by decide) rfl rfl rfl rfl (by decide) ⟨by omega, by omega⟩ rfl (Nat.le_of_ble_eq_true rfl) d_L_law_411 (fun r X2 Y2 hr => ?_)
  obtain ⟨rfl, ht, ⟨CT2, LN2, h2⟩, hans⟩ := hn2 r X2 Y2 hr
  obtain ⟨y, rfl, hans⟩ := hans
  refine sm_di ?_
  refine sg_is6 (pc := 414) C d_L_law_414 ?_
  refine sg_aln (pc := 416) C d_L_law_416 rfl ?_
  refine sm_callV (pc := 417) (As := []) C I (c_R_thrown l Ω) cw_L_78 iw_R_thrown (C.1.2.2.2.2 _ (List.mem_cons_of_mem _ se_R_thrown)) (by decide) rfl rfl rfl rfl (by decide) ⟨by omega, by omega⟩ rfl (Nat.le_of_ble_eq_true rfl) d_L_law_417 (sm_det_i ?_)
  rw [ht]
  refine sg_il (pc := 420) C d_L_law_420 rfl ?_
  refine sg_iceq (pc := 422) (tgt := 427) C d_L_law_422 (by decide) (by omega) (by omega) (fun _ => ?_) (fun q => absurd rfl q)
  refine sg_il (pc := 427) C d_L_law_427 rfl ?_
  refine sg_ifne (pc := 429) (tgt := 444) C d_L_law_429 (by decide) (by omega) (fun h0 => ?_) (fun h0 => ?_)
  · refine sg_goto (pc := 444) (tgt := 991) C d_L_law_444 (by decide) ?_
    exact sg_widen (by omega) (by omega) (kk _ _ X2 w1 CT2 LN2 h2)
  · refine sg_aln (pc := 432) C d_L_law_432 rfl ?_
    refine sg_ic (pc := 433) (v := 0) C d_L_law_433 (by decide) ?_
    refine sg_lald (pc := 434) (n := 1) C (by decide) rfl (by decide) (by decide) d_L_law_434 ?_
    refine sg_il (pc := 435) C d_L_law_435 rfl ?_
    refine sr_i2l (pc := 437) C d_L_law_437 (hans h0) ?_
    refine sg_lcmp (pc := 438) C d_L_law_438 ?_
    refine sg_ifeq (pc := 439) (tgt := 444) C d_L_law_439 (by decide) (by decide) (fun _ => ?_) (fun q => absurd rfl q)
    refine sg_goto (pc := 444) (tgt := 991) C d_L_law_444 (by decide) ?_
    exact sg_widen (by omega) (by omega) (kk _ _ X2 w1 CT2 LN2 h2)

set_option maxHeartbeats 4000000 in
set_option maxRecDepth 100000 in
theorem lb_object (C : sm_C Γ Ω code RL 7 w0) (I : sm_la Γ = l ∧ sm_rm Γ = sm_room 11 601024 7293033 ∧ True) (hl : l.stackTraces = false) (hNC : sm_NC (sm_s Γ)) (hX : va_X b0 N xs (sm_s Γ) (sm_s Γ).heap) (hb : b0 < (sm_s Γ).heap.size) (hA : ¬ Ω.2.1 ≤ b0) (hN : N ≤ 2048) (hc : 4 * c + 4 ≤ N) (hS0 : S0 < 1000000) (h : sim X X w CT LN c) (u5 u6 : Option Value)
    (kk : ∀ (v5 v6 : Option Value) X2 w2 CT2 LN2, sim X2 X2 w2 CT2 LN2 (c + 1) → sm_G Γ Ω 723 (724 + c) (S0 + 6 * c + 6) 991 [some (.ref b0), some (.ref (Ω.2.1 + 0)), some (.ref (Ω.2.1 + 703)), some (.ref (Ω.2.1 + 722)), some (.int (nI (4 * c))), v5, v6] [] X2 (sm_rf w2)) : sm_G Γ Ω 723 (723 + c) (S0 + 6 * c) 447 [some (.ref b0), some (.ref (Ω.2.1 + 0)), some (.ref (Ω.2.1 + 703)), some (.ref (Ω.2.1 + 722)), some (.int (nI (4 * c))), u5, u6] [] X (sm_rf w) := by
  obtain ⟨k, mc, ms, pw, hk, hmc, hms, hw, hn⟩ := st_object l hl Ω h (by omega) (xs (4 * c + 1)) (xs (4 * c + 2))
  refine sg_aln (pc := 447) C d_L_law_447 rfl ?_
  refine sg_aln (pc := 448) C d_L_law_448 rfl ?_
  refine sg_il (pc := 449) C d_L_law_449 rfl ?_
  refine sg_ic (pc := 451) (v := 1) C d_L_law_451 (by decide) ?_
  refine sg_add (pc := 452) C d_L_law_452 ?_
  refine sg_sld (pc := 453) C hX hb hA (by omega) (by omega) d_L_law_453 ?_
  refine sg_aln (pc := 454) C d_L_law_454 rfl ?_
  refine sg_il (pc := 455) C d_L_law_455 rfl ?_
  refine sg_ic (pc := 457) (v := 2) C d_L_law_457 (by decide) ?_
  refine sg_add (pc := 458) C d_L_law_458 ?_
  refine sg_sld (pc := 459) C hX hb hA (by omega) (by omega) d_L_law_459 ?_
  refine sg_aln (pc := 460) C d_L_law_460 rfl ?_
  refine sm_callW (pc := 461) (na := 4) (As := [.ref (Ω.2.1 + 0), .int (xs (4 * c + 1)), .int (xs (4 * c + 2)), .ref (Ω.2.1 + 722)]) C I hNC hw kw_L_object ki_L_object kl_L_100 ⟨by decide, by decide, by decide +kernel⟩ (by decide) sw_L_object rfl (by decide) ⟨by omega, by omega⟩ rfl (Nat.le_of_ble_eq_true rfl) d_L_law_461 (fun v X1 Y1 hv => ?_)
  obtain ⟨rfl, w1, rfl, pr, hR, hn2⟩ := hn v X1 Y1 hv
  refine sm_di ?_
  refine sg_is5 (pc := 464) C d_L_law_464 ?_
  refine sg_aln (pc := 466) C d_L_law_466 rfl ?_
  refine sg_aln (pc := 467) C d_L_law_467 rfl ?_
  refine sg_il (pc := 468) C d_L_law_468 rfl ?_
  refine sg_ic (pc := 470) (v := 1) C d_L_law_470 (by decide) ?_
  refine sg_add (pc := 471) C d_L_law_471 ?_
  refine sg_sld (pc := 472) C hX hb hA (by omega) (by omega) d_L_law_472 ?_
  refine sg_aln (pc := 473) C d_L_law_473 rfl ?_
  refine sg_il (pc := 474) C d_L_law_474 rfl ?_
  refine sg_ic (pc := 476) (v := 2) C d_L_law_476 (by decide) ?_
  refine sg_add (pc := 477) C d_L_law_477 ?_
  refine sg_sld (pc := 478) C hX hb hA (by omega) (by omega) d_L_law_478 ?_
  refine sm_callV (pc := 479) (As := [.int (xs (4 * c + 1)), .int (xs (4 * c + 2))]) C I hR cw_L_102 iw_R_object (C.1.2.2.2.2 _ (List.mem_cons_of_mem _ se_R_object)) (by decide) rfl rfl rfl rfl (by decide) ⟨by omega, by omega⟩ rfl (Nat.le_of_ble_eq_true rfl) d_L_law_479 (fun r X2 Y2 hr => ?_)
  obtain ⟨rfl, ht, ⟨CT2, LN2, h2⟩, hans⟩ := hn2 r X2 Y2 hr
  obtain ⟨y, rfl, hans⟩ := hans
  refine sm_di ?_
  refine sg_is6 (pc := 482) C d_L_law_482 ?_
  refine sg_aln (pc := 484) C d_L_law_484 rfl ?_
  refine sm_callV (pc := 485) (As := []) C I (c_R_thrown l Ω) cw_L_78 iw_R_thrown (C.1.2.2.2.2 _ (List.mem_cons_of_mem _ se_R_thrown)) (by decide) rfl rfl rfl rfl (by decide) ⟨by omega, by omega⟩ rfl (Nat.le_of_ble_eq_true rfl) d_L_law_485 (sm_det_i ?_)
  rw [ht]
  refine sg_il (pc := 488) C d_L_law_488 rfl ?_
  refine sg_iceq (pc := 490) (tgt := 495) C d_L_law_490 (by decide) (by omega) (by omega) (fun _ => ?_) (fun q => absurd rfl q)
  refine sg_il (pc := 495) C d_L_law_495 rfl ?_
  refine sg_ifne (pc := 497) (tgt := 512) C d_L_law_497 (by decide) (by omega) (fun h0 => ?_) (fun h0 => ?_)
  · refine sg_goto (pc := 512) (tgt := 991) C d_L_law_512 (by decide) ?_
    exact sg_widen (by omega) (by omega) (kk _ _ X2 w1 CT2 LN2 h2)
  · refine sg_aln (pc := 500) C d_L_law_500 rfl ?_
    refine sg_ic (pc := 501) (v := 0) C d_L_law_501 (by decide) ?_
    refine sg_lald (pc := 502) (n := 1) C (by decide) rfl (by decide) (by decide) d_L_law_502 ?_
    refine sg_il (pc := 503) C d_L_law_503 rfl ?_
    refine sr_i2l (pc := 505) C d_L_law_505 (hans h0) ?_
    refine sg_lcmp (pc := 506) C d_L_law_506 ?_
    refine sg_ifeq (pc := 507) (tgt := 512) C d_L_law_507 (by decide) (by decide) (fun _ => ?_) (fun q => absurd rfl q)
    refine sg_goto (pc := 512) (tgt := 991) C d_L_law_512 (by decide) ?_
    exact sg_widen (by omega) (by omega) (kk _ _ X2 w1 CT2 LN2 h2)

set_option maxHeartbeats 4000000 in
set_option maxRecDepth 100000 in
theorem lb_fail (C : sm_C Γ Ω code RL 7 w0) (I : sm_la Γ = l ∧ sm_rm Γ = sm_room 11 601024 7293033 ∧ True) (hl : l.stackTraces = false) (hNC : sm_NC (sm_s Γ)) (hX : va_X b0 N xs (sm_s Γ) (sm_s Γ).heap) (hb : b0 < (sm_s Γ).heap.size) (hA : ¬ Ω.2.1 ≤ b0) (hN : N ≤ 2048) (hc : 4 * c + 4 ≤ N) (hS0 : S0 < 1000000) (h : sim X X w CT LN c) (u5 u6 : Option Value)
    (kk : ∀ (v5 v6 : Option Value) X2 w2 CT2 LN2, sim X2 X2 w2 CT2 LN2 (c + 1) → sm_G Γ Ω 723 (724 + c) (S0 + 6 * c + 6) 991 [some (.ref b0), some (.ref (Ω.2.1 + 0)), some (.ref (Ω.2.1 + 703)), some (.ref (Ω.2.1 + 722)), some (.int (nI (4 * c))), v5, v6] [] X2 (sm_rf w2)) : sm_G Γ Ω 723 (723 + c) (S0 + 6 * c) 515 [some (.ref b0), some (.ref (Ω.2.1 + 0)), some (.ref (Ω.2.1 + 703)), some (.ref (Ω.2.1 + 722)), some (.int (nI (4 * c))), u5, u6] [] X (sm_rf w) := by
  obtain ⟨k, mc, ms, pw, hk, hmc, hms, hw, hn⟩ := st_fail l hl Ω h (by omega) (xs (4 * c + 1))
  refine sg_aln (pc := 515) C d_L_law_515 rfl ?_
  refine sg_aln (pc := 516) C d_L_law_516 rfl ?_
  refine sg_il (pc := 517) C d_L_law_517 rfl ?_
  refine sg_ic (pc := 519) (v := 1) C d_L_law_519 (by decide) ?_
  refine sg_add (pc := 520) C d_L_law_520 ?_
  refine sg_sld (pc := 521) C hX hb hA (by omega) (by omega) d_L_law_521 ?_
  refine sm_callW (pc := 522) (na := 2) (As := [.ref (Ω.2.1 + 0), .int (xs (4 * c + 1))]) C I hNC hw kw_L_fail ki_L_fail kl_L_103 ⟨by decide, by decide, by decide +kernel⟩ (by decide) sw_L_fail rfl (by decide) ⟨by omega, by omega⟩ rfl (Nat.le_of_ble_eq_true rfl) d_L_law_522 (fun v X1 Y1 hv => ?_)
  obtain ⟨rfl, w1, rfl, pr, hR, hn2⟩ := hn v X1 Y1 hv
  refine sm_di ?_
  refine sg_is5 (pc := 525) C d_L_law_525 ?_
  refine sg_aln (pc := 527) C d_L_law_527 rfl ?_
  refine sg_aln (pc := 528) C d_L_law_528 rfl ?_
  refine sg_il (pc := 529) C d_L_law_529 rfl ?_
  refine sg_ic (pc := 531) (v := 1) C d_L_law_531 (by decide) ?_
  refine sg_add (pc := 532) C d_L_law_532 ?_
  refine sg_sld (pc := 533) C hX hb hA (by omega) (by omega) d_L_law_533 ?_
  refine sm_callV (pc := 534) (As := [.int (xs (4 * c + 1))]) C I hR cw_L_105 iw_R_fail (C.1.2.2.2.2 _ (List.mem_cons_of_mem _ se_R_fail)) (by decide) rfl rfl rfl rfl (by decide) ⟨by omega, by omega⟩ rfl (Nat.le_of_ble_eq_true rfl) d_L_law_534 (fun r X2 Y2 hr => ?_)
  obtain ⟨rfl, ht, ⟨CT2, LN2, h2⟩, hans⟩ := hn2 r X2 Y2 hr
  obtain rfl : r = none := hans
  refine sm_dn ?_
  refine sg_aln (pc := 537) C d_L_law_537 rfl ?_
  refine sm_callV (pc := 538) (As := []) C I (c_R_thrown l Ω) cw_L_78 iw_R_thrown (C.1.2.2.2.2 _ (List.mem_cons_of_mem _ se_R_thrown)) (by decide) rfl rfl rfl rfl (by decide) ⟨by omega, by omega⟩ rfl (Nat.le_of_ble_eq_true rfl) d_L_law_538 (sm_det_i ?_)
  rw [ht]
  refine sg_il (pc := 541) C d_L_law_541 rfl ?_
  refine sg_iceq (pc := 543) (tgt := 548) C d_L_law_543 (by decide) (by omega) (by omega) (fun _ => ?_) (fun q => absurd rfl q)
  refine sg_goto (pc := 548) (tgt := 991) C d_L_law_548 (by decide) ?_
  exact sg_widen (by omega) (by omega) (kk _ _ X2 w1 CT2 LN2 h2)

set_option maxHeartbeats 4000000 in
set_option maxRecDepth 100000 in
theorem lb_back0 (C : sm_C Γ Ω code RL 7 w0) (I : sm_la Γ = l ∧ sm_rm Γ = sm_room 11 601024 7293033 ∧ True) (hl : l.stackTraces = false) (hNC : sm_NC (sm_s Γ)) (hX : va_X b0 N xs (sm_s Γ) (sm_s Γ).heap) (hb : b0 < (sm_s Γ).heap.size) (hA : ¬ Ω.2.1 ≤ b0) (hN : N ≤ 2048) (hc : 4 * c + 4 ≤ N) (hS0 : S0 < 1000000) (h : sim X X w CT LN c) (he : xs (4 * c + 2) = 0) (u5 u6 : Option Value)
    (kk : ∀ (v5 v6 : Option Value) X2 w2 CT2 LN2, sim X2 X2 w2 CT2 LN2 (c + 1) → sm_G Γ Ω 723 (724 + c) (S0 + 6 * c + 6) 991 [some (.ref b0), some (.ref (Ω.2.1 + 0)), some (.ref (Ω.2.1 + 703)), some (.ref (Ω.2.1 + 722)), some (.int (nI (4 * c))), v5, v6] [] X2 (sm_rf w2)) : sm_G Γ Ω 723 (723 + c) (S0 + 6 * c) 551 [some (.ref b0), some (.ref (Ω.2.1 + 0)), some (.ref (Ω.2.1 + 703)), some (.ref (Ω.2.1 + 722)), some (.int (nI (4 * c))), u5, u6] [] X (sm_rf w) := by
  obtain ⟨k, mc, ms, pw, hk, hmc, hms, hw, hn⟩ := st_back l hl Ω h (by omega) (xs (4 * c + 1)) (e := 0) (by decide)
  refine sg_aln (pc := 551) C d_L_law_551 rfl ?_
  refine sg_aln (pc := 552) C d_L_law_552 rfl ?_
  refine sg_il (pc := 553) C d_L_law_553 rfl ?_
  refine sg_ic (pc := 555) (v := 1) C d_L_law_555 (by decide) ?_
  refine sg_add (pc := 556) C d_L_law_556 ?_
  refine sg_sld (pc := 557) C hX hb hA (by omega) (by omega) d_L_law_557 ?_
  refine sg_aln (pc := 558) C d_L_law_558 rfl ?_
  refine sg_il (pc := 559) C d_L_law_559 rfl ?_
  refine sg_ic (pc := 561) (v := 2) C d_L_law_561 (by decide) ?_
  refine sg_add (pc := 562) C d_L_law_562 ?_
  refine sg_sld (pc := 563) C hX hb hA (by omega) (by omega) d_L_law_563 ?_
  refine sr_ifeq (pc := 564) (tgt := 571) C d_L_law_564 (by decide) (fun _ => ?_) (fun q => absurd he q)
  refine sg_ic (pc := 571) (v := 0) C d_L_law_571 (by decide) ?_
  refine sm_callW (pc := 572) (na := 3) (As := [.ref (Ω.2.1 + 0), .int (xs (4 * c + 1)), .int (nI 0)]) C I hNC hw kw_L_back ki_L_back kl_L_106 ⟨by decide, by decide, by decide +kernel⟩ (by decide) sw_L_back rfl (by decide) ⟨by omega, by omega⟩ rfl (Nat.le_of_ble_eq_true rfl) d_L_law_572 (fun v X1 Y1 hv => ?_)
  obtain ⟨rfl, w1, rfl, pr, hR, hn2⟩ := hn v X1 Y1 hv
  refine sm_di ?_
  refine sg_is5 (pc := 575) C d_L_law_575 ?_
  refine sg_aln (pc := 577) C d_L_law_577 rfl ?_
  refine sg_aln (pc := 578) C d_L_law_578 rfl ?_
  refine sg_il (pc := 579) C d_L_law_579 rfl ?_
  refine sg_ic (pc := 581) (v := 1) C d_L_law_581 (by decide) ?_
  refine sg_add (pc := 582) C d_L_law_582 ?_
  refine sg_sld (pc := 583) C hX hb hA (by omega) (by omega) d_L_law_583 ?_
  refine sg_aln (pc := 584) C d_L_law_584 rfl ?_
  refine sg_il (pc := 585) C d_L_law_585 rfl ?_
  refine sg_ic (pc := 587) (v := 2) C d_L_law_587 (by decide) ?_
  refine sg_add (pc := 588) C d_L_law_588 ?_
  refine sg_sld (pc := 589) C hX hb hA (by omega) (by omega) d_L_law_589 ?_
  refine sr_ifeq (pc := 590) (tgt := 597) C d_L_law_590 (by decide) (fun _ => ?_) (fun q => absurd he q)
  refine sg_ic (pc := 597) (v := 0) C d_L_law_597 (by decide) ?_
  refine sm_callV (pc := 598) (As := [.int (xs (4 * c + 1)), .int (nI 0)]) C I hR cw_L_109 iw_R_back (C.1.2.2.2.2 _ (List.mem_cons_of_mem _ se_R_back)) (by decide) rfl rfl rfl rfl (by decide) ⟨by omega, by omega⟩ rfl (Nat.le_of_ble_eq_true rfl) d_L_law_598 (fun r X2 Y2 hr => ?_)
  obtain ⟨rfl, ht, ⟨CT2, LN2, h2⟩, hans⟩ := hn2 r X2 Y2 hr
  obtain rfl : r = none := hans
  refine sm_dn ?_
  refine sg_aln (pc := 601) C d_L_law_601 rfl ?_
  refine sm_callV (pc := 602) (As := []) C I (c_R_thrown l Ω) cw_L_78 iw_R_thrown (C.1.2.2.2.2 _ (List.mem_cons_of_mem _ se_R_thrown)) (by decide) rfl rfl rfl rfl (by decide) ⟨by omega, by omega⟩ rfl (Nat.le_of_ble_eq_true rfl) d_L_law_602 (sm_det_i ?_)
  rw [ht]
  refine sg_il (pc := 605) C d_L_law_605 rfl ?_
  refine sg_iceq (pc := 607) (tgt := 612) C d_L_law_607 (by decide) (by omega) (by omega) (fun _ => ?_) (fun q => absurd rfl q)
  refine sg_goto (pc := 612) (tgt := 991) C d_L_law_612 (by decide) ?_
  exact sg_widen (by omega) (by omega) (kk _ _ X2 w1 CT2 LN2 h2)

set_option maxHeartbeats 4000000 in
set_option maxRecDepth 100000 in
theorem lb_back1 (C : sm_C Γ Ω code RL 7 w0) (I : sm_la Γ = l ∧ sm_rm Γ = sm_room 11 601024 7293033 ∧ True) (hl : l.stackTraces = false) (hNC : sm_NC (sm_s Γ)) (hX : va_X b0 N xs (sm_s Γ) (sm_s Γ).heap) (hb : b0 < (sm_s Γ).heap.size) (hA : ¬ Ω.2.1 ≤ b0) (hN : N ≤ 2048) (hc : 4 * c + 4 ≤ N) (hS0 : S0 < 1000000) (h : sim X X w CT LN c) (he : ¬ xs (4 * c + 2) = 0) (u5 u6 : Option Value)
    (kk : ∀ (v5 v6 : Option Value) X2 w2 CT2 LN2, sim X2 X2 w2 CT2 LN2 (c + 1) → sm_G Γ Ω 723 (724 + c) (S0 + 6 * c + 6) 991 [some (.ref b0), some (.ref (Ω.2.1 + 0)), some (.ref (Ω.2.1 + 703)), some (.ref (Ω.2.1 + 722)), some (.int (nI (4 * c))), v5, v6] [] X2 (sm_rf w2)) : sm_G Γ Ω 723 (723 + c) (S0 + 6 * c) 551 [some (.ref b0), some (.ref (Ω.2.1 + 0)), some (.ref (Ω.2.1 + 703)), some (.ref (Ω.2.1 + 722)), some (.int (nI (4 * c))), u5, u6] [] X (sm_rf w) := by
  obtain ⟨k, mc, ms, pw, hk, hmc, hms, hw, hn⟩ := st_back l hl Ω h (by omega) (xs (4 * c + 1)) (e := 1) (by decide)
  refine sg_aln (pc := 551) C d_L_law_551 rfl ?_
  refine sg_aln (pc := 552) C d_L_law_552 rfl ?_
  refine sg_il (pc := 553) C d_L_law_553 rfl ?_
  refine sg_ic (pc := 555) (v := 1) C d_L_law_555 (by decide) ?_
  refine sg_add (pc := 556) C d_L_law_556 ?_
  refine sg_sld (pc := 557) C hX hb hA (by omega) (by omega) d_L_law_557 ?_
  refine sg_aln (pc := 558) C d_L_law_558 rfl ?_
  refine sg_il (pc := 559) C d_L_law_559 rfl ?_
  refine sg_ic (pc := 561) (v := 2) C d_L_law_561 (by decide) ?_
  refine sg_add (pc := 562) C d_L_law_562 ?_
  refine sg_sld (pc := 563) C hX hb hA (by omega) (by omega) d_L_law_563 ?_
  refine sr_ifeq (pc := 564) (tgt := 571) C d_L_law_564 (by decide) (fun q => absurd q he) (fun _ => ?_)
  refine sg_ic (pc := 567) (v := 1) C d_L_law_567 (by decide) ?_
  refine sg_goto (pc := 568) (tgt := 572) C d_L_law_568 (by decide) ?_
  refine sm_callW (pc := 572) (na := 3) (As := [.ref (Ω.2.1 + 0), .int (xs (4 * c + 1)), .int (nI 1)]) C I hNC hw kw_L_back ki_L_back kl_L_106 ⟨by decide, by decide, by decide +kernel⟩ (by decide) sw_L_back rfl (by decide) ⟨by omega, by omega⟩ rfl (Nat.le_of_ble_eq_true rfl) d_L_law_572 (fun v X1 Y1 hv => ?_)
  obtain ⟨rfl, w1, rfl, pr, hR, hn2⟩ := hn v X1 Y1 hv
  refine sm_di ?_
  refine sg_is5 (pc := 575) C d_L_law_575 ?_
  refine sg_aln (pc := 577) C d_L_law_577 rfl ?_
  refine sg_aln (pc := 578) C d_L_law_578 rfl ?_
  refine sg_il (pc := 579) C d_L_law_579 rfl ?_
  refine sg_ic (pc := 581) (v := 1) C d_L_law_581 (by decide) ?_
  refine sg_add (pc := 582) C d_L_law_582 ?_
  refine sg_sld (pc := 583) C hX hb hA (by omega) (by omega) d_L_law_583 ?_
  refine sg_aln (pc := 584) C d_L_law_584 rfl ?_
  refine sg_il (pc := 585) C d_L_law_585 rfl ?_
  refine sg_ic (pc := 587) (v := 2) C d_L_law_587 (by decide) ?_
  refine sg_add (pc := 588) C d_L_law_588 ?_
  refine sg_sld (pc := 589) C hX hb hA (by omega) (by omega) d_L_law_589 ?_
  refine sr_ifeq (pc := 590) (tgt := 597) C d_L_law_590 (by decide) (fun q => absurd q he) (fun _ => ?_)
  refine sg_ic (pc := 593) (v := 1) C d_L_law_593 (by decide) ?_
  refine sg_goto (pc := 594) (tgt := 598) C d_L_law_594 (by decide) ?_
  refine sm_callV (pc := 598) (As := [.int (xs (4 * c + 1)), .int (nI 1)]) C I hR cw_L_109 iw_R_back (C.1.2.2.2.2 _ (List.mem_cons_of_mem _ se_R_back)) (by decide) rfl rfl rfl rfl (by decide) ⟨by omega, by omega⟩ rfl (Nat.le_of_ble_eq_true rfl) d_L_law_598 (fun r X2 Y2 hr => ?_)
  obtain ⟨rfl, ht, ⟨CT2, LN2, h2⟩, hans⟩ := hn2 r X2 Y2 hr
  obtain rfl : r = none := hans
  refine sm_dn ?_
  refine sg_aln (pc := 601) C d_L_law_601 rfl ?_
  refine sm_callV (pc := 602) (As := []) C I (c_R_thrown l Ω) cw_L_78 iw_R_thrown (C.1.2.2.2.2 _ (List.mem_cons_of_mem _ se_R_thrown)) (by decide) rfl rfl rfl rfl (by decide) ⟨by omega, by omega⟩ rfl (Nat.le_of_ble_eq_true rfl) d_L_law_602 (sm_det_i ?_)
  rw [ht]
  refine sg_il (pc := 605) C d_L_law_605 rfl ?_
  refine sg_iceq (pc := 607) (tgt := 612) C d_L_law_607 (by decide) (by omega) (by omega) (fun _ => ?_) (fun q => absurd rfl q)
  refine sg_goto (pc := 612) (tgt := 991) C d_L_law_612 (by decide) ?_
  exact sg_widen (by omega) (by omega) (kk _ _ X2 w1 CT2 LN2 h2)

set_option maxHeartbeats 4000000 in
set_option maxRecDepth 100000 in
theorem lb_rebuild (C : sm_C Γ Ω code RL 7 w0) (I : sm_la Γ = l ∧ sm_rm Γ = sm_room 11 601024 7293033 ∧ True) (hl : l.stackTraces = false) (hNC : sm_NC (sm_s Γ)) (hX : va_X b0 N xs (sm_s Γ) (sm_s Γ).heap) (hb : b0 < (sm_s Γ).heap.size) (hA : ¬ Ω.2.1 ≤ b0) (hN : N ≤ 2048) (hc : 4 * c + 4 ≤ N) (hS0 : S0 < 1000000) (h : sim X X w CT LN c) (u5 u6 : Option Value)
    (kk : ∀ (v5 v6 : Option Value) X2 w2 CT2 LN2, sim X2 X2 w2 CT2 LN2 (c + 1) → sm_G Γ Ω 723 (724 + c) (S0 + 6 * c + 6) 991 [some (.ref b0), some (.ref (Ω.2.1 + 0)), some (.ref (Ω.2.1 + 703)), some (.ref (Ω.2.1 + 722)), some (.int (nI (4 * c))), v5, v6] [] X2 (sm_rf w2)) : sm_G Γ Ω 723 (723 + c) (S0 + 6 * c) 615 [some (.ref b0), some (.ref (Ω.2.1 + 0)), some (.ref (Ω.2.1 + 703)), some (.ref (Ω.2.1 + 722)), some (.int (nI (4 * c))), u5, u6] [] X (sm_rf w) := by
  obtain ⟨k, mc, ms, pw, hk, hmc, hms, hw, hn⟩ := st_rebuild l hl Ω h (by omega) (xs (4 * c + 1)) (xs (4 * c + 2))
  refine sg_aln (pc := 615) C d_L_law_615 rfl ?_
  refine sg_aln (pc := 616) C d_L_law_616 rfl ?_
  refine sg_il (pc := 617) C d_L_law_617 rfl ?_
  refine sg_ic (pc := 619) (v := 1) C d_L_law_619 (by decide) ?_
  refine sg_add (pc := 620) C d_L_law_620 ?_
  refine sg_sld (pc := 621) C hX hb hA (by omega) (by omega) d_L_law_621 ?_
  refine sg_aln (pc := 622) C d_L_law_622 rfl ?_
  refine sg_il (pc := 623) C d_L_law_623 rfl ?_
  refine sg_ic (pc := 625) (v := 2) C d_L_law_625 (by decide) ?_
  refine sg_add (pc := 626) C d_L_law_626 ?_
  refine sg_sld (pc := 627) C hX hb hA (by omega) (by omega) d_L_law_627 ?_
  refine sg_aln (pc := 628) C d_L_law_628 rfl ?_
  refine sm_callW (pc := 629) (na := 4) (As := [.ref (Ω.2.1 + 0), .int (xs (4 * c + 1)), .int (xs (4 * c + 2)), .ref (Ω.2.1 + 722)]) C I hNC hw kw_L_rebuild ki_L_rebuild kl_L_110 ⟨by decide, by decide, by decide +kernel⟩ (by decide) sw_L_rebuild rfl (by decide) ⟨by omega, by omega⟩ rfl (Nat.le_of_ble_eq_true rfl) d_L_law_629 (fun v X1 Y1 hv => ?_)
  obtain ⟨rfl, w1, rfl, pr, hR, hn2⟩ := hn v X1 Y1 hv
  refine sm_di ?_
  refine sg_is5 (pc := 632) C d_L_law_632 ?_
  refine sg_aln (pc := 634) C d_L_law_634 rfl ?_
  refine sg_aln (pc := 635) C d_L_law_635 rfl ?_
  refine sg_il (pc := 636) C d_L_law_636 rfl ?_
  refine sg_ic (pc := 638) (v := 1) C d_L_law_638 (by decide) ?_
  refine sg_add (pc := 639) C d_L_law_639 ?_
  refine sg_sld (pc := 640) C hX hb hA (by omega) (by omega) d_L_law_640 ?_
  refine sg_aln (pc := 641) C d_L_law_641 rfl ?_
  refine sg_il (pc := 642) C d_L_law_642 rfl ?_
  refine sg_ic (pc := 644) (v := 2) C d_L_law_644 (by decide) ?_
  refine sg_add (pc := 645) C d_L_law_645 ?_
  refine sg_sld (pc := 646) C hX hb hA (by omega) (by omega) d_L_law_646 ?_
  refine sm_callV (pc := 647) (As := [.int (xs (4 * c + 1)), .int (xs (4 * c + 2))]) C I hR cw_L_112 iw_R_rebuild (C.1.2.2.2.2 _ (List.mem_cons_of_mem _ se_R_rebuild)) (by decide) rfl rfl rfl rfl (by decide) ⟨by omega, by omega⟩ rfl (Nat.le_of_ble_eq_true rfl) d_L_law_647 (fun r X2 Y2 hr => ?_)
  obtain ⟨rfl, ht, ⟨CT2, LN2, h2⟩, hans⟩ := hn2 r X2 Y2 hr
  obtain ⟨y, rfl, hans⟩ := hans
  refine sm_di ?_
  refine sg_is6 (pc := 650) C d_L_law_650 ?_
  refine sg_aln (pc := 652) C d_L_law_652 rfl ?_
  refine sm_callV (pc := 653) (As := []) C I (c_R_thrown l Ω) cw_L_78 iw_R_thrown (C.1.2.2.2.2 _ (List.mem_cons_of_mem _ se_R_thrown)) (by decide) rfl rfl rfl rfl (by decide) ⟨by omega, by omega⟩ rfl (Nat.le_of_ble_eq_true rfl) d_L_law_653 (sm_det_i ?_)
  rw [ht]
  refine sg_il (pc := 656) C d_L_law_656 rfl ?_
  refine sg_iceq (pc := 658) (tgt := 663) C d_L_law_658 (by decide) (by omega) (by omega) (fun _ => ?_) (fun q => absurd rfl q)
  refine sg_il (pc := 663) C d_L_law_663 rfl ?_
  refine sg_ifne (pc := 665) (tgt := 680) C d_L_law_665 (by decide) (by omega) (fun h0 => ?_) (fun h0 => ?_)
  · refine sg_goto (pc := 680) (tgt := 991) C d_L_law_680 (by decide) ?_
    exact sg_widen (by omega) (by omega) (kk _ _ X2 w1 CT2 LN2 h2)
  · refine sg_aln (pc := 668) C d_L_law_668 rfl ?_
    refine sg_ic (pc := 669) (v := 0) C d_L_law_669 (by decide) ?_
    refine sg_lald (pc := 670) (n := 1) C (by decide) rfl (by decide) (by decide) d_L_law_670 ?_
    refine sg_il (pc := 671) C d_L_law_671 rfl ?_
    refine sr_i2l (pc := 673) C d_L_law_673 (hans h0) ?_
    refine sg_lcmp (pc := 674) C d_L_law_674 ?_
    refine sg_ifeq (pc := 675) (tgt := 680) C d_L_law_675 (by decide) (by decide) (fun _ => ?_) (fun q => absurd rfl q)
    refine sg_goto (pc := 680) (tgt := 991) C d_L_law_680 (by decide) ?_
    exact sg_widen (by omega) (by omega) (kk _ _ X2 w1 CT2 LN2 h2)

set_option maxHeartbeats 4000000 in
set_option maxRecDepth 100000 in
theorem lb_node (C : sm_C Γ Ω code RL 7 w0) (I : sm_la Γ = l ∧ sm_rm Γ = sm_room 11 601024 7293033 ∧ True) (hl : l.stackTraces = false) (hNC : sm_NC (sm_s Γ)) (hX : va_X b0 N xs (sm_s Γ) (sm_s Γ).heap) (hb : b0 < (sm_s Γ).heap.size) (hA : ¬ Ω.2.1 ≤ b0) (hN : N ≤ 2048) (hc : 4 * c + 4 ≤ N) (hS0 : S0 < 1000000) (h : sim X X w CT LN c) (u5 u6 : Option Value)
    (kk : ∀ (v5 v6 : Option Value) X2 w2 CT2 LN2, sim X2 X2 w2 CT2 LN2 (c + 1) → sm_G Γ Ω 723 (724 + c) (S0 + 6 * c + 6) 991 [some (.ref b0), some (.ref (Ω.2.1 + 0)), some (.ref (Ω.2.1 + 703)), some (.ref (Ω.2.1 + 722)), some (.int (nI (4 * c))), v5, v6] [] X2 (sm_rf w2)) : sm_G Γ Ω 723 (723 + c) (S0 + 6 * c) 683 [some (.ref b0), some (.ref (Ω.2.1 + 0)), some (.ref (Ω.2.1 + 703)), some (.ref (Ω.2.1 + 722)), some (.int (nI (4 * c))), u5, u6] [] X (sm_rf w) := by
  obtain ⟨k, mc, ms, pw, hk, hmc, hms, hw, hn⟩ := st_node l hl Ω h (by omega) (xs (4 * c + 1)) (xs (4 * c + 2))
  refine sg_aln (pc := 683) C d_L_law_683 rfl ?_
  refine sg_aln (pc := 684) C d_L_law_684 rfl ?_
  refine sg_il (pc := 685) C d_L_law_685 rfl ?_
  refine sg_ic (pc := 687) (v := 1) C d_L_law_687 (by decide) ?_
  refine sg_add (pc := 688) C d_L_law_688 ?_
  refine sg_sld (pc := 689) C hX hb hA (by omega) (by omega) d_L_law_689 ?_
  refine sg_aln (pc := 690) C d_L_law_690 rfl ?_
  refine sg_il (pc := 691) C d_L_law_691 rfl ?_
  refine sg_ic (pc := 693) (v := 2) C d_L_law_693 (by decide) ?_
  refine sg_add (pc := 694) C d_L_law_694 ?_
  refine sg_sld (pc := 695) C hX hb hA (by omega) (by omega) d_L_law_695 ?_
  refine sg_aln (pc := 696) C d_L_law_696 rfl ?_
  refine sm_callW (pc := 697) (na := 4) (As := [.ref (Ω.2.1 + 0), .int (xs (4 * c + 1)), .int (xs (4 * c + 2)), .ref (Ω.2.1 + 722)]) C I hNC hw kw_L_node ki_L_node kl_L_113 ⟨by decide, by decide, by decide +kernel⟩ (by decide) sw_L_node rfl (by decide) ⟨by omega, by omega⟩ rfl (Nat.le_of_ble_eq_true rfl) d_L_law_697 (fun v X1 Y1 hv => ?_)
  obtain ⟨rfl, w1, rfl, pr, hR, hn2⟩ := hn v X1 Y1 hv
  refine sm_di ?_
  refine sg_is5 (pc := 700) C d_L_law_700 ?_
  refine sg_aln (pc := 702) C d_L_law_702 rfl ?_
  refine sg_aln (pc := 703) C d_L_law_703 rfl ?_
  refine sg_il (pc := 704) C d_L_law_704 rfl ?_
  refine sg_ic (pc := 706) (v := 1) C d_L_law_706 (by decide) ?_
  refine sg_add (pc := 707) C d_L_law_707 ?_
  refine sg_sld (pc := 708) C hX hb hA (by omega) (by omega) d_L_law_708 ?_
  refine sg_aln (pc := 709) C d_L_law_709 rfl ?_
  refine sg_il (pc := 710) C d_L_law_710 rfl ?_
  refine sg_ic (pc := 712) (v := 2) C d_L_law_712 (by decide) ?_
  refine sg_add (pc := 713) C d_L_law_713 ?_
  refine sg_sld (pc := 714) C hX hb hA (by omega) (by omega) d_L_law_714 ?_
  refine sm_callV (pc := 715) (As := [.int (xs (4 * c + 1)), .int (xs (4 * c + 2))]) C I hR cw_L_115 iw_R_node (C.1.2.2.2.2 _ (List.mem_cons_of_mem _ se_R_node)) (by decide) rfl rfl rfl rfl (by decide) ⟨by omega, by omega⟩ rfl (Nat.le_of_ble_eq_true rfl) d_L_law_715 (fun r X2 Y2 hr => ?_)
  obtain ⟨rfl, ht, ⟨CT2, LN2, h2⟩, hans⟩ := hn2 r X2 Y2 hr
  obtain ⟨y, rfl, hans⟩ := hans
  refine sm_di ?_
  refine sg_is6 (pc := 718) C d_L_law_718 ?_
  refine sg_aln (pc := 720) C d_L_law_720 rfl ?_
  refine sm_callV (pc := 721) (As := []) C I (c_R_thrown l Ω) cw_L_78 iw_R_thrown (C.1.2.2.2.2 _ (List.mem_cons_of_mem _ se_R_thrown)) (by decide) rfl rfl rfl rfl (by decide) ⟨by omega, by omega⟩ rfl (Nat.le_of_ble_eq_true rfl) d_L_law_721 (sm_det_i ?_)
  rw [ht]
  refine sg_il (pc := 724) C d_L_law_724 rfl ?_
  refine sg_iceq (pc := 726) (tgt := 731) C d_L_law_726 (by decide) (by omega) (by omega) (fun _ => ?_) (fun q => absurd rfl q)
  refine sg_il (pc := 731) C d_L_law_731 rfl ?_
  refine sg_ifne (pc := 733) (tgt := 748) C d_L_law_733 (by decide) (by omega) (fun h0 => ?_) (fun h0 => ?_)
  · refine sg_goto (pc := 748) (tgt := 991) C d_L_law_748 (by decide) ?_
    exact sg_widen (by omega) (by omega) (kk _ _ X2 w1 CT2 LN2 h2)
  · refine sg_aln (pc := 736) C d_L_law_736 rfl ?_
    refine sg_ic (pc := 737) (v := 0) C d_L_law_737 (by decide) ?_
    refine sg_lald (pc := 738) (n := 1) C (by decide) rfl (by decide) (by decide) d_L_law_738 ?_
    refine sg_il (pc := 739) C d_L_law_739 rfl ?_
    refine sr_i2l (pc := 741) C d_L_law_741 (hans h0) ?_
    refine sg_lcmp (pc := 742) C d_L_law_742 ?_
    refine sg_ifeq (pc := 743) (tgt := 748) C d_L_law_743 (by decide) (by decide) (fun _ => ?_) (fun q => absurd rfl q)
    refine sg_goto (pc := 748) (tgt := 991) C d_L_law_748 (by decide) ?_
    exact sg_widen (by omega) (by omega) (kk _ _ X2 w1 CT2 LN2 h2)

set_option maxHeartbeats 4000000 in
set_option maxRecDepth 100000 in
theorem lb_share (C : sm_C Γ Ω code RL 7 w0) (I : sm_la Γ = l ∧ sm_rm Γ = sm_room 11 601024 7293033 ∧ True) (hl : l.stackTraces = false) (hNC : sm_NC (sm_s Γ)) (hX : va_X b0 N xs (sm_s Γ) (sm_s Γ).heap) (hb : b0 < (sm_s Γ).heap.size) (hA : ¬ Ω.2.1 ≤ b0) (hN : N ≤ 2048) (hc : 4 * c + 4 ≤ N) (hS0 : S0 < 1000000) (h : sim X X w CT LN c) (u5 u6 : Option Value)
    (kk : ∀ (v5 v6 : Option Value) X2 w2 CT2 LN2, sim X2 X2 w2 CT2 LN2 (c + 1) → sm_G Γ Ω 723 (724 + c) (S0 + 6 * c + 6) 991 [some (.ref b0), some (.ref (Ω.2.1 + 0)), some (.ref (Ω.2.1 + 703)), some (.ref (Ω.2.1 + 722)), some (.int (nI (4 * c))), v5, v6] [] X2 (sm_rf w2)) : sm_G Γ Ω 723 (723 + c) (S0 + 6 * c) 751 [some (.ref b0), some (.ref (Ω.2.1 + 0)), some (.ref (Ω.2.1 + 703)), some (.ref (Ω.2.1 + 722)), some (.int (nI (4 * c))), u5, u6] [] X (sm_rf w) := by
  obtain ⟨k, mc, ms, pw, hk, hmc, hms, hw, hn⟩ := st_share l hl Ω h (by omega) (xs (4 * c + 1)) (xs (4 * c + 2)) (xs (4 * c + 3))
  refine sg_aln (pc := 751) C d_L_law_751 rfl ?_
  refine sg_aln (pc := 752) C d_L_law_752 rfl ?_
  refine sg_il (pc := 753) C d_L_law_753 rfl ?_
  refine sg_ic (pc := 755) (v := 1) C d_L_law_755 (by decide) ?_
  refine sg_add (pc := 756) C d_L_law_756 ?_
  refine sg_sld (pc := 757) C hX hb hA (by omega) (by omega) d_L_law_757 ?_
  refine sg_aln (pc := 758) C d_L_law_758 rfl ?_
  refine sg_il (pc := 759) C d_L_law_759 rfl ?_
  refine sg_ic (pc := 761) (v := 2) C d_L_law_761 (by decide) ?_
  refine sg_add (pc := 762) C d_L_law_762 ?_
  refine sg_sld (pc := 763) C hX hb hA (by omega) (by omega) d_L_law_763 ?_
  refine sg_aln (pc := 764) C d_L_law_764 rfl ?_
  refine sg_il (pc := 765) C d_L_law_765 rfl ?_
  refine sg_ic (pc := 767) (v := 3) C d_L_law_767 (by decide) ?_
  refine sg_add (pc := 768) C d_L_law_768 ?_
  refine sg_sld (pc := 769) C hX hb hA (by omega) (by omega) d_L_law_769 ?_
  refine sg_aln (pc := 770) C d_L_law_770 rfl ?_
  refine sm_callW (pc := 771) (na := 5) (As := [.ref (Ω.2.1 + 0), .int (xs (4 * c + 1)), .int (xs (4 * c + 2)), .int (xs (4 * c + 3)), .ref (Ω.2.1 + 722)]) C I hNC hw kw_L_share ki_L_share kl_L_116 ⟨by decide, by decide, by decide +kernel⟩ (by decide) sw_L_share rfl (by decide) ⟨by omega, by omega⟩ rfl (Nat.le_of_ble_eq_true rfl) d_L_law_771 (fun v X1 Y1 hv => ?_)
  obtain ⟨rfl, w1, rfl, pr, hR, hn2⟩ := hn v X1 Y1 hv
  refine sm_di ?_
  refine sg_is5 (pc := 774) C d_L_law_774 ?_
  refine sg_aln (pc := 776) C d_L_law_776 rfl ?_
  refine sg_aln (pc := 777) C d_L_law_777 rfl ?_
  refine sg_il (pc := 778) C d_L_law_778 rfl ?_
  refine sg_ic (pc := 780) (v := 1) C d_L_law_780 (by decide) ?_
  refine sg_add (pc := 781) C d_L_law_781 ?_
  refine sg_sld (pc := 782) C hX hb hA (by omega) (by omega) d_L_law_782 ?_
  refine sg_aln (pc := 783) C d_L_law_783 rfl ?_
  refine sg_il (pc := 784) C d_L_law_784 rfl ?_
  refine sg_ic (pc := 786) (v := 2) C d_L_law_786 (by decide) ?_
  refine sg_add (pc := 787) C d_L_law_787 ?_
  refine sg_sld (pc := 788) C hX hb hA (by omega) (by omega) d_L_law_788 ?_
  refine sg_aln (pc := 789) C d_L_law_789 rfl ?_
  refine sg_il (pc := 790) C d_L_law_790 rfl ?_
  refine sg_ic (pc := 792) (v := 3) C d_L_law_792 (by decide) ?_
  refine sg_add (pc := 793) C d_L_law_793 ?_
  refine sg_sld (pc := 794) C hX hb hA (by omega) (by omega) d_L_law_794 ?_
  refine sm_callV (pc := 795) (As := [.int (xs (4 * c + 1)), .int (xs (4 * c + 2)), .int (xs (4 * c + 3))]) C I hR cw_L_119 iw_R_share (C.1.2.2.2.2 _ (List.mem_cons_of_mem _ se_R_share)) (by decide) rfl rfl rfl rfl (by decide) ⟨by omega, by omega⟩ rfl (Nat.le_of_ble_eq_true rfl) d_L_law_795 (fun r X2 Y2 hr => ?_)
  obtain ⟨rfl, ht, ⟨CT2, LN2, h2⟩, hans⟩ := hn2 r X2 Y2 hr
  obtain ⟨y, rfl, hans⟩ := hans
  refine sm_di ?_
  refine sg_is6 (pc := 798) C d_L_law_798 ?_
  refine sg_aln (pc := 800) C d_L_law_800 rfl ?_
  refine sm_callV (pc := 801) (As := []) C I (c_R_thrown l Ω) cw_L_78 iw_R_thrown (C.1.2.2.2.2 _ (List.mem_cons_of_mem _ se_R_thrown)) (by decide) rfl rfl rfl rfl (by decide) ⟨by omega, by omega⟩ rfl (Nat.le_of_ble_eq_true rfl) d_L_law_801 (sm_det_i ?_)
  rw [ht]
  refine sg_il (pc := 804) C d_L_law_804 rfl ?_
  refine sg_iceq (pc := 806) (tgt := 811) C d_L_law_806 (by decide) (by omega) (by omega) (fun _ => ?_) (fun q => absurd rfl q)
  refine sg_il (pc := 811) C d_L_law_811 rfl ?_
  refine sg_ifne (pc := 813) (tgt := 828) C d_L_law_813 (by decide) (by omega) (fun h0 => ?_) (fun h0 => ?_)
  · refine sg_goto (pc := 828) (tgt := 991) C d_L_law_828 (by decide) ?_
    exact sg_widen (by omega) (by omega) (kk _ _ X2 w1 CT2 LN2 h2)
  · refine sg_aln (pc := 816) C d_L_law_816 rfl ?_
    refine sg_ic (pc := 817) (v := 0) C d_L_law_817 (by decide) ?_
    refine sg_lald (pc := 818) (n := 1) C (by decide) rfl (by decide) (by decide) d_L_law_818 ?_
    refine sg_il (pc := 819) C d_L_law_819 rfl ?_
    refine sr_i2l (pc := 821) C d_L_law_821 (hans h0) ?_
    refine sg_lcmp (pc := 822) C d_L_law_822 ?_
    refine sg_ifeq (pc := 823) (tgt := 828) C d_L_law_823 (by decide) (by decide) (fun _ => ?_) (fun q => absurd rfl q)
    refine sg_goto (pc := 828) (tgt := 991) C d_L_law_828 (by decide) ?_
    exact sg_widen (by omega) (by omega) (kk _ _ X2 w1 CT2 LN2 h2)

set_option maxHeartbeats 4000000 in
set_option maxRecDepth 100000 in
theorem lb_byteAt (C : sm_C Γ Ω code RL 7 w0) (I : sm_la Γ = l ∧ sm_rm Γ = sm_room 11 601024 7293033 ∧ True) (hl : l.stackTraces = false) (hNC : sm_NC (sm_s Γ)) (hX : va_X b0 N xs (sm_s Γ) (sm_s Γ).heap) (hb : b0 < (sm_s Γ).heap.size) (hA : ¬ Ω.2.1 ≤ b0) (hN : N ≤ 2048) (hc : 4 * c + 4 ≤ N) (hS0 : S0 < 1000000) (h : sim X X w CT LN c) (u5 u6 : Option Value)
    (kk : ∀ (v5 v6 : Option Value) X2 w2 CT2 LN2, sim X2 X2 w2 CT2 LN2 (c + 1) → sm_G Γ Ω 723 (724 + c) (S0 + 6 * c + 6) 991 [some (.ref b0), some (.ref (Ω.2.1 + 0)), some (.ref (Ω.2.1 + 703)), some (.ref (Ω.2.1 + 722)), some (.int (nI (4 * c))), v5, v6] [] X2 (sm_rf w2)) : sm_G Γ Ω 723 (723 + c) (S0 + 6 * c) 831 [some (.ref b0), some (.ref (Ω.2.1 + 0)), some (.ref (Ω.2.1 + 703)), some (.ref (Ω.2.1 + 722)), some (.int (nI (4 * c))), u5, u6] [] X (sm_rf w) := by
  obtain ⟨k, mc, ms, pw, hk, hmc, hms, hw, hn⟩ := st_byteAt l hl Ω h (by omega) (xs (4 * c + 1)) (xs (4 * c + 2)) (xs (4 * c + 3))
  refine sg_aln (pc := 831) C d_L_law_831 rfl ?_
  refine sg_aln (pc := 832) C d_L_law_832 rfl ?_
  refine sg_il (pc := 833) C d_L_law_833 rfl ?_
  refine sg_ic (pc := 835) (v := 1) C d_L_law_835 (by decide) ?_
  refine sg_add (pc := 836) C d_L_law_836 ?_
  refine sg_sld (pc := 837) C hX hb hA (by omega) (by omega) d_L_law_837 ?_
  refine sg_aln (pc := 838) C d_L_law_838 rfl ?_
  refine sg_il (pc := 839) C d_L_law_839 rfl ?_
  refine sg_ic (pc := 841) (v := 2) C d_L_law_841 (by decide) ?_
  refine sg_add (pc := 842) C d_L_law_842 ?_
  refine sg_sld (pc := 843) C hX hb hA (by omega) (by omega) d_L_law_843 ?_
  refine sg_aln (pc := 844) C d_L_law_844 rfl ?_
  refine sg_il (pc := 845) C d_L_law_845 rfl ?_
  refine sg_ic (pc := 847) (v := 3) C d_L_law_847 (by decide) ?_
  refine sg_add (pc := 848) C d_L_law_848 ?_
  refine sg_sld (pc := 849) C hX hb hA (by omega) (by omega) d_L_law_849 ?_
  refine sg_aln (pc := 850) C d_L_law_850 rfl ?_
  refine sm_callW (pc := 851) (na := 5) (As := [.ref (Ω.2.1 + 0), .int (xs (4 * c + 1)), .int (xs (4 * c + 2)), .int (xs (4 * c + 3)), .ref (Ω.2.1 + 722)]) C I hNC hw kw_L_byteAt ki_L_byteAt kl_L_120 ⟨by decide, by decide, by decide +kernel⟩ (by decide) sw_L_byteAt rfl (by decide) ⟨by omega, by omega⟩ rfl (Nat.le_of_ble_eq_true rfl) d_L_law_851 (fun v X1 Y1 hv => ?_)
  obtain ⟨rfl, w1, rfl, pr, hR, hn2⟩ := hn v X1 Y1 hv
  refine sm_di ?_
  refine sg_is5 (pc := 854) C d_L_law_854 ?_
  refine sg_aln (pc := 856) C d_L_law_856 rfl ?_
  refine sg_aln (pc := 857) C d_L_law_857 rfl ?_
  refine sg_il (pc := 858) C d_L_law_858 rfl ?_
  refine sg_ic (pc := 860) (v := 1) C d_L_law_860 (by decide) ?_
  refine sg_add (pc := 861) C d_L_law_861 ?_
  refine sg_sld (pc := 862) C hX hb hA (by omega) (by omega) d_L_law_862 ?_
  refine sg_aln (pc := 863) C d_L_law_863 rfl ?_
  refine sg_il (pc := 864) C d_L_law_864 rfl ?_
  refine sg_ic (pc := 866) (v := 2) C d_L_law_866 (by decide) ?_
  refine sg_add (pc := 867) C d_L_law_867 ?_
  refine sg_sld (pc := 868) C hX hb hA (by omega) (by omega) d_L_law_868 ?_
  refine sg_aln (pc := 869) C d_L_law_869 rfl ?_
  refine sg_il (pc := 870) C d_L_law_870 rfl ?_
  refine sg_ic (pc := 872) (v := 3) C d_L_law_872 (by decide) ?_
  refine sg_add (pc := 873) C d_L_law_873 ?_
  refine sg_sld (pc := 874) C hX hb hA (by omega) (by omega) d_L_law_874 ?_
  refine sm_callV (pc := 875) (As := [.int (xs (4 * c + 1)), .int (xs (4 * c + 2)), .int (xs (4 * c + 3))]) C I hR cw_L_122 iw_R_byteAt (C.1.2.2.2.2 _ (List.mem_cons_of_mem _ se_R_byteAt)) (by decide) rfl rfl rfl rfl (by decide) ⟨by omega, by omega⟩ rfl (Nat.le_of_ble_eq_true rfl) d_L_law_875 (fun r X2 Y2 hr => ?_)
  obtain ⟨rfl, ht, ⟨CT2, LN2, h2⟩, hans⟩ := hn2 r X2 Y2 hr
  obtain ⟨y, rfl, hans⟩ := hans
  refine sm_di ?_
  refine sg_is6 (pc := 878) C d_L_law_878 ?_
  refine sg_aln (pc := 880) C d_L_law_880 rfl ?_
  refine sm_callV (pc := 881) (As := []) C I (c_R_thrown l Ω) cw_L_78 iw_R_thrown (C.1.2.2.2.2 _ (List.mem_cons_of_mem _ se_R_thrown)) (by decide) rfl rfl rfl rfl (by decide) ⟨by omega, by omega⟩ rfl (Nat.le_of_ble_eq_true rfl) d_L_law_881 (sm_det_i ?_)
  rw [ht]
  refine sg_il (pc := 884) C d_L_law_884 rfl ?_
  refine sg_iceq (pc := 886) (tgt := 891) C d_L_law_886 (by decide) (by omega) (by omega) (fun _ => ?_) (fun q => absurd rfl q)
  refine sg_il (pc := 891) C d_L_law_891 rfl ?_
  refine sg_ifne (pc := 893) (tgt := 908) C d_L_law_893 (by decide) (by omega) (fun h0 => ?_) (fun h0 => ?_)
  · refine sg_goto (pc := 908) (tgt := 991) C d_L_law_908 (by decide) ?_
    exact sg_widen (by omega) (by omega) (kk _ _ X2 w1 CT2 LN2 h2)
  · refine sg_aln (pc := 896) C d_L_law_896 rfl ?_
    refine sg_ic (pc := 897) (v := 0) C d_L_law_897 (by decide) ?_
    refine sg_lald (pc := 898) (n := 1) C (by decide) rfl (by decide) (by decide) d_L_law_898 ?_
    refine sg_il (pc := 899) C d_L_law_899 rfl ?_
    refine sr_i2l (pc := 901) C d_L_law_901 (hans h0) ?_
    refine sg_lcmp (pc := 902) C d_L_law_902 ?_
    refine sg_ifeq (pc := 903) (tgt := 908) C d_L_law_903 (by decide) (by decide) (fun _ => ?_) (fun q => absurd rfl q)
    refine sg_goto (pc := 908) (tgt := 991) C d_L_law_908 (by decide) ?_
    exact sg_widen (by omega) (by omega) (kk _ _ X2 w1 CT2 LN2 h2)

set_option maxHeartbeats 4000000 in
set_option maxRecDepth 100000 in
theorem lb_field (C : sm_C Γ Ω code RL 7 w0) (I : sm_la Γ = l ∧ sm_rm Γ = sm_room 11 601024 7293033 ∧ True) (hl : l.stackTraces = false) (hNC : sm_NC (sm_s Γ)) (hX : va_X b0 N xs (sm_s Γ) (sm_s Γ).heap) (hb : b0 < (sm_s Γ).heap.size) (hA : ¬ Ω.2.1 ≤ b0) (hN : N ≤ 2048) (hc : 4 * c + 4 ≤ N) (hS0 : S0 < 1000000) (h : sim X X w CT LN c) (u5 u6 : Option Value)
    (kk : ∀ (v5 v6 : Option Value) X2 w2 CT2 LN2, sim X2 X2 w2 CT2 LN2 (c + 1) → sm_G Γ Ω 723 (724 + c) (S0 + 6 * c + 6) 991 [some (.ref b0), some (.ref (Ω.2.1 + 0)), some (.ref (Ω.2.1 + 703)), some (.ref (Ω.2.1 + 722)), some (.int (nI (4 * c))), v5, v6] [] X2 (sm_rf w2)) : sm_G Γ Ω 723 (723 + c) (S0 + 6 * c) 911 [some (.ref b0), some (.ref (Ω.2.1 + 0)), some (.ref (Ω.2.1 + 703)), some (.ref (Ω.2.1 + 722)), some (.int (nI (4 * c))), u5, u6] [] X (sm_rf w) := by
  obtain ⟨k, mc, ms, pw, hk, hmc, hms, hw, hn⟩ := st_field l hl Ω h (by omega) (xs (4 * c + 1)) (xs (4 * c + 2)) (xs (4 * c + 3))
  refine sg_aln (pc := 911) C d_L_law_911 rfl ?_
  refine sg_aln (pc := 912) C d_L_law_912 rfl ?_
  refine sg_il (pc := 913) C d_L_law_913 rfl ?_
  refine sg_ic (pc := 915) (v := 1) C d_L_law_915 (by decide) ?_
  refine sg_add (pc := 916) C d_L_law_916 ?_
  refine sg_sld (pc := 917) C hX hb hA (by omega) (by omega) d_L_law_917 ?_
  refine sg_aln (pc := 918) C d_L_law_918 rfl ?_
  refine sg_il (pc := 919) C d_L_law_919 rfl ?_
  refine sg_ic (pc := 921) (v := 2) C d_L_law_921 (by decide) ?_
  refine sg_add (pc := 922) C d_L_law_922 ?_
  refine sg_sld (pc := 923) C hX hb hA (by omega) (by omega) d_L_law_923 ?_
  refine sg_aln (pc := 924) C d_L_law_924 rfl ?_
  refine sg_il (pc := 925) C d_L_law_925 rfl ?_
  refine sg_ic (pc := 927) (v := 3) C d_L_law_927 (by decide) ?_
  refine sg_add (pc := 928) C d_L_law_928 ?_
  refine sg_sld (pc := 929) C hX hb hA (by omega) (by omega) d_L_law_929 ?_
  refine sg_aln (pc := 930) C d_L_law_930 rfl ?_
  refine sm_callW (pc := 931) (na := 5) (As := [.ref (Ω.2.1 + 0), .int (xs (4 * c + 1)), .int (xs (4 * c + 2)), .int (xs (4 * c + 3)), .ref (Ω.2.1 + 722)]) C I hNC hw kw_L_field ki_L_field kl_L_123 ⟨by decide, by decide, by decide +kernel⟩ (by decide) sw_L_field rfl (by decide) ⟨by omega, by omega⟩ rfl (Nat.le_of_ble_eq_true rfl) d_L_law_931 (fun v X1 Y1 hv => ?_)
  obtain ⟨rfl, w1, rfl, pr, hR, hn2⟩ := hn v X1 Y1 hv
  refine sm_di ?_
  refine sg_is5 (pc := 934) C d_L_law_934 ?_
  refine sg_aln (pc := 936) C d_L_law_936 rfl ?_
  refine sg_aln (pc := 937) C d_L_law_937 rfl ?_
  refine sg_il (pc := 938) C d_L_law_938 rfl ?_
  refine sg_ic (pc := 940) (v := 1) C d_L_law_940 (by decide) ?_
  refine sg_add (pc := 941) C d_L_law_941 ?_
  refine sg_sld (pc := 942) C hX hb hA (by omega) (by omega) d_L_law_942 ?_
  refine sg_aln (pc := 943) C d_L_law_943 rfl ?_
  refine sg_il (pc := 944) C d_L_law_944 rfl ?_
  refine sg_ic (pc := 946) (v := 2) C d_L_law_946 (by decide) ?_
  refine sg_add (pc := 947) C d_L_law_947 ?_
  refine sg_sld (pc := 948) C hX hb hA (by omega) (by omega) d_L_law_948 ?_
  refine sg_aln (pc := 949) C d_L_law_949 rfl ?_
  refine sg_il (pc := 950) C d_L_law_950 rfl ?_
  refine sg_ic (pc := 952) (v := 3) C d_L_law_952 (by decide) ?_
  refine sg_add (pc := 953) C d_L_law_953 ?_
  refine sg_sld (pc := 954) C hX hb hA (by omega) (by omega) d_L_law_954 ?_
  refine sm_callV (pc := 955) (As := [.int (xs (4 * c + 1)), .int (xs (4 * c + 2)), .int (xs (4 * c + 3))]) C I hR cw_L_125 iw_R_field (C.1.2.2.2.2 _ (List.mem_cons_of_mem _ se_R_field)) (by decide) rfl rfl rfl rfl (by decide) ⟨by omega, by omega⟩ rfl (Nat.le_of_ble_eq_true rfl) d_L_law_955 (fun r X2 Y2 hr => ?_)
  obtain ⟨rfl, ht, ⟨CT2, LN2, h2⟩, hans⟩ := hn2 r X2 Y2 hr
  obtain ⟨y, rfl, hans⟩ := hans
  refine sm_di ?_
  refine sg_is6 (pc := 958) C d_L_law_958 ?_
  refine sg_aln (pc := 960) C d_L_law_960 rfl ?_
  refine sm_callV (pc := 961) (As := []) C I (c_R_thrown l Ω) cw_L_78 iw_R_thrown (C.1.2.2.2.2 _ (List.mem_cons_of_mem _ se_R_thrown)) (by decide) rfl rfl rfl rfl (by decide) ⟨by omega, by omega⟩ rfl (Nat.le_of_ble_eq_true rfl) d_L_law_961 (sm_det_i ?_)
  rw [ht]
  refine sg_il (pc := 964) C d_L_law_964 rfl ?_
  refine sg_iceq (pc := 966) (tgt := 971) C d_L_law_966 (by decide) (by omega) (by omega) (fun _ => ?_) (fun q => absurd rfl q)
  refine sg_il (pc := 971) C d_L_law_971 rfl ?_
  refine sg_ifne (pc := 973) (tgt := 988) C d_L_law_973 (by decide) (by omega) (fun h0 => ?_) (fun h0 => ?_)
  · refine sg_goto (pc := 988) (tgt := 991) C d_L_law_988 (by decide) ?_
    exact sg_widen (by omega) (by omega) (kk _ _ X2 w1 CT2 LN2 h2)
  · refine sg_aln (pc := 976) C d_L_law_976 rfl ?_
    refine sg_ic (pc := 977) (v := 0) C d_L_law_977 (by decide) ?_
    refine sg_lald (pc := 978) (n := 1) C (by decide) rfl (by decide) (by decide) d_L_law_978 ?_
    refine sg_il (pc := 979) C d_L_law_979 rfl ?_
    refine sr_i2l (pc := 981) C d_L_law_981 (hans h0) ?_
    refine sg_lcmp (pc := 982) C d_L_law_982 ?_
    refine sg_ifeq (pc := 983) (tgt := 988) C d_L_law_983 (by decide) (by decide) (fun _ => ?_) (fun q => absurd rfl q)
    refine sg_goto (pc := 988) (tgt := 991) C d_L_law_988 (by decide) ?_
    exact sg_widen (by omega) (by omega) (kk _ _ X2 w1 CT2 LN2 h2)

end
