/-! put, settle, get -/
/-- well-formed still, where only shares have changed -/
theorem swf_mk {X Z : sm_X} {w w2 : Nat → Nat → Nat} (hf : swf X w) (hw2 : ∀ n o, w2 n o < 2) (h1 : ∀ n, n < 12 → ∀ j, j < 5 → Z (79 + 51 * n) j = X (79 + 51 * n) j) (h2 : ∀ o, o < 12 → ∀ j, j < 5 → Z (691 + o) j = X (691 + o) j)
    (h3 : ∀ n o b, n < 12 → o < 12 → b < 2 → (Z (82 + 51 * n + 4 * o + 2 * b) 0 = X (82 + 51 * n + 4 * o + 2 * b) 0 ∨ Z (82 + 51 * n + 4 * o + 2 * b) 0 < 2 ^ 30) ∧ (Z (82 + 51 * n + 4 * o + 2 * b) 1 = X (82 + 51 * n + 4 * o + 2 * b) 1 ∨ Z (82 + 51 * n + 4 * o + 2 * b) 1 ≤ 240)) : swf Z w2 := by
  refine ⟨hw2, fun n hn => ?_, fun o ho => ?_, fun n o b hn ho hb => ?_⟩
  · rw [h1 n hn 0 (by decide), h1 n hn 3 (by decide), h1 n hn 4 (by decide)]
    exact hf.2.1 n hn
  · rw [h2 o ho 4 (by decide), h2 o ho 1 (by decide), h2 o ho 3 (by decide)]
    refine ⟨fun j hj => ?_, (hf.2.2.1 o ho).2⟩
    rw [h2 o ho j (by omega)]
    exact (hf.2.2.1 o ho).1 j hj
  · have h4 := hf.2.2.2 n o b hn ho hb
    have h5 := h3 n o b hn ho hb
    refine ⟨?_, ?_⟩
    · rcases h5.1 with e | e
      · rw [e]; exact h4.1
      · exact e
    · rcases h5.2 with e | e
      · rw [e]; exact h4.2
      · exact e
theorem swf_st {T : Nat → Bool} {X : sm_X} {w : Nat → Nat → Nat} {o k : Nat} (hf : swf X w) (hk : k ≤ 12) : swf (stX T X w o k) (stW T w o k) := by
  refine swf_mk hf (stW_lt hf.1) (fun n hn j hj => stX_o (by omega)) (fun p hp j hj => stX_o (by omega)) (fun n p b hn hp hb => ?_)
  have h4 := hf.2.2.2 n p b hn hp hb
  unfold stX
  constructor
  · split
    · exact Or.inr (by decide)
    · exact Or.inl rfl
  · split
    · exact Or.inr (by decide)
    · exact Or.inl rfl
theorem swf_ds {X : sm_X} {w : Nat → Nat → Nat} {o k : Nat} (hf : swf X w) (hk : k ≤ 12) : swf (sds X w o k) w := by
  refine swf_mk hf hf.1 (fun n hn j hj => sds_o (by omega)) (fun p hp j hj => sds_o (by omega)) (fun n p b hn hp hb => ?_)
  unfold sds
  constructor
  · split
    · exact Or.inr (by decide)
    · exact Or.inl rfl
  · split
    · exact Or.inr (by decide)
    · exact Or.inl rfl
theorem swf_ss {T : Nat → Bool} {X : sm_X} {w : Nat → Nat → Nat} {o m n k : Nat} (hf : swf X w) (ho : o < 12) (hm : m < 2 ^ 30) (hn : n ≤ 240) (h3 : X (691 + o) 3 ≤ 240) (hk : k ≤ 12) : swf (ssX T (ssZ X o) w o m n k) w := by
  have zo : ∀ a b, (a < 6 ∨ 70 ≤ a) → ssZ X o a b = X a b := fun a b h => mf_o h _ (by omega)
  refine swf_mk hf hf.1 (fun n hn j hj => (ssX_o (by omega) (by omega)).trans (zo _ _ (by omega))) (fun p hp j hj => (ssX_o (by omega) (by omega)).trans (zo _ _ (by omega))) (fun q p b hq hp hb => ?_)
  have e2 : ∀ j, j < 2 → ¬ ((82 + 51 * q + 4 * p + 2 * b - 79) / 51 < k ∧ T ((82 + 51 * q + 4 * p + 2 * b - 79) / 51) = true ∧ 82 + 51 * q + 4 * p + 2 * b = 83 + 51 * ((82 + 51 * q + 4 * p + 2 * b - 79) / 51) + 4 * o + 2 * (1 - w ((82 + 51 * q + 4 * p + 2 * b - 79) / 51) o) ∧ j < 8 * ((n + 29) / 30)) := fun j _ => by
    rw [show (82 + 51 * q + 4 * p + 2 * b - 79) / 51 = q by omega]
    omega
  unfold ssX
  constructor
  · split
    · exact Or.inr (by rw [if_pos rfl]; exact hm)
    · rw [if_neg (e2 0 (by decide))]
      exact Or.inl (zo _ _ (by omega))
  · split
    · exact Or.inr (by rw [if_neg (by decide)]; exact hn)
    · rw [if_neg (e2 1 (by decide))]
      exact Or.inl (zo _ _ (by omega))
def tkm (X : sm_X) (a m : Nat) : Prop := (X 0 9 = 4294967295 ∧ m = a) ∨ ∃ q, q < 2 ^ 31 ∧ X 0 9 = q ∧ m = if q ≤ a then q else a
theorem c_S_takeMessages (l : Launch) (Ω : sm_Ω) {X : sm_X} {w : Nat → Nat → Nat} {a m : Nat} (ha : a < 2 ^ 31) (h : tkm X a m) : sm_met l Ω y_S_takeMessages b_S_takeMessages 3 (some .int) 1 723 [.ref (Ω.2.1 + 0), .int (nI a)] X (sm_rf w) (sm_det (some (.int (nI m))) (sm_up X 0 9 4294967295) (sm_rf w)) := by
  rcases h with ⟨h1, rfl⟩ | ⟨q, hq, h1, rfl⟩
  · exact c_S_takeMessages0 l Ω ha h1
  · exact c_S_takeMessages1 l Ω ha h1 hq

def puB (X : sm_X) (o n : Nat) : sm_X := sm_up (sm_up (sm_up X (691 + o) 2 (X (691 + o) 2 + 1)) (691 + o) 3 n) (691 + o) 4 1
def pu2 (X : sm_X) (o n : Nat) : sm_X := sm_up (puB X o n) 0 9 4294967295
def pu3 (X : sm_X) (w : Nat → Nat → Nat) (o n m : Nat) : sm_X := ssX (ssT (pu2 X o n) m) (ssZ (pu2 X o n) o) w o (X (691 + o) 2 + 1) n 12
theorem pu2_i {X : sm_X} {o n : Nat} : pu2 X o n (691 + o) 0 = X (691 + o) 0 ∧ pu2 X o n (691 + o) 1 = X (691 + o) 1 ∧ pu2 X o n (691 + o) 2 = X (691 + o) 2 + 1 ∧ pu2 X o n (691 + o) 3 = n ∧ pu2 X o n (691 + o) 4 = 1 := by
  unfold pu2 puB
  refine ⟨?_, ?_, ?_, ?_, ?_⟩
  · rw [sm_up_x (Or.inl (by omega)), sm_up_x (Or.inr (by decide)), sm_up_x (Or.inr (by decide)), sm_up_x (Or.inr (by decide))]
  · rw [sm_up_x (Or.inl (by omega)), sm_up_x (Or.inr (by decide)), sm_up_x (Or.inr (by decide)), sm_up_x (Or.inr (by decide))]
  · rw [sm_up_x (Or.inl (by omega)), sm_up_x (Or.inr (by decide)), sm_up_x (Or.inr (by decide)), sm_up_s]
  · rw [sm_up_x (Or.inl (by omega)), sm_up_x (Or.inr (by decide)), sm_up_s]
  · rw [sm_up_x (Or.inl (by omega)), sm_up_s]
theorem pu2_o {X : sm_X} {o n a j : Nat} (h1 : a ≠ (691 + o)) (h2 : ¬ (a = 0 ∧ j = 9)) : pu2 X o n a j = X a j := by
  unfold pu2 puB
  rw [sm_up_x (by omega), sm_up_x (Or.inl h1), sm_up_x (Or.inl h1), sm_up_x (Or.inl h1)]
theorem swf_pu2 {X : sm_X} {w : Nat → Nat → Nat} {o n : Nat} (hf : swf X w) (ho : o < 12) (hn : n ≤ 240) (hm : X (691 + o) 2 + 1 < 2 ^ 30) : swf (pu2 X o n) w := by
  refine ⟨hf.1, fun k hk => ?_, fun p hp => ?_, fun k p b hk hp hb => ?_⟩
  · rw [pu2_o (by omega) (by omega), pu2_o (by omega) (by omega), pu2_o (by omega) (by omega)]
    exact hf.2.1 k hk
  · by_cases e : p = o
    · subst e
      have hi := pu2_i (X := X) (o := p) (n := n)
      have h0 := hf.2.2.1 p hp
      refine ⟨fun j hj => ?_, by rw [hi.2.2.2.2]; decide, by rw [hi.2.1]; exact h0.2.2.1, by rw [hi.2.2.2.1]; exact hn⟩
      rcases (by omega : j = 0 ∨ j = 1 ∨ j = 2 ∨ j = 3) with rfl | rfl | rfl | rfl
      · rw [hi.1]; exact h0.1 0 (by decide)
      · rw [hi.2.1]; exact h0.1 1 (by decide)
      · rw [hi.2.2.1]; exact hm
      · rw [hi.2.2.2.1]; omega
    · rw [pu2_o (by omega) (by omega), pu2_o (by omega) (by omega), pu2_o (by omega) (by omega)]
      refine ⟨fun j hj => ?_, (hf.2.2.1 p hp).2⟩
      rw [pu2_o (by omega) (by omega)]
      exact (hf.2.2.1 p hp).1 j hj
  · rw [pu2_o (by omega) (by omega), pu2_o (by omega) (by omega)]
    exact hf.2.2.2 k p b hk hp hb
theorem swf_pu3 {X : sm_X} {w : Nat → Nat → Nat} {o n m : Nat} (hf : swf X w) (ho : o < 12) (hn : n ≤ 240) (hm : X (691 + o) 2 + 1 < 2 ^ 30) : swf (pu3 X w o n m) w := swf_ss (swf_pu2 hf ho hn hm) ho hm hn (by rw [pu2_i.2.2.2.1]; exact hn) (Nat.le_refl 12)
theorem pu3_i {X : sm_X} {w : Nat → Nat → Nat} {o n m j : Nat} (hn : n ≤ 240) : pu3 X w o n m (691 + o) j = pu2 X o n (691 + o) j := (ssX_o (by omega) (by omega)).trans (mf_o (by omega) _ (by rw [pu2_i.2.2.2.1]; omega))
def puF (X : sm_X) (o : Nat) : sm_X := sm_up (sm_up (sm_up X (691 + o) 0 (X (691 + o) 2)) (691 + o) 1 (X (691 + o) 3)) (691 + o) 4 0

set_option maxHeartbeats 4000000 in
set_option maxRecDepth 100000 in
theorem c_S_putA (l : Launch) (Ω : sm_Ω) {X : sm_X} {w : Nat → Nat → Nat} (hf : swf X w) {o n m : Nat} (ho : o < 12) (hn : n ≤ 240) (hmd : X (691 + o) 2 + 1 < 2 ^ 30) (hst : X (691 + o) 4 = 0) (h9 : 9 ≤ (sm_n (slv X) 12)) (hG : gal X) (hl : ∀ q, q < 240 → X 77 q < 256) (hr : ∀ r, r < 64 → ∀ j, j < 8 → X (6 + r) j < 256) (ht : tkm (puB X o n) (2 * (sm_n (slv X) 12)) m) (hm : m = 2 * (sm_n (slv X) 12)) : sm_met l Ω y_S_put b_S_put 6 (some .int) 5 723 [.ref (Ω.2.1 + 0), .int (nI o), .int (nI n)] X (sm_rf w) (sm_det (some (.int (nI (X (691 + o) 2 + 1)))) (puF (stX (stT (pu3 X w o n (sm_n (slv X) 12)) w o (m - (sm_n (slv X) 12))) (pu3 X w o n (sm_n (slv X) 12)) w o 12) o) (sm_rf (stW (stT (pu3 X w o n (sm_n (slv X) 12)) w o (m - (sm_n (slv X) 12))) w o 12))) := by
  refine sm_intro (own := RX6) (L := [some (.ref (Ω.2.1 + 0)), some (.int (nI o)), some (.int (nI n)), none, none, none]) (by decide) rfl (by simp [Value.category]) (Nat.le_of_ble_eq_true rfl) rfl ?_
  intro Γ C I
  have gi := hf.2.2.1 o ho
  have hll := sm_n_le (slv X) 12
  have hs2 := swf_pu2 (X := X) hf ho hn hmd
  have hs3 : ∀ q, swf (pu3 X w o n q) w := fun q => swf_pu3 hf ho hn hmd
  have i2 := pu2_i (X := X) (o := o) (n := n)
  have g2 : gal (pu2 X o n) := gal_of hG (fun k => pu2_o (by omega) (by omega)) (fun k => pu2_o (by omega) (by omega))
  have l2 : ∀ q, q < 240 → pu2 X o n 77 q < 256 := fun q hq => by rw [pu2_o (by omega) (by omega)]; exact hl q hq
  have r2 : ∀ r, r < 64 → ∀ j, j < 8 → pu2 X o n (6 + r) j < 256 := fun r h1 j h2 => by rw [pu2_o (by omega) (by omega)]; exact hr r h1 j h2
  refine sg_iln (pc := 0) C d_S_put_0 rfl ?_
  refine sg_bi (pc := 1) (v := 12) C d_S_put_1 (by decide) ?_
  refine sm_callS (pc := 3) (As := [.int (nI o), .int (nI 12)]) C I (c_S_checkIndex l Ω (by omega) (by decide)) cw_S_63 sw_S_checkIndex rfl (by decide) ⟨by decide, by decide⟩ rfl (Nat.le_of_ble_eq_true rfl) d_S_put_3 (sm_det_v ?_)
  refine sg_iln (pc := 6) C d_S_put_6 rfl ?_
  refine sr_iflt (pc := 7) (tgt := 17) C d_S_put_7 (by decide) (fun h7 => absurd h7 (nI_pos (by omega))) (fun h7 => ?_)
  refine sg_iln (pc := 10) C d_S_put_10 rfl ?_
  refine sg_si (pc := 11) (v := 240) C d_S_put_11 (by decide) ?_
  refine sg_icle (pc := 14) (tgt := 25) C d_S_put_14 (by decide) (by omega) (by omega) (fun h14 => ?_) (fun h14 => absurd h14 (by omega))
  refine sg_aln (pc := 25) C d_S_put_25 rfl ?_
  refine sg_iln (pc := 26) C d_S_put_26 rfl ?_
  refine sm_callV (pc := 27) (As := [.int (nI o)]) C I (c_S_checkNotStopped l Ω hf ho hst) cw_S_70 iw_S_checkNotStopped (C.1.2.2.2.2 _ (List.mem_cons_of_mem _ se_S_checkNotStopped)) (by omega) rfl rfl rfl rfl (by decide) ⟨by decide, by decide⟩ rfl (Nat.le_of_ble_eq_true rfl) d_S_put_27 (sm_det_v ?_)
  refine sg_aln (pc := 30) C d_S_put_30 rfl ?_
  refine sm_callV (pc := 31) (As := []) C I (c_S_countLive l Ω hf) cw_S_73 iw_S_countLive (C.1.2.2.2.2 _ (List.mem_cons_of_mem _ se_S_countLive)) (by omega) rfl rfl rfl rfl (by decide) ⟨by decide, by decide⟩ rfl (Nat.le_of_ble_eq_true rfl) d_S_put_31 (sm_det_i ?_)
  refine sg_is3 (pc := 34) C d_S_put_34 ?_
  refine sg_iln (pc := 35) C d_S_put_35 rfl ?_
  refine sg_bi (pc := 36) (v := 9) C d_S_put_36 (by decide) ?_
  refine sg_icge (pc := 38) (tgt := 49) C d_S_put_38 (by decide) (by omega) (by omega) (fun h38 => ?_) (fun h38 => absurd h38 (by omega))
  refine sg_aln (pc := 49) C d_S_put_49 rfl ?_
  refine sg_getr (pc := 50) C fw_S_31 (by omega) rfl rfl rfl d_S_put_50 ?_
  refine sg_iln (pc := 53) C d_S_put_53 rfl ?_
  refine sg_aald (pc := 54) (n := 12) (t := 5) C (by omega) rfl (by decide) rfl rfl (by omega) (by decide) (rf_items (by omega)) d_S_put_54 ?_
  refine sg_as4 (pc := 55) C d_S_put_55 ?_
  refine sg_al (pc := 57) C d_S_put_57 rfl ?_
  refine sg_iln (pc := 59) C d_S_put_59 rfl ?_
  refine sm_callV (pc := 60) (As := [.int (nI n)]) C I (c_I_begin l Ω (by omega) (sh_I ho)) cw_S_80 iw_I_begin (C.1.2.2.2.2 _ (List.mem_cons_of_mem _ se_I_begin)) (by omega) (sh_I (by omega)) rfl rfl rfl (by decide) ⟨by decide, by decide⟩ rfl (Nat.le_of_ble_eq_true rfl) d_S_put_60 (sm_det_v ?_)
  change sm_G Γ Ω 723 0 0 (60 + 3) _ _ (puB X o n) (sm_rf w)
  refine sg_aln (pc := 63) C d_S_put_63 rfl ?_
  refine sg_ic (pc := 64) (v := 2) C d_S_put_64 (by decide) ?_
  refine sg_iln (pc := 65) C d_S_put_65 rfl ?_
  refine sg_mul (pc := 66) C d_S_put_66 ?_
  refine sm_callV (pc := 67) (As := [.int (nI (2 * (sm_n (slv X) 12)))]) C I (c_S_takeMessages l Ω (by omega) ht) cw_S_83 iw_S_takeMessages (C.1.2.2.2.2 _ (List.mem_cons_of_mem _ se_S_takeMessages)) (by omega) rfl rfl rfl rfl (by decide) ⟨by decide, by decide⟩ rfl (Nat.le_of_ble_eq_true rfl) d_S_put_67 (sm_det_i ?_)
  change sm_G Γ Ω 723 0 0 (67 + 3) _ _ (pu2 X o n) (sm_rf w)
  refine sg_is5 (pc := 70) C d_S_put_70 ?_
  refine sg_aln (pc := 72) C d_S_put_72 rfl ?_
  refine sg_iln (pc := 73) C d_S_put_73 rfl ?_
  refine sg_il (pc := 74) C d_S_put_74 rfl ?_
  refine sg_iln (pc := 76) C d_S_put_76 rfl ?_
  refine sg_icge (pc := 77) (tgt := 85) C d_S_put_77 (by decide) (by omega) (by omega) (fun h77 => ?_) (fun h77 => absurd h77 (by omega))
  refine sg_iln (pc := 85) C d_S_put_85 rfl ?_
  refine sm_callV (pc := 86) (As := [.int (nI o), .int (nI (sm_n (slv X) 12))]) C I (c_S_sendShadows l Ω hs2 ho (by omega) g2 l2 r2) cw_S_87 iw_S_sendShadows (C.1.2.2.2.2 _ (List.mem_cons_of_mem _ se_S_sendShadows)) (by omega) rfl rfl rfl rfl (by decide) ⟨by decide, by decide⟩ rfl (Nat.le_of_ble_eq_true rfl) d_S_put_86 (sm_det_v ?_)
  rw [i2.2.2.1, i2.2.2.2.1]
  change sm_G Γ Ω 723 0 0 (86 + 3) _ _ (pu3 X w o n (sm_n (slv X) 12)) (sm_rf w)
  refine sg_aln (pc := 89) C d_S_put_89 rfl ?_
  refine sg_iln (pc := 90) C d_S_put_90 rfl ?_
  refine sg_il (pc := 91) C d_S_put_91 rfl ?_
  refine sg_iln (pc := 93) C d_S_put_93 rfl ?_
  refine sg_sub (pc := 94) C d_S_put_94 (by omega) ?_
  refine sm_callV (pc := 95) (As := [.int (nI o), .int (nI (m - (sm_n (slv X) 12)))]) C I (c_S_turnShadows l Ω (hs3 (sm_n (slv X) 12)) ho (by omega)) cw_S_90 iw_S_turnShadows (C.1.2.2.2.2 _ (List.mem_cons_of_mem _ se_S_turnShadows)) (by omega) rfl rfl rfl rfl (by decide) ⟨by decide, by decide⟩ rfl (Nat.le_of_ble_eq_true rfl) d_S_put_95 (sm_det_v ?_)
  refine sg_il (pc := 98) C d_S_put_98 rfl ?_
  refine sg_ic (pc := 100) (v := 2) C d_S_put_100 (by decide) ?_
  refine sg_iln (pc := 101) C d_S_put_101 rfl ?_
  refine sg_mul (pc := 102) C d_S_put_102 ?_
  refine sg_icne (pc := 103) (tgt := 112) C d_S_put_103 (by decide) (by omega) (by omega) (fun h103 => absurd hm h103) (fun h103 => ?_)
  refine sg_al (pc := 106) C d_S_put_106 rfl ?_
  refine sg_ic (pc := 108) (v := 1) C d_S_put_108 (by decide) ?_
  refine sm_callV (pc := 109) (As := [.int (nI 1)]) C I (c_I_finish1 l Ω (by omega) (sh_I ho)) cw_S_93 iw_I_finish (C.1.2.2.2.2 _ (List.mem_cons_of_mem _ se_I_finish)) (by omega) (sh_I (by omega)) rfl rfl rfl (by decide) ⟨by decide, by decide⟩ rfl (Nat.le_of_ble_eq_true rfl) d_S_put_109 (sm_det_v ?_)
  change sm_G Γ Ω 723 0 0 (109 + 3) _ _ (puF (stX (stT (pu3 X w o n (sm_n (slv X) 12)) w o (m - (sm_n (slv X) 12))) (pu3 X w o n (sm_n (slv X) 12)) w o 12) o) _
  refine sg_al (pc := 112) C d_S_put_112 rfl ?_
  refine sg_geti (pc := 114) C fw_S_97 (by omega) (sh_I (by omega)) rfl d_S_put_114 ?_
  rw [show puF (stX (stT (pu3 X w o n (sm_n (slv X) 12)) w o (m - (sm_n (slv X) 12))) (pu3 X w o n (sm_n (slv X) 12)) w o 12) o (691 + o) 2 = X (691 + o) 2 + 1 from (sm_up_x (Or.inr (by decide))).trans ((sm_up_x (Or.inr (by decide))).trans ((sm_up_x (Or.inr (by decide))).trans ((stX_o (by omega)).trans ((pu3_i hn).trans i2.2.2.1))))]
  exact sg_iret (pc := 117) C I rfl rfl d_S_put_117 ⟨rfl, rfl, rfl⟩

set_option maxHeartbeats 4000000 in
set_option maxRecDepth 100000 in
theorem c_S_putB (l : Launch) (Ω : sm_Ω) {X : sm_X} {w : Nat → Nat → Nat} (hf : swf X w) {o n m : Nat} (ho : o < 12) (hn : n ≤ 240) (hmd : X (691 + o) 2 + 1 < 2 ^ 30) (hst : X (691 + o) 4 = 0) (h9 : 9 ≤ (sm_n (slv X) 12)) (hG : gal X) (hl : ∀ q, q < 240 → X 77 q < 256) (hr : ∀ r, r < 64 → ∀ j, j < 8 → X (6 + r) j < 256) (ht : tkm (puB X o n) (2 * (sm_n (slv X) 12)) m) (hm : (sm_n (slv X) 12) ≤ m) (hm2 : m < 2 * (sm_n (slv X) 12)) : sm_met l Ω y_S_put b_S_put 6 (some .int) 5 723 [.ref (Ω.2.1 + 0), .int (nI o), .int (nI n)] X (sm_rf w) (sm_det (some (.int (nI (X (691 + o) 2 + 1)))) (stX (stT (pu3 X w o n (sm_n (slv X) 12)) w o (m - (sm_n (slv X) 12))) (pu3 X w o n (sm_n (slv X) 12)) w o 12) (sm_rf (stW (stT (pu3 X w o n (sm_n (slv X) 12)) w o (m - (sm_n (slv X) 12))) w o 12))) := by
  refine sm_intro (own := RX6) (L := [some (.ref (Ω.2.1 + 0)), some (.int (nI o)), some (.int (nI n)), none, none, none]) (by decide) rfl (by simp [Value.category]) (Nat.le_of_ble_eq_true rfl) rfl ?_
  intro Γ C I
  have gi := hf.2.2.1 o ho
  have hll := sm_n_le (slv X) 12
  have hs2 := swf_pu2 (X := X) hf ho hn hmd
  have hs3 : ∀ q, swf (pu3 X w o n q) w := fun q => swf_pu3 hf ho hn hmd
  have i2 := pu2_i (X := X) (o := o) (n := n)
  have g2 : gal (pu2 X o n) := gal_of hG (fun k => pu2_o (by omega) (by omega)) (fun k => pu2_o (by omega) (by omega))
  have l2 : ∀ q, q < 240 → pu2 X o n 77 q < 256 := fun q hq => by rw [pu2_o (by omega) (by omega)]; exact hl q hq
  have r2 : ∀ r, r < 64 → ∀ j, j < 8 → pu2 X o n (6 + r) j < 256 := fun r h1 j h2 => by rw [pu2_o (by omega) (by omega)]; exact hr r h1 j h2
  refine sg_iln (pc := 0) C d_S_put_0 rfl ?_
  refine sg_bi (pc := 1) (v := 12) C d_S_put_1 (by decide) ?_
  refine sm_callS (pc := 3) (As := [.int (nI o), .int (nI 12)]) C I (c_S_checkIndex l Ω (by omega) (by decide)) cw_S_63 sw_S_checkIndex rfl (by decide) ⟨by decide, by decide⟩ rfl (Nat.le_of_ble_eq_true rfl) d_S_put_3 (sm_det_v ?_)
  refine sg_iln (pc := 6) C d_S_put_6 rfl ?_
  refine sr_iflt (pc := 7) (tgt := 17) C d_S_put_7 (by decide) (fun h7 => absurd h7 (nI_pos (by omega))) (fun h7 => ?_)
  refine sg_iln (pc := 10) C d_S_put_10 rfl ?_
  refine sg_si (pc := 11) (v := 240) C d_S_put_11 (by decide) ?_
  refine sg_icle (pc := 14) (tgt := 25) C d_S_put_14 (by decide) (by omega) (by omega) (fun h14 => ?_) (fun h14 => absurd h14 (by omega))
  refine sg_aln (pc := 25) C d_S_put_25 rfl ?_
  refine sg_iln (pc := 26) C d_S_put_26 rfl ?_
  refine sm_callV (pc := 27) (As := [.int (nI o)]) C I (c_S_checkNotStopped l Ω hf ho hst) cw_S_70 iw_S_checkNotStopped (C.1.2.2.2.2 _ (List.mem_cons_of_mem _ se_S_checkNotStopped)) (by omega) rfl rfl rfl rfl (by decide) ⟨by decide, by decide⟩ rfl (Nat.le_of_ble_eq_true rfl) d_S_put_27 (sm_det_v ?_)
  refine sg_aln (pc := 30) C d_S_put_30 rfl ?_
  refine sm_callV (pc := 31) (As := []) C I (c_S_countLive l Ω hf) cw_S_73 iw_S_countLive (C.1.2.2.2.2 _ (List.mem_cons_of_mem _ se_S_countLive)) (by omega) rfl rfl rfl rfl (by decide) ⟨by decide, by decide⟩ rfl (Nat.le_of_ble_eq_true rfl) d_S_put_31 (sm_det_i ?_)
  refine sg_is3 (pc := 34) C d_S_put_34 ?_
  refine sg_iln (pc := 35) C d_S_put_35 rfl ?_
  refine sg_bi (pc := 36) (v := 9) C d_S_put_36 (by decide) ?_
  refine sg_icge (pc := 38) (tgt := 49) C d_S_put_38 (by decide) (by omega) (by omega) (fun h38 => ?_) (fun h38 => absurd h38 (by omega))
  refine sg_aln (pc := 49) C d_S_put_49 rfl ?_
  refine sg_getr (pc := 50) C fw_S_31 (by omega) rfl rfl rfl d_S_put_50 ?_
  refine sg_iln (pc := 53) C d_S_put_53 rfl ?_
  refine sg_aald (pc := 54) (n := 12) (t := 5) C (by omega) rfl (by decide) rfl rfl (by omega) (by decide) (rf_items (by omega)) d_S_put_54 ?_
  refine sg_as4 (pc := 55) C d_S_put_55 ?_
  refine sg_al (pc := 57) C d_S_put_57 rfl ?_
  refine sg_iln (pc := 59) C d_S_put_59 rfl ?_
  refine sm_callV (pc := 60) (As := [.int (nI n)]) C I (c_I_begin l Ω (by omega) (sh_I ho)) cw_S_80 iw_I_begin (C.1.2.2.2.2 _ (List.mem_cons_of_mem _ se_I_begin)) (by omega) (sh_I (by omega)) rfl rfl rfl (by decide) ⟨by decide, by decide⟩ rfl (Nat.le_of_ble_eq_true rfl) d_S_put_60 (sm_det_v ?_)
  change sm_G Γ Ω 723 0 0 (60 + 3) _ _ (puB X o n) (sm_rf w)
  refine sg_aln (pc := 63) C d_S_put_63 rfl ?_
  refine sg_ic (pc := 64) (v := 2) C d_S_put_64 (by decide) ?_
  refine sg_iln (pc := 65) C d_S_put_65 rfl ?_
  refine sg_mul (pc := 66) C d_S_put_66 ?_
  refine sm_callV (pc := 67) (As := [.int (nI (2 * (sm_n (slv X) 12)))]) C I (c_S_takeMessages l Ω (by omega) ht) cw_S_83 iw_S_takeMessages (C.1.2.2.2.2 _ (List.mem_cons_of_mem _ se_S_takeMessages)) (by omega) rfl rfl rfl rfl (by decide) ⟨by decide, by decide⟩ rfl (Nat.le_of_ble_eq_true rfl) d_S_put_67 (sm_det_i ?_)
  change sm_G Γ Ω 723 0 0 (67 + 3) _ _ (pu2 X o n) (sm_rf w)
  refine sg_is5 (pc := 70) C d_S_put_70 ?_
  refine sg_aln (pc := 72) C d_S_put_72 rfl ?_
  refine sg_iln (pc := 73) C d_S_put_73 rfl ?_
  refine sg_il (pc := 74) C d_S_put_74 rfl ?_
  refine sg_iln (pc := 76) C d_S_put_76 rfl ?_
  refine sg_icge (pc := 77) (tgt := 85) C d_S_put_77 (by decide) (by omega) (by omega) (fun h77 => ?_) (fun h77 => absurd h77 (by omega))
  refine sg_iln (pc := 85) C d_S_put_85 rfl ?_
  refine sm_callV (pc := 86) (As := [.int (nI o), .int (nI (sm_n (slv X) 12))]) C I (c_S_sendShadows l Ω hs2 ho (by omega) g2 l2 r2) cw_S_87 iw_S_sendShadows (C.1.2.2.2.2 _ (List.mem_cons_of_mem _ se_S_sendShadows)) (by omega) rfl rfl rfl rfl (by decide) ⟨by decide, by decide⟩ rfl (Nat.le_of_ble_eq_true rfl) d_S_put_86 (sm_det_v ?_)
  rw [i2.2.2.1, i2.2.2.2.1]
  change sm_G Γ Ω 723 0 0 (86 + 3) _ _ (pu3 X w o n (sm_n (slv X) 12)) (sm_rf w)
  refine sg_aln (pc := 89) C d_S_put_89 rfl ?_
  refine sg_iln (pc := 90) C d_S_put_90 rfl ?_
  refine sg_il (pc := 91) C d_S_put_91 rfl ?_
  refine sg_iln (pc := 93) C d_S_put_93 rfl ?_
  refine sg_sub (pc := 94) C d_S_put_94 (by omega) ?_
  refine sm_callV (pc := 95) (As := [.int (nI o), .int (nI (m - (sm_n (slv X) 12)))]) C I (c_S_turnShadows l Ω (hs3 (sm_n (slv X) 12)) ho (by omega)) cw_S_90 iw_S_turnShadows (C.1.2.2.2.2 _ (List.mem_cons_of_mem _ se_S_turnShadows)) (by omega) rfl rfl rfl rfl (by decide) ⟨by decide, by decide⟩ rfl (Nat.le_of_ble_eq_true rfl) d_S_put_95 (sm_det_v ?_)
  refine sg_il (pc := 98) C d_S_put_98 rfl ?_
  refine sg_ic (pc := 100) (v := 2) C d_S_put_100 (by decide) ?_
  refine sg_iln (pc := 101) C d_S_put_101 rfl ?_
  refine sg_mul (pc := 102) C d_S_put_102 ?_
  refine sg_icne (pc := 103) (tgt := 112) C d_S_put_103 (by decide) (by omega) (by omega) (fun h103 => ?_) (fun h103 => absurd h103 (by omega))
  refine sg_al (pc := 112) C d_S_put_112 rfl ?_
  refine sg_geti (pc := 114) C fw_S_97 (by omega) (sh_I (by omega)) rfl d_S_put_114 ?_
  rw [show (stX (stT (pu3 X w o n (sm_n (slv X) 12)) w o (m - (sm_n (slv X) 12))) (pu3 X w o n (sm_n (slv X) 12)) w o 12) (691 + o) 2 = X (691 + o) 2 + 1 from (stX_o (by omega)).trans ((pu3_i hn).trans i2.2.2.1)]
  exact sg_iret (pc := 117) C I rfl rfl d_S_put_117 ⟨rfl, rfl, rfl⟩

set_option maxHeartbeats 4000000 in
set_option maxRecDepth 100000 in
theorem c_S_putC (l : Launch) (Ω : sm_Ω) {X : sm_X} {w : Nat → Nat → Nat} (hf : swf X w) {o n m : Nat} (ho : o < 12) (hn : n ≤ 240) (hmd : X (691 + o) 2 + 1 < 2 ^ 30) (hst : X (691 + o) 4 = 0) (h9 : 9 ≤ (sm_n (slv X) 12)) (hG : gal X) (hl : ∀ q, q < 240 → X 77 q < 256) (hr : ∀ r, r < 64 → ∀ j, j < 8 → X (6 + r) j < 256) (ht : tkm (puB X o n) (2 * (sm_n (slv X) 12)) m) (hm : m < (sm_n (slv X) 12)) : sm_met l Ω y_S_put b_S_put 6 (some .int) 5 723 [.ref (Ω.2.1 + 0), .int (nI o), .int (nI n)] X (sm_rf w) (sm_det (some (.int (nI (X (691 + o) 2 + 1)))) (pu3 X w o n m) (sm_rf w)) := by
  refine sm_intro (own := RX6) (L := [some (.ref (Ω.2.1 + 0)), some (.int (nI o)), some (.int (nI n)), none, none, none]) (by decide) rfl (by simp [Value.category]) (Nat.le_of_ble_eq_true rfl) rfl ?_
  intro Γ C I
  have gi := hf.2.2.1 o ho
  have hll := sm_n_le (slv X) 12
  have hs2 := swf_pu2 (X := X) hf ho hn hmd
  have hs3 : ∀ q, swf (pu3 X w o n q) w := fun q => swf_pu3 hf ho hn hmd
  have i2 := pu2_i (X := X) (o := o) (n := n)
  have g2 : gal (pu2 X o n) := gal_of hG (fun k => pu2_o (by omega) (by omega)) (fun k => pu2_o (by omega) (by omega))
  have l2 : ∀ q, q < 240 → pu2 X o n 77 q < 256 := fun q hq => by rw [pu2_o (by omega) (by omega)]; exact hl q hq
  have r2 : ∀ r, r < 64 → ∀ j, j < 8 → pu2 X o n (6 + r) j < 256 := fun r h1 j h2 => by rw [pu2_o (by omega) (by omega)]; exact hr r h1 j h2
  refine sg_iln (pc := 0) C d_S_put_0 rfl ?_
  refine sg_bi (pc := 1) (v := 12) C d_S_put_1 (by decide) ?_
  refine sm_callS (pc := 3) (As := [.int (nI o), .int (nI 12)]) C I (c_S_checkIndex l Ω (by omega) (by decide)) cw_S_63 sw_S_checkIndex rfl (by decide) ⟨by decide, by decide⟩ rfl (Nat.le_of_ble_eq_true rfl) d_S_put_3 (sm_det_v ?_)
  refine sg_iln (pc := 6) C d_S_put_6 rfl ?_
  refine sr_iflt (pc := 7) (tgt := 17) C d_S_put_7 (by decide) (fun h7 => absurd h7 (nI_pos (by omega))) (fun h7 => ?_)
  refine sg_iln (pc := 10) C d_S_put_10 rfl ?_
  refine sg_si (pc := 11) (v := 240) C d_S_put_11 (by decide) ?_
  refine sg_icle (pc := 14) (tgt := 25) C d_S_put_14 (by decide) (by omega) (by omega) (fun h14 => ?_) (fun h14 => absurd h14 (by omega))
  refine sg_aln (pc := 25) C d_S_put_25 rfl ?_
  refine sg_iln (pc := 26) C d_S_put_26 rfl ?_
  refine sm_callV (pc := 27) (As := [.int (nI o)]) C I (c_S_checkNotStopped l Ω hf ho hst) cw_S_70 iw_S_checkNotStopped (C.1.2.2.2.2 _ (List.mem_cons_of_mem _ se_S_checkNotStopped)) (by omega) rfl rfl rfl rfl (by decide) ⟨by decide, by decide⟩ rfl (Nat.le_of_ble_eq_true rfl) d_S_put_27 (sm_det_v ?_)
  refine sg_aln (pc := 30) C d_S_put_30 rfl ?_
  refine sm_callV (pc := 31) (As := []) C I (c_S_countLive l Ω hf) cw_S_73 iw_S_countLive (C.1.2.2.2.2 _ (List.mem_cons_of_mem _ se_S_countLive)) (by omega) rfl rfl rfl rfl (by decide) ⟨by decide, by decide⟩ rfl (Nat.le_of_ble_eq_true rfl) d_S_put_31 (sm_det_i ?_)
  refine sg_is3 (pc := 34) C d_S_put_34 ?_
  refine sg_iln (pc := 35) C d_S_put_35 rfl ?_
  refine sg_bi (pc := 36) (v := 9) C d_S_put_36 (by decide) ?_
  refine sg_icge (pc := 38) (tgt := 49) C d_S_put_38 (by decide) (by omega) (by omega) (fun h38 => ?_) (fun h38 => absurd h38 (by omega))
  refine sg_aln (pc := 49) C d_S_put_49 rfl ?_
  refine sg_getr (pc := 50) C fw_S_31 (by omega) rfl rfl rfl d_S_put_50 ?_
  refine sg_iln (pc := 53) C d_S_put_53 rfl ?_
  refine sg_aald (pc := 54) (n := 12) (t := 5) C (by omega) rfl (by decide) rfl rfl (by omega) (by decide) (rf_items (by omega)) d_S_put_54 ?_
  refine sg_as4 (pc := 55) C d_S_put_55 ?_
  refine sg_al (pc := 57) C d_S_put_57 rfl ?_
  refine sg_iln (pc := 59) C d_S_put_59 rfl ?_
  refine sm_callV (pc := 60) (As := [.int (nI n)]) C I (c_I_begin l Ω (by omega) (sh_I ho)) cw_S_80 iw_I_begin (C.1.2.2.2.2 _ (List.mem_cons_of_mem _ se_I_begin)) (by omega) (sh_I (by omega)) rfl rfl rfl (by decide) ⟨by decide, by decide⟩ rfl (Nat.le_of_ble_eq_true rfl) d_S_put_60 (sm_det_v ?_)
  change sm_G Γ Ω 723 0 0 (60 + 3) _ _ (puB X o n) (sm_rf w)
  refine sg_aln (pc := 63) C d_S_put_63 rfl ?_
  refine sg_ic (pc := 64) (v := 2) C d_S_put_64 (by decide) ?_
  refine sg_iln (pc := 65) C d_S_put_65 rfl ?_
  refine sg_mul (pc := 66) C d_S_put_66 ?_
  refine sm_callV (pc := 67) (As := [.int (nI (2 * (sm_n (slv X) 12)))]) C I (c_S_takeMessages l Ω (by omega) ht) cw_S_83 iw_S_takeMessages (C.1.2.2.2.2 _ (List.mem_cons_of_mem _ se_S_takeMessages)) (by omega) rfl rfl rfl rfl (by decide) ⟨by decide, by decide⟩ rfl (Nat.le_of_ble_eq_true rfl) d_S_put_67 (sm_det_i ?_)
  change sm_G Γ Ω 723 0 0 (67 + 3) _ _ (pu2 X o n) (sm_rf w)
  refine sg_is5 (pc := 70) C d_S_put_70 ?_
  refine sg_aln (pc := 72) C d_S_put_72 rfl ?_
  refine sg_iln (pc := 73) C d_S_put_73 rfl ?_
  refine sg_il (pc := 74) C d_S_put_74 rfl ?_
  refine sg_iln (pc := 76) C d_S_put_76 rfl ?_
  refine sg_icge (pc := 77) (tgt := 85) C d_S_put_77 (by decide) (by omega) (by omega) (fun h77 => absurd h77 (by omega)) (fun h77 => ?_)
  refine sg_il (pc := 80) C d_S_put_80 rfl ?_
  refine sg_goto (pc := 82) (tgt := 86) C d_S_put_82 (by decide) ?_
  refine sm_callV (pc := 86) (As := [.int (nI o), .int (nI m)]) C I (c_S_sendShadows l Ω hs2 ho (by omega) g2 l2 r2) cw_S_87 iw_S_sendShadows (C.1.2.2.2.2 _ (List.mem_cons_of_mem _ se_S_sendShadows)) (by omega) rfl rfl rfl rfl (by decide) ⟨by decide, by decide⟩ rfl (Nat.le_of_ble_eq_true rfl) d_S_put_86 (sm_det_v ?_)
  rw [i2.2.2.1, i2.2.2.2.1]
  change sm_G Γ Ω 723 0 0 (86 + 3) _ _ (pu3 X w o n m) (sm_rf w)
  refine sg_aln (pc := 89) C d_S_put_89 rfl ?_
  refine sg_iln (pc := 90) C d_S_put_90 rfl ?_
  refine sg_il (pc := 91) C d_S_put_91 rfl ?_
  refine sg_iln (pc := 93) C d_S_put_93 rfl ?_
  refine sr_isub (pc := 94) C d_S_put_94 rfl ?_
  refine sm_callV (pc := 95) (As := [.int (nI o), .int (nI m - nI (sm_n (slv X) 12))]) C I (c_S_turnShadowsN l Ω (x := nI m - nI (sm_n (slv X) 12)) (Int32.le_of_lt (pk_sneg (by omega) (by omega)))) cw_S_90 iw_S_turnShadows (C.1.2.2.2.2 _ (List.mem_cons_of_mem _ se_S_turnShadows)) (by omega) rfl rfl rfl rfl (by decide) ⟨by decide, by decide⟩ rfl (Nat.le_of_ble_eq_true rfl) d_S_put_95 (sm_det_v ?_)
  refine sg_il (pc := 98) C d_S_put_98 rfl ?_
  refine sg_ic (pc := 100) (v := 2) C d_S_put_100 (by decide) ?_
  refine sg_iln (pc := 101) C d_S_put_101 rfl ?_
  refine sg_mul (pc := 102) C d_S_put_102 ?_
  refine sg_icne (pc := 103) (tgt := 112) C d_S_put_103 (by decide) (by omega) (by omega) (fun h103 => ?_) (fun h103 => absurd h103 (by omega))
  refine sg_al (pc := 112) C d_S_put_112 rfl ?_
  refine sg_geti (pc := 114) C fw_S_97 (by omega) (sh_I (by omega)) rfl d_S_put_114 ?_
  rw [show pu3 X w o n m (691 + o) 2 = X (691 + o) 2 + 1 from (pu3_i hn).trans i2.2.2.1]
  exact sg_iret (pc := 117) C I rfl rfl d_S_put_117 ⟨rfl, rfl, rfl⟩

set_option maxHeartbeats 4000000 in
set_option maxRecDepth 100000 in
theorem x_S_put1 (l : Launch) (hl : l.stackTraces = false) (Ω : sm_Ω) {X : sm_X} {w : Nat → Nat → Nat} {x z : Int32} (hx : x < 0 ∨ nI 12 ≤ x) : sm_thr l Ω y_S_put b_S_put 6 (some .int) 7 [.ref (Ω.2.1 + 0), .int x, .int z] X (sm_rf w) eIO := by
  refine sm_introX (own := RX6) (L := [some (.ref (Ω.2.1 + 0)), some (.int x), some (.int z), none, none, none]) (by decide) rfl (by simp [Value.category]) (Nat.le_of_ble_eq_true rfl) rfl ?_
  intro Γ C J
  refine sg_iln (pc := 0) C d_S_put_0 rfl ?_
  refine sg_bi (pc := 1) (v := 12) C d_S_put_1 (by decide) ?_
  exact sm_callSX (pc := 3) (As := [.int x, .int (nI 12)]) C J (x_S_checkIndex l hl Ω hx) cw_S_63 sw_S_checkIndex rfl (by decide) rfl (Nat.le_of_ble_eq_true rfl) d_S_put_3

set_option maxHeartbeats 4000000 in
set_option maxRecDepth 100000 in
theorem x_S_put2 (l : Launch) (hl : l.stackTraces = false) (Ω : sm_Ω) {X : sm_X} {w : Nat → Nat → Nat} {o : Nat} {x : Int32} (ho : o < 12) (hx : x < 0 ∨ nI 240 < x) : sm_thr l Ω y_S_put b_S_put 6 (some .int) 7 [.ref (Ω.2.1 + 0), .int (nI o), .int x] X (sm_rf w) eIA := by
  refine sm_introX (own := RX6) (L := [some (.ref (Ω.2.1 + 0)), some (.int (nI o)), some (.int x), none, none, none]) (by decide) rfl (by simp [Value.category]) (Nat.le_of_ble_eq_true rfl) rfl ?_
  intro Γ C J
  refine sg_iln (pc := 0) C d_S_put_0 rfl ?_
  refine sg_bi (pc := 1) (v := 12) C d_S_put_1 (by decide) ?_
  refine sm_callS (pc := 3) (As := [.int (nI o), .int (nI 12)]) C J (c_S_checkIndex l Ω (by omega) (by decide)) cw_S_63 sw_S_checkIndex rfl (by decide) ⟨by decide, by decide⟩ rfl (Nat.le_of_ble_eq_true rfl) d_S_put_3 (sm_det_v ?_)
  refine sg_iln (pc := 6) C d_S_put_6 rfl ?_
  refine sr_iflt (pc := 7) (tgt := 17) C d_S_put_7 (by decide) (fun h7 => ?_) (fun h7 => ?_)
  · exact sg_throw (pc := 17) C J hl tw_S_67 d_S_put_17 d_S_put_20 d_S_put_21 d_S_put_24 (by decide) rfl (Nat.le_of_ble_eq_true rfl)
  · refine sg_iln (pc := 10) C d_S_put_10 rfl ?_
    refine sg_si (pc := 11) (v := 240) C d_S_put_11 (by decide) ?_
    refine sr_icle (pc := 14) (tgt := 25) C d_S_put_14 (by decide) (fun h14 => hx.elim (fun q => absurd q h7) (fun q => absurd h14 (Int32.not_le.mpr q))) (fun h14 => ?_)
    exact sg_throw (pc := 17) C J hl tw_S_67 d_S_put_17 d_S_put_20 d_S_put_21 d_S_put_24 (by decide) rfl (Nat.le_of_ble_eq_true rfl)

set_option maxHeartbeats 4000000 in
set_option maxRecDepth 100000 in
theorem x_S_put3 (l : Launch) (hl : l.stackTraces = false) (Ω : sm_Ω) {X : sm_X} {w : Nat → Nat → Nat} (hf : swf X w) {o n : Nat} (ho : o < 12) (hn : n ≤ 240) (hst : X (691 + o) 4 ≠ 0) : sm_thr l Ω y_S_put b_S_put 6 (some .int) 7 [.ref (Ω.2.1 + 0), .int (nI o), .int (nI n)] X (sm_rf w) eIS := by
  refine sm_introX (own := RX6) (L := [some (.ref (Ω.2.1 + 0)), some (.int (nI o)), some (.int (nI n)), none, none, none]) (by decide) rfl (by simp [Value.category]) (Nat.le_of_ble_eq_true rfl) rfl ?_
  intro Γ C J
  refine sg_iln (pc := 0) C d_S_put_0 rfl ?_
  refine sg_bi (pc := 1) (v := 12) C d_S_put_1 (by decide) ?_
  refine sm_callS (pc := 3) (As := [.int (nI o), .int (nI 12)]) C J (c_S_checkIndex l Ω (by omega) (by decide)) cw_S_63 sw_S_checkIndex rfl (by decide) ⟨by decide, by decide⟩ rfl (Nat.le_of_ble_eq_true rfl) d_S_put_3 (sm_det_v ?_)
  refine sg_iln (pc := 6) C d_S_put_6 rfl ?_
  refine sr_iflt (pc := 7) (tgt := 17) C d_S_put_7 (by decide) (fun h7 => absurd h7 (nI_pos (by omega))) (fun h7 => ?_)
  refine sg_iln (pc := 10) C d_S_put_10 rfl ?_
  refine sg_si (pc := 11) (v := 240) C d_S_put_11 (by decide) ?_
  refine sg_icle (pc := 14) (tgt := 25) C d_S_put_14 (by decide) (by omega) (by omega) (fun h14 => ?_) (fun h14 => absurd h14 (by omega))
  refine sg_aln (pc := 25) C d_S_put_25 rfl ?_
  refine sg_iln (pc := 26) C d_S_put_26 rfl ?_
  exact sm_callVX (pc := 27) (As := [.int (nI o)]) C J (x_S_checkNotStopped l hl Ω hf ho hst) cw_S_70 iw_S_checkNotStopped (C.1.2.2.2.2 _ (List.mem_cons_of_mem _ se_S_checkNotStopped)) (by omega) rfl rfl rfl rfl (by decide) rfl (Nat.le_of_ble_eq_true rfl) d_S_put_27

set_option maxHeartbeats 4000000 in
set_option maxRecDepth 100000 in
theorem x_S_put4 (l : Launch) (hl : l.stackTraces = false) (Ω : sm_Ω) {X : sm_X} {w : Nat → Nat → Nat} (hf : swf X w) {o n : Nat} (ho : o < 12) (hn : n ≤ 240) (hst : X (691 + o) 4 = 0) (h9 : (sm_n (slv X) 12) < 9) : sm_thr l Ω y_S_put b_S_put 6 (some .int) 7 [.ref (Ω.2.1 + 0), .int (nI o), .int (nI n)] X (sm_rf w) eUO := by
  refine sm_introX (own := RX6) (L := [some (.ref (Ω.2.1 + 0)), some (.int (nI o)), some (.int (nI n)), none, none, none]) (by decide) rfl (by simp [Value.category]) (Nat.le_of_ble_eq_true rfl) rfl ?_
  intro Γ C J
  refine sg_iln (pc := 0) C d_S_put_0 rfl ?_
  refine sg_bi (pc := 1) (v := 12) C d_S_put_1 (by decide) ?_
  refine sm_callS (pc := 3) (As := [.int (nI o), .int (nI 12)]) C J (c_S_checkIndex l Ω (by omega) (by decide)) cw_S_63 sw_S_checkIndex rfl (by decide) ⟨by decide, by decide⟩ rfl (Nat.le_of_ble_eq_true rfl) d_S_put_3 (sm_det_v ?_)
  refine sg_iln (pc := 6) C d_S_put_6 rfl ?_
  refine sr_iflt (pc := 7) (tgt := 17) C d_S_put_7 (by decide) (fun h7 => absurd h7 (nI_pos (by omega))) (fun h7 => ?_)
  refine sg_iln (pc := 10) C d_S_put_10 rfl ?_
  refine sg_si (pc := 11) (v := 240) C d_S_put_11 (by decide) ?_
  refine sg_icle (pc := 14) (tgt := 25) C d_S_put_14 (by decide) (by omega) (by omega) (fun h14 => ?_) (fun h14 => absurd h14 (by omega))
  refine sg_aln (pc := 25) C d_S_put_25 rfl ?_
  refine sg_iln (pc := 26) C d_S_put_26 rfl ?_
  refine sm_callV (pc := 27) (As := [.int (nI o)]) C J (c_S_checkNotStopped l Ω hf ho hst) cw_S_70 iw_S_checkNotStopped (C.1.2.2.2.2 _ (List.mem_cons_of_mem _ se_S_checkNotStopped)) (by omega) rfl rfl rfl rfl (by decide) ⟨by decide, by decide⟩ rfl (Nat.le_of_ble_eq_true rfl) d_S_put_27 (sm_det_v ?_)
  refine sg_aln (pc := 30) C d_S_put_30 rfl ?_
  refine sm_callV (pc := 31) (As := []) C J (c_S_countLive l Ω hf) cw_S_73 iw_S_countLive (C.1.2.2.2.2 _ (List.mem_cons_of_mem _ se_S_countLive)) (by omega) rfl rfl rfl rfl (by decide) ⟨by decide, by decide⟩ rfl (Nat.le_of_ble_eq_true rfl) d_S_put_31 (sm_det_i ?_)
  refine sg_is3 (pc := 34) C d_S_put_34 ?_
  refine sg_iln (pc := 35) C d_S_put_35 rfl ?_
  refine sg_bi (pc := 36) (v := 9) C d_S_put_36 (by decide) ?_
  refine sg_icge (pc := 38) (tgt := 49) C d_S_put_38 (by decide) (by omega) (by omega) (fun h38 => absurd h38 (by omega)) (fun h38 => ?_)
  exact sg_throw (pc := 41) C J hl tw_S_77 d_S_put_41 d_S_put_44 d_S_put_45 d_S_put_48 (by decide) rfl (Nat.le_of_ble_eq_true rfl)

set_option maxHeartbeats 4000000 in
set_option maxRecDepth 100000 in
theorem c_S_settle1 (l : Launch) (Ω : sm_Ω) {X : sm_X} {w : Nat → Nat → Nat} (hf : swf X w) {o : Nat} (ho : o < 12) (hst : X (691 + o) 4 ≠ 0) (hv : (sm_any (shs X w o (X (691 + o) 2)) 12) = true) : sm_met l Ω y_S_settle b_S_settle 4 (some .boolean) 4 723 [.ref (Ω.2.1 + 0), .int (nI o)] X (sm_rf w) (sm_det (some (.int (nI 1))) (sm_up (sm_up (sm_up (sds (stX (stT X w o 12) X w o 12) (stW (stT X w o 12) w o 12) o 12) (691 + o) 0 ((sds (stX (stT X w o 12) X w o 12) (stW (stT X w o 12) w o 12) o 12) (691 + o) 2)) (691 + o) 1 ((sds (stX (stT X w o 12) X w o 12) (stW (stT X w o 12) w o 12) o 12) (691 + o) 3)) (691 + o) 4 0) (sm_rf (stW (stT X w o 12) w o 12))) := by
  refine sm_intro (own := RX6) (L := [some (.ref (Ω.2.1 + 0)), some (.int (nI o)), none, none]) (by decide) rfl (by simp [Value.category]) (Nat.le_of_ble_eq_true rfl) rfl ?_
  intro Γ C I
  have gi := hf.2.2.1 o ho
  have g2 := gi.1 2 (by decide)
  refine sg_iln (pc := 0) C d_S_settle_0 rfl ?_
  refine sg_bi (pc := 1) (v := 12) C d_S_settle_1 (by decide) ?_
  refine sm_callS (pc := 3) (As := [.int (nI o), .int (nI 12)]) C I (c_S_checkIndex l Ω (by omega) (by decide)) cw_S_63 sw_S_checkIndex rfl (by decide) ⟨by decide, by decide⟩ rfl (Nat.le_of_ble_eq_true rfl) d_S_settle_3 (sm_det_v ?_)
  refine sg_aln (pc := 6) C d_S_settle_6 rfl ?_
  refine sg_getr (pc := 7) C fw_S_31 (by omega) rfl rfl rfl d_S_settle_7 ?_
  refine sg_iln (pc := 10) C d_S_settle_10 rfl ?_
  refine sg_aald (pc := 11) (n := 12) (t := 5) C (by omega) rfl (by decide) rfl rfl (by omega) (by decide) (rf_items (by omega)) d_S_settle_11 ?_
  refine sg_as2 (pc := 12) C d_S_settle_12 ?_
  refine sg_aln (pc := 13) C d_S_settle_13 rfl ?_
  refine sg_geti (pc := 14) C fw_S_100 (by omega) (sh_I (by omega)) rfl d_S_settle_14 ?_
  refine sg_ifne (pc := 17) (tgt := 28) C d_S_settle_17 (by decide) (by omega) (fun h17 => ?_) (fun h17 => absurd h17 hst)
  refine sg_aln (pc := 28) C d_S_settle_28 rfl ?_
  refine sg_iln (pc := 29) C d_S_settle_29 rfl ?_
  refine sg_aln (pc := 30) C d_S_settle_30 rfl ?_
  refine sg_geti (pc := 31) C fw_S_97 (by omega) (sh_I (by omega)) rfl d_S_settle_31 ?_
  refine sm_callV (pc := 34) (As := [.int (nI o), .int (nI (X (691 + o) 2))]) C I (c_S_someNodeHasShare l Ω hf ho (by omega)) cw_S_107 iw_S_someNodeHasShare (C.1.2.2.2.2 _ (List.mem_cons_of_mem _ se_S_someNodeHasShare)) (by omega) rfl rfl rfl rfl (by decide) ⟨by decide, by decide⟩ rfl (Nat.le_of_ble_eq_true rfl) d_S_settle_34 (sm_det_i ?_)
  rw [hv]
  change sm_G Γ Ω 723 0 0 (34 + 3) _ (.int (nI 1) :: _) _ _
  refine sg_is3 (pc := 37) C d_S_settle_37 ?_
  refine sg_iln (pc := 38) C d_S_settle_38 rfl ?_
  refine sg_ifeq (pc := 39) (tgt := 49) C d_S_settle_39 (by decide) (by omega) (fun h39 => absurd h39 (by decide)) (fun h39 => ?_)
  refine sg_aln (pc := 42) C d_S_settle_42 rfl ?_
  refine sg_iln (pc := 43) C d_S_settle_43 rfl ?_
  refine sg_bi (pc := 44) (v := 12) C d_S_settle_44 (by decide) ?_
  refine sm_callV (pc := 46) (As := [.int (nI o), .int (nI 12)]) C I (c_S_turnShadows l Ω hf ho (by decide)) cw_S_90 iw_S_turnShadows (C.1.2.2.2.2 _ (List.mem_cons_of_mem _ se_S_turnShadows)) (by omega) rfl rfl rfl rfl (by decide) ⟨by decide, by decide⟩ rfl (Nat.le_of_ble_eq_true rfl) d_S_settle_46 (sm_det_v ?_)
  refine sg_aln (pc := 49) C d_S_settle_49 rfl ?_
  refine sg_iln (pc := 50) C d_S_settle_50 rfl ?_
  refine sm_callV (pc := 51) (As := [.int (nI o)]) C I (c_S_dropShadows l Ω (swf_st hf (Nat.le_refl 12)) ho) cw_S_111 iw_S_dropShadows (C.1.2.2.2.2 _ (List.mem_cons_of_mem _ se_S_dropShadows)) (by omega) rfl rfl rfl rfl (by decide) ⟨by decide, by decide⟩ rfl (Nat.le_of_ble_eq_true rfl) d_S_settle_51 (sm_det_v ?_)
  refine sg_aln (pc := 54) C d_S_settle_54 rfl ?_
  refine sg_iln (pc := 55) C d_S_settle_55 rfl ?_
  refine sm_callV (pc := 56) (As := [.int (nI 1)]) C I (c_I_finish1 l Ω (by omega) (sh_I ho)) cw_S_93 iw_I_finish (C.1.2.2.2.2 _ (List.mem_cons_of_mem _ se_I_finish)) (by omega) (sh_I (by omega)) rfl rfl rfl (by decide) ⟨by decide, by decide⟩ rfl (Nat.le_of_ble_eq_true rfl) d_S_settle_56 (sm_det_v ?_)
  refine sg_iln (pc := 59) C d_S_settle_59 rfl ?_
  exact sg_iret (pc := 60) C I rfl (sn_b (by decide)) d_S_settle_60 ⟨rfl, rfl, rfl⟩

set_option maxHeartbeats 4000000 in
set_option maxRecDepth 100000 in
theorem c_S_settle0 (l : Launch) (Ω : sm_Ω) {X : sm_X} {w : Nat → Nat → Nat} (hf : swf X w) {o : Nat} (ho : o < 12) (hst : X (691 + o) 4 ≠ 0) (hv : (sm_any (shs X w o (X (691 + o) 2)) 12) = false) : sm_met l Ω y_S_settle b_S_settle 4 (some .boolean) 4 723 [.ref (Ω.2.1 + 0), .int (nI o)] X (sm_rf w) (sm_det (some (.int (nI 0))) (sm_up (sds X w o 12) (691 + o) 4 0) (sm_rf w)) := by
  refine sm_intro (own := RX6) (L := [some (.ref (Ω.2.1 + 0)), some (.int (nI o)), none, none]) (by decide) rfl (by simp [Value.category]) (Nat.le_of_ble_eq_true rfl) rfl ?_
  intro Γ C I
  have gi := hf.2.2.1 o ho
  have g2 := gi.1 2 (by decide)
  refine sg_iln (pc := 0) C d_S_settle_0 rfl ?_
  refine sg_bi (pc := 1) (v := 12) C d_S_settle_1 (by decide) ?_
  refine sm_callS (pc := 3) (As := [.int (nI o), .int (nI 12)]) C I (c_S_checkIndex l Ω (by omega) (by decide)) cw_S_63 sw_S_checkIndex rfl (by decide) ⟨by decide, by decide⟩ rfl (Nat.le_of_ble_eq_true rfl) d_S_settle_3 (sm_det_v ?_)
  refine sg_aln (pc := 6) C d_S_settle_6 rfl ?_
  refine sg_getr (pc := 7) C fw_S_31 (by omega) rfl rfl rfl d_S_settle_7 ?_
  refine sg_iln (pc := 10) C d_S_settle_10 rfl ?_
  refine sg_aald (pc := 11) (n := 12) (t := 5) C (by omega) rfl (by decide) rfl rfl (by omega) (by decide) (rf_items (by omega)) d_S_settle_11 ?_
  refine sg_as2 (pc := 12) C d_S_settle_12 ?_
  refine sg_aln (pc := 13) C d_S_settle_13 rfl ?_
  refine sg_geti (pc := 14) C fw_S_100 (by omega) (sh_I (by omega)) rfl d_S_settle_14 ?_
  refine sg_ifne (pc := 17) (tgt := 28) C d_S_settle_17 (by decide) (by omega) (fun h17 => ?_) (fun h17 => absurd h17 hst)
  refine sg_aln (pc := 28) C d_S_settle_28 rfl ?_
  refine sg_iln (pc := 29) C d_S_settle_29 rfl ?_
  refine sg_aln (pc := 30) C d_S_settle_30 rfl ?_
  refine sg_geti (pc := 31) C fw_S_97 (by omega) (sh_I (by omega)) rfl d_S_settle_31 ?_
  refine sm_callV (pc := 34) (As := [.int (nI o), .int (nI (X (691 + o) 2))]) C I (c_S_someNodeHasShare l Ω hf ho (by omega)) cw_S_107 iw_S_someNodeHasShare (C.1.2.2.2.2 _ (List.mem_cons_of_mem _ se_S_someNodeHasShare)) (by omega) rfl rfl rfl rfl (by decide) ⟨by decide, by decide⟩ rfl (Nat.le_of_ble_eq_true rfl) d_S_settle_34 (sm_det_i ?_)
  rw [hv]
  change sm_G Γ Ω 723 0 0 (34 + 3) _ (.int (nI 0) :: _) _ _
  refine sg_is3 (pc := 37) C d_S_settle_37 ?_
  refine sg_iln (pc := 38) C d_S_settle_38 rfl ?_
  refine sg_ifeq (pc := 39) (tgt := 49) C d_S_settle_39 (by decide) (by omega) (fun h39 => ?_) (fun h39 => absurd rfl h39)
  refine sg_aln (pc := 49) C d_S_settle_49 rfl ?_
  refine sg_iln (pc := 50) C d_S_settle_50 rfl ?_
  refine sm_callV (pc := 51) (As := [.int (nI o)]) C I (c_S_dropShadows l Ω hf ho) cw_S_111 iw_S_dropShadows (C.1.2.2.2.2 _ (List.mem_cons_of_mem _ se_S_dropShadows)) (by omega) rfl rfl rfl rfl (by decide) ⟨by decide, by decide⟩ rfl (Nat.le_of_ble_eq_true rfl) d_S_settle_51 (sm_det_v ?_)
  refine sg_aln (pc := 54) C d_S_settle_54 rfl ?_
  refine sg_iln (pc := 55) C d_S_settle_55 rfl ?_
  refine sm_callV (pc := 56) (As := [.int (nI 0)]) C I (c_I_finish0 l Ω (by omega) (sh_I ho)) cw_S_93 iw_I_finish (C.1.2.2.2.2 _ (List.mem_cons_of_mem _ se_I_finish)) (by omega) (sh_I (by omega)) rfl rfl rfl (by decide) ⟨by decide, by decide⟩ rfl (Nat.le_of_ble_eq_true rfl) d_S_settle_56 (sm_det_v ?_)
  refine sg_iln (pc := 59) C d_S_settle_59 rfl ?_
  exact sg_iret (pc := 60) C I rfl (sn_b (by decide)) d_S_settle_60 ⟨rfl, rfl, rfl⟩

set_option maxHeartbeats 4000000 in
set_option maxRecDepth 100000 in
theorem x_S_settle1 (l : Launch) (hl : l.stackTraces = false) (Ω : sm_Ω) {X : sm_X} {w : Nat → Nat → Nat} {x : Int32} (hx : x < 0 ∨ nI 12 ≤ x) : sm_thr l Ω y_S_settle b_S_settle 4 (some .boolean) 7 [.ref (Ω.2.1 + 0), .int x] X (sm_rf w) eIO := by
  refine sm_introX (own := RX6) (L := [some (.ref (Ω.2.1 + 0)), some (.int x), none, none]) (by decide) rfl (by simp [Value.category]) (Nat.le_of_ble_eq_true rfl) rfl ?_
  intro Γ C J
  refine sg_iln (pc := 0) C d_S_settle_0 rfl ?_
  refine sg_bi (pc := 1) (v := 12) C d_S_settle_1 (by decide) ?_
  exact sm_callSX (pc := 3) (As := [.int x, .int (nI 12)]) C J (x_S_checkIndex l hl Ω hx) cw_S_63 sw_S_checkIndex rfl (by decide) rfl (Nat.le_of_ble_eq_true rfl) d_S_settle_3

set_option maxHeartbeats 4000000 in
set_option maxRecDepth 100000 in
theorem x_S_settle2 (l : Launch) (hl : l.stackTraces = false) (Ω : sm_Ω) {X : sm_X} {w : Nat → Nat → Nat} (hf : swf X w) {o : Nat} (ho : o < 12) (hst : X (691 + o) 4 = 0) : sm_thr l Ω y_S_settle b_S_settle 4 (some .boolean) 7 [.ref (Ω.2.1 + 0), .int (nI o)] X (sm_rf w) eIS := by
  refine sm_introX (own := RX6) (L := [some (.ref (Ω.2.1 + 0)), some (.int (nI o)), none, none]) (by decide) rfl (by simp [Value.category]) (Nat.le_of_ble_eq_true rfl) rfl ?_
  intro Γ C J
  refine sg_iln (pc := 0) C d_S_settle_0 rfl ?_
  refine sg_bi (pc := 1) (v := 12) C d_S_settle_1 (by decide) ?_
  refine sm_callS (pc := 3) (As := [.int (nI o), .int (nI 12)]) C J (c_S_checkIndex l Ω (by omega) (by decide)) cw_S_63 sw_S_checkIndex rfl (by decide) ⟨by decide, by decide⟩ rfl (Nat.le_of_ble_eq_true rfl) d_S_settle_3 (sm_det_v ?_)
  refine sg_aln (pc := 6) C d_S_settle_6 rfl ?_
  refine sg_getr (pc := 7) C fw_S_31 (by omega) rfl rfl rfl d_S_settle_7 ?_
  refine sg_iln (pc := 10) C d_S_settle_10 rfl ?_
  refine sg_aald (pc := 11) (n := 12) (t := 5) C (by omega) rfl (by decide) rfl rfl (by omega) (by decide) (rf_items (by omega)) d_S_settle_11 ?_
  refine sg_as2 (pc := 12) C d_S_settle_12 ?_
  refine sg_aln (pc := 13) C d_S_settle_13 rfl ?_
  refine sg_geti (pc := 14) C fw_S_100 (by omega) (sh_I (by omega)) rfl d_S_settle_14 ?_
  refine sg_ifne (pc := 17) (tgt := 28) C d_S_settle_17 (by decide) (by omega) (fun h17 => absurd hst h17) (fun h17 => ?_)
  exact sg_throw (pc := 20) C J hl tw_S_104 d_S_settle_20 d_S_settle_23 d_S_settle_24 d_S_settle_27 (by decide) rfl (Nat.le_of_ble_eq_true rfl)
