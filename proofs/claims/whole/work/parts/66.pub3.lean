/-! get and rebuild -/
theorem mx_con {v : Nat → Nat} (i : Nat) : mx v (8 * (i / 30) + sm_row (i % 30)) (sm_col (i % 30)) = v i := by
  have hm := mx_rc (i % 30) (Nat.mod_lt _ (by decide))
  unfold mx
  rw [show (8 * (i / 30) + sm_row (i % 30)) % 8 = sm_row (i % 30) by omega, hm.2.2.2.1, if_pos (Nat.mod_lt _ (by decide)), show (8 * (i / 30) + sm_row (i % 30)) / 8 = i / 30 by omega]
  congr 1
  omega
def geP (X : sm_X) (v : Nat → Nat) (n : Nat) (Z : sm_X) : Prop := (∀ a j, (a < 6 ∨ 75 < a) → a ≠ 78 → ¬ (a = 0 ∧ j = 8) → Z a j = X a j) ∧ Z 0 8 = n ∧ (∀ i, i < n → Z 78 i = v i) ∧ (∀ r j, r < 64 → 5 ≤ r % 8 → 5 ≤ j → j < 8 → Z (6 + r) j = 0) ∧ ∀ r j, r < 64 → j < 8 → Z (6 + r) j < 256
theorem ge_end {X Z1 Z2 : sm_X} {p : Nat → Bool} {v : Nat → Nat} {n : Nat} (hn : n ≤ 240) (h1 : clP X p Z1) (h2 : dcI Z1 v (8 * ((n + 29) / 30)) 0 Z2) : geP X v n (sm_up (sm_uf Z2 78 (fun j => if j < n then Z2 (6 + (8 * (j / 30) + sm_row (j % 30))) (sm_col (j % 30)) else Z2 78 j)) 0 8 n) := by
  refine ⟨fun a j h3 h4 h5 => ?_, sm_up_s, fun i hi => ?_, fun r j h3 h4 h5 h6 => ?_, fun r j h3 h4 => ?_⟩
  · rw [sm_up_x (by omega), sm_uf_o h4, h2.1 a j (by omega)]
    exact h1.1 a j (by omega) (by omega) (by omega)
  · have hm := mx_rc (i % 30) (Nat.mod_lt _ (by decide))
    rw [sm_up_x (Or.inl (by decide)), sm_uf_s, if_pos hi, h2.2.1 _ _ (Nat.zero_le _) (by omega) hm.2.1]
    exact mx_con i
  · rw [sm_up_x (Or.inl (by omega)), sm_uf_o (by omega)]
    exact h2.2.2.2.1 r j h3 h4 h5 h6
  · rw [sm_up_x (Or.inl (by omega)), sm_uf_o (by omega)]
    exact h2.2.2.2.2 r j h3 h4

set_option maxHeartbeats 4000000 in
set_option maxRecDepth 100000 in
theorem c_S_get (l : Launch) (Ω : sm_Ω) {X : sm_X} {w : Nat → Nat → Nat} (hf : swf X w) {o m : Nat} (ho : o < 12) (hm : m < 4096) (hst : X (691 + o) 4 = 0) (hz0 : 0 < (X (691 + o) 1)) (hG : gal X) (h5 : 5 ≤ sm_n (saf X w o m) 12) {v : Nat → Nat} (hv : ∀ i, v i < 256) (hB : ∀ k, k < 12 → (saf X w o m) k = true → ∀ i, i < (8 * (((X (691 + o) 1) + 29) / 30)) → X (83 + 51 * k + 4 * o + 2 * w k o) i = mx_b v (k + 1) i)
    (hz : ∀ r j, r < 64 → 5 ≤ r % 8 → 5 ≤ j → j < 8 → X (6 + r) j = 0) (hr : ∀ r j, r < 64 → j < 8 → X (6 + r) j < 256) : sm_met l Ω y_S_get b_S_get 5 (some .int) 4 723 [.ref (Ω.2.1 + 0), .int (nI o), .int (nI m)] X (sm_rf w) (fun r Z Y2 => r = some (.int (nI (X (691 + o) 1))) ∧ geP X v (X (691 + o) 1) Z ∧ Y2 = sm_rf w) := by
  refine sm_intro (own := RX6) (L := [some (.ref (Ω.2.1 + 0)), some (.int (nI o)), some (.int (nI m)), none, none]) (by decide) rfl (by simp [Value.category]) (Nat.le_of_ble_eq_true rfl) rfl ?_
  intro Γ C I
  have gi := hf.2.2.1 o ho
  have hkl := sm_k_lt (saf X w o m) 12
  have hpk := pop_k (saf X w o m)
  have hpl := sm_n_le (saf X w o m) 12
  refine sg_iln (pc := 0) C d_S_get_0 rfl ?_
  refine sg_bi (pc := 1) (v := 12) C d_S_get_1 (by decide) ?_
  refine sm_callS (pc := 3) (As := [.int (nI o), .int (nI 12)]) C I (c_S_checkIndex l Ω (by omega) (by decide)) cw_S_63 sw_S_checkIndex rfl (by decide) ⟨by decide, by decide⟩ rfl (Nat.le_of_ble_eq_true rfl) d_S_get_3 (sm_det_v ?_)
  refine sg_iln (pc := 6) C d_S_get_6 rfl ?_
  refine sm_callS (pc := 7) (As := [.int (nI m)]) C I (c_S_checkMask l Ω hm) cw_S_114 sw_S_checkMask rfl (by decide) ⟨by decide, by decide⟩ rfl (Nat.le_of_ble_eq_true rfl) d_S_get_7 (sm_det_v ?_)
  refine sg_aln (pc := 10) C d_S_get_10 rfl ?_
  refine sg_iln (pc := 11) C d_S_get_11 rfl ?_
  refine sm_callV (pc := 12) (As := [.int (nI o)]) C I (c_S_checkNotStopped l Ω hf ho hst) cw_S_70 iw_S_checkNotStopped (C.1.2.2.2.2 _ (List.mem_cons_of_mem _ se_S_checkNotStopped)) (by omega) rfl rfl rfl rfl (by decide) ⟨by decide, by decide⟩ rfl (Nat.le_of_ble_eq_true rfl) d_S_get_12 (sm_det_v ?_)
  refine sg_aln (pc := 15) C d_S_get_15 rfl ?_
  refine sg_getr (pc := 16) C fw_S_31 (by omega) rfl rfl rfl d_S_get_16 ?_
  refine sg_iln (pc := 19) C d_S_get_19 rfl ?_
  refine sg_aald (pc := 20) (n := 12) (t := 5) C (by omega) rfl (by decide) rfl rfl (by omega) (by decide) (rf_items (by omega)) d_S_get_20 ?_
  refine sg_geti (pc := 21) C fw_S_117 (by omega) (sh_I (by omega)) rfl d_S_get_21 ?_
  refine sg_is3 (pc := 24) C d_S_get_24 ?_
  refine sg_iln (pc := 25) C d_S_get_25 rfl ?_
  refine sg_ifne (pc := 26) (tgt := 37) C d_S_get_26 (by decide) (by omega) (fun h26 => ?_) (fun h26 => absurd h26 (by omega))
  refine sg_aln (pc := 37) C d_S_get_37 rfl ?_
  refine sg_iln (pc := 38) C d_S_get_38 rfl ?_
  refine sg_iln (pc := 39) C d_S_get_39 rfl ?_
  refine sm_callV (pc := 40) (As := [.int (nI o), .int (nI m)]) C I (c_S_liveAndFresh l Ω hf ho hm) cw_S_123 iw_S_liveAndFresh (C.1.2.2.2.2 _ (List.mem_cons_of_mem _ se_S_liveAndFresh)) (by omega) rfl rfl rfl rfl (by decide) ⟨by decide, by decide⟩ rfl (Nat.le_of_ble_eq_true rfl) d_S_get_40 (sm_det_i ?_)
  refine sg_is4 (pc := 43) C d_S_get_43 ?_
  refine sg_il (pc := 45) C d_S_get_45 rfl ?_
  refine sm_callS (pc := 47) (As := [.int (nI (sm_k (saf X w o m) 12))]) C I (c_J_bitCount l Ω (by omega)) cw_S_127 sw_J_bitCount rfl (by decide) ⟨by decide, by decide⟩ rfl (Nat.le_of_ble_eq_true rfl) d_S_get_47 (sm_det_i ?_)
  rw [hpk]
  refine sg_ic (pc := 50) (v := 5) C d_S_get_50 (by decide) ?_
  refine sg_icge (pc := 51) (tgt := 62) C d_S_get_51 (by decide) (by omega) (by omega) (fun h51 => ?_) (fun h51 => absurd h51 (by omega))
  refine sg_aln (pc := 62) C d_S_get_62 rfl ?_
  refine sg_il (pc := 63) C d_S_get_63 rfl ?_
  refine sm_callV (pc := 65) (As := [.int (nI (sm_k (saf X w o m) 12))]) C I (c_S_chooseLowest l Ω h5) cw_S_132 iw_S_chooseLowest (C.1.2.2.2.2 _ (List.mem_cons_of_mem _ se_S_chooseLowest)) (by omega) rfl rfl rfl rfl (by decide) ⟨by decide, by decide⟩ rfl (Nat.le_of_ble_eq_true rfl) d_S_get_65 (fun v1 Z1 Y1 hp1 => ?_)
  obtain ⟨rfl, hc1, rfl⟩ := hp1
  change sm_G Γ Ω 723 0 0 (65 + 3) _ [] Z1 (sm_rf w)
  refine sg_aln (pc := 68) C d_S_get_68 rfl ?_
  refine sg_getr (pc := 69) C fw_S_19 (by omega) rfl rfl rfl d_S_get_69 ?_
  refine sg_aln (pc := 72) C d_S_get_72 rfl ?_
  refine sg_getr (pc := 73) C fw_S_12 (by omega) rfl rfl rfl d_S_get_73 ?_
  refine sg_aln (pc := 76) C d_S_get_76 rfl ?_
  refine sg_getr (pc := 77) C fw_S_25 (by omega) rfl rfl rfl d_S_get_77 ?_
  refine sg_iln (pc := 80) C d_S_get_80 rfl ?_
  refine sg_aln (pc := 81) C d_S_get_81 rfl ?_
  refine sg_getr (pc := 82) C fw_S_38 (by omega) rfl rfl rfl d_S_get_82 ?_
  refine sg_iln (pc := 85) C d_S_get_85 rfl ?_
  refine sm_callV (pc := 86) (As := [.ref (Ω.2.1 + 1), .ref (Ω.2.1 + 71), .int (nI o), .ref (Ω.2.1 + 73), .int (nI (X (691 + o) 1))]) C I (c_M_decode l Ω (X := Z1) hf.1 ho hz0 gi.2.2.1 (gal_of hG (fun k => hc1.1 2 k (by omega) (by decide) (by decide)) (fun k => hc1.1 3 k (by omega) (by decide) (by decide))) hv (fun k hk => ⟨(hc1.2.1 k hk).1, (hc1.2.1 k hk).2.2⟩) (fun a b ha hb he => (Nat.lt_trichotomy a b).elim (fun q => by have := hc1.2.2 a b q hb; omega) (fun q => q.elim id (fun q => by have := hc1.2.2 b a q ha; omega))) (fun k hk i hi => by have h9 := hc1.2.1 k hk; have hwk := hf.1 (Z1 74 k) o; rw [hc1.1 _ _ (by omega) (by omega) (by omega)]; exact hB _ h9.1 h9.2.1 i hi) (fun r j h1 h2 h3 h4 => by rw [hc1.1 _ _ (by omega) (by omega) (by omega)]; exact hz r j h1 h2 h3 h4) (fun r j h1 h2 => by rw [hc1.1 _ _ (by omega) (by omega) (by omega)]; exact hr r j h1 h2)) cw_S_135 iw_M_decode (C.1.2.2.2.2 _ (List.mem_cons_of_mem _ se_M_decode)) (by omega) rfl rfl rfl rfl (by decide) ⟨by decide, by decide⟩ rfl (Nat.le_of_ble_eq_true rfl) d_S_get_86 (fun v2 Z2 Y2 hp2 => ?_)
  obtain ⟨rfl, hd2, rfl⟩ := hp2
  change sm_G Γ Ω 723 0 0 (86 + 3) _ [] Z2 (sm_rf w)
  refine sg_aln (pc := 89) C d_S_get_89 rfl ?_
  refine sg_getr (pc := 90) C fw_S_19 (by omega) rfl rfl rfl d_S_get_90 ?_
  refine sg_aln (pc := 93) C d_S_get_93 rfl ?_
  refine sg_getr (pc := 94) C fw_S_49 (by omega) rfl rfl rfl d_S_get_94 ?_
  refine sg_iln (pc := 97) C d_S_get_97 rfl ?_
  refine sm_callV (pc := 98) (As := [.ref (Ω.2.1 + 78), .int (nI (X (691 + o) 1))]) C I (c_M_spill l Ω gi.2.2.1) cw_S_139 iw_M_spill (C.1.2.2.2.2 _ (List.mem_cons_of_mem _ se_M_spill)) (by omega) rfl rfl rfl rfl (by decide) ⟨by decide, by decide⟩ rfl (Nat.le_of_ble_eq_true rfl) d_S_get_98 (sm_det_v ?_)
  refine sg_aln (pc := 101) C d_S_get_101 rfl ?_
  refine sg_iln (pc := 102) C d_S_get_102 rfl ?_
  refine sg_puti (pc := 103) C pw_S_52 (by omega) rfl rfl rfl rfl d_S_get_103 ?_
  refine sg_iln (pc := 106) C d_S_get_106 rfl ?_
  exact sg_iret (pc := 107) C I rfl rfl d_S_get_107 ⟨rfl, ge_end gi.2.2.1 hc1 hd2, rfl⟩

set_option maxHeartbeats 4000000 in
set_option maxRecDepth 100000 in
theorem x_S_get1 (l : Launch) (hl : l.stackTraces = false) (Ω : sm_Ω) {X : sm_X} {w : Nat → Nat → Nat} {x z : Int32} (hx : x < 0 ∨ nI 12 ≤ x) : sm_thr l Ω y_S_get b_S_get 5 (some .int) 7 [.ref (Ω.2.1 + 0), .int x, .int z] X (sm_rf w) eIO := by
  refine sm_introX (own := RX6) (L := [some (.ref (Ω.2.1 + 0)), some (.int x), some (.int z), none, none]) (by decide) rfl (by simp [Value.category]) (Nat.le_of_ble_eq_true rfl) rfl ?_
  intro Γ C J
  refine sg_iln (pc := 0) C d_S_get_0 rfl ?_
  refine sg_bi (pc := 1) (v := 12) C d_S_get_1 (by decide) ?_
  exact sm_callSX (pc := 3) (As := [.int x, .int (nI 12)]) C J (x_S_checkIndex l hl Ω hx) cw_S_63 sw_S_checkIndex rfl (by decide) rfl (Nat.le_of_ble_eq_true rfl) d_S_get_3

set_option maxHeartbeats 4000000 in
set_option maxRecDepth 100000 in
theorem x_S_get2 (l : Launch) (hl : l.stackTraces = false) (Ω : sm_Ω) {X : sm_X} {w : Nat → Nat → Nat} {o : Nat} {x : Int32} (ho : o < 12) (hx : ¬ x &&& (-4096) = 0) : sm_thr l Ω y_S_get b_S_get 5 (some .int) 7 [.ref (Ω.2.1 + 0), .int (nI o), .int x] X (sm_rf w) eIA := by
  refine sm_introX (own := RX6) (L := [some (.ref (Ω.2.1 + 0)), some (.int (nI o)), some (.int x), none, none]) (by decide) rfl (by simp [Value.category]) (Nat.le_of_ble_eq_true rfl) rfl ?_
  intro Γ C J
  refine sg_iln (pc := 0) C d_S_get_0 rfl ?_
  refine sg_bi (pc := 1) (v := 12) C d_S_get_1 (by decide) ?_
  refine sm_callS (pc := 3) (As := [.int (nI o), .int (nI 12)]) C J (c_S_checkIndex l Ω (by omega) (by decide)) cw_S_63 sw_S_checkIndex rfl (by decide) ⟨by decide, by decide⟩ rfl (Nat.le_of_ble_eq_true rfl) d_S_get_3 (sm_det_v ?_)
  refine sg_iln (pc := 6) C d_S_get_6 rfl ?_
  exact sm_callSX (pc := 7) (As := [.int x]) C J (x_S_checkMask l hl Ω hx) cw_S_114 sw_S_checkMask rfl (by decide) rfl (Nat.le_of_ble_eq_true rfl) d_S_get_7

set_option maxHeartbeats 4000000 in
set_option maxRecDepth 100000 in
theorem x_S_get3 (l : Launch) (hl : l.stackTraces = false) (Ω : sm_Ω) {X : sm_X} {w : Nat → Nat → Nat} (hf : swf X w) {o m : Nat} (ho : o < 12) (hm : m < 4096) (hst : X (691 + o) 4 ≠ 0) : sm_thr l Ω y_S_get b_S_get 5 (some .int) 7 [.ref (Ω.2.1 + 0), .int (nI o), .int (nI m)] X (sm_rf w) eIS := by
  refine sm_introX (own := RX6) (L := [some (.ref (Ω.2.1 + 0)), some (.int (nI o)), some (.int (nI m)), none, none]) (by decide) rfl (by simp [Value.category]) (Nat.le_of_ble_eq_true rfl) rfl ?_
  intro Γ C J
  refine sg_iln (pc := 0) C d_S_get_0 rfl ?_
  refine sg_bi (pc := 1) (v := 12) C d_S_get_1 (by decide) ?_
  refine sm_callS (pc := 3) (As := [.int (nI o), .int (nI 12)]) C J (c_S_checkIndex l Ω (by omega) (by decide)) cw_S_63 sw_S_checkIndex rfl (by decide) ⟨by decide, by decide⟩ rfl (Nat.le_of_ble_eq_true rfl) d_S_get_3 (sm_det_v ?_)
  refine sg_iln (pc := 6) C d_S_get_6 rfl ?_
  refine sm_callS (pc := 7) (As := [.int (nI m)]) C J (c_S_checkMask l Ω hm) cw_S_114 sw_S_checkMask rfl (by decide) ⟨by decide, by decide⟩ rfl (Nat.le_of_ble_eq_true rfl) d_S_get_7 (sm_det_v ?_)
  refine sg_aln (pc := 10) C d_S_get_10 rfl ?_
  refine sg_iln (pc := 11) C d_S_get_11 rfl ?_
  exact sm_callVX (pc := 12) (As := [.int (nI o)]) C J (x_S_checkNotStopped l hl Ω hf ho hst) cw_S_70 iw_S_checkNotStopped (C.1.2.2.2.2 _ (List.mem_cons_of_mem _ se_S_checkNotStopped)) (by omega) rfl rfl rfl rfl (by decide) rfl (Nat.le_of_ble_eq_true rfl) d_S_get_12

set_option maxHeartbeats 4000000 in
set_option maxRecDepth 100000 in
theorem x_S_get4 (l : Launch) (hl : l.stackTraces = false) (Ω : sm_Ω) {X : sm_X} {w : Nat → Nat → Nat} (hf : swf X w) {o m : Nat} (ho : o < 12) (hm : m < 4096) (hst : X (691 + o) 4 = 0) (hz0 : (X (691 + o) 1) = 0) : sm_thr l Ω y_S_get b_S_get 5 (some .int) 7 [.ref (Ω.2.1 + 0), .int (nI o), .int (nI m)] X (sm_rf w) eNS := by
  refine sm_introX (own := RX6) (L := [some (.ref (Ω.2.1 + 0)), some (.int (nI o)), some (.int (nI m)), none, none]) (by decide) rfl (by simp [Value.category]) (Nat.le_of_ble_eq_true rfl) rfl ?_
  intro Γ C J
  refine sg_iln (pc := 0) C d_S_get_0 rfl ?_
  refine sg_bi (pc := 1) (v := 12) C d_S_get_1 (by decide) ?_
  refine sm_callS (pc := 3) (As := [.int (nI o), .int (nI 12)]) C J (c_S_checkIndex l Ω (by omega) (by decide)) cw_S_63 sw_S_checkIndex rfl (by decide) ⟨by decide, by decide⟩ rfl (Nat.le_of_ble_eq_true rfl) d_S_get_3 (sm_det_v ?_)
  refine sg_iln (pc := 6) C d_S_get_6 rfl ?_
  refine sm_callS (pc := 7) (As := [.int (nI m)]) C J (c_S_checkMask l Ω hm) cw_S_114 sw_S_checkMask rfl (by decide) ⟨by decide, by decide⟩ rfl (Nat.le_of_ble_eq_true rfl) d_S_get_7 (sm_det_v ?_)
  refine sg_aln (pc := 10) C d_S_get_10 rfl ?_
  refine sg_iln (pc := 11) C d_S_get_11 rfl ?_
  refine sm_callV (pc := 12) (As := [.int (nI o)]) C J (c_S_checkNotStopped l Ω hf ho hst) cw_S_70 iw_S_checkNotStopped (C.1.2.2.2.2 _ (List.mem_cons_of_mem _ se_S_checkNotStopped)) (by omega) rfl rfl rfl rfl (by decide) ⟨by decide, by decide⟩ rfl (Nat.le_of_ble_eq_true rfl) d_S_get_12 (sm_det_v ?_)
  refine sg_aln (pc := 15) C d_S_get_15 rfl ?_
  refine sg_getr (pc := 16) C fw_S_31 (by omega) rfl rfl rfl d_S_get_16 ?_
  refine sg_iln (pc := 19) C d_S_get_19 rfl ?_
  refine sg_aald (pc := 20) (n := 12) (t := 5) C (by omega) rfl (by decide) rfl rfl (by omega) (by decide) (rf_items (by omega)) d_S_get_20 ?_
  refine sg_geti (pc := 21) C fw_S_117 (by omega) (sh_I (by omega)) rfl d_S_get_21 ?_
  refine sg_is3 (pc := 24) C d_S_get_24 ?_
  refine sg_iln (pc := 25) C d_S_get_25 rfl ?_
  refine sg_ifne (pc := 26) (tgt := 37) C d_S_get_26 (by decide) (by omega) (fun h26 => absurd hz0 h26) (fun h26 => ?_)
  exact sg_throw (pc := 29) C J hl tw_S_120 d_S_get_29 d_S_get_32 d_S_get_33 d_S_get_36 (by decide) rfl (Nat.le_of_ble_eq_true rfl)

set_option maxHeartbeats 4000000 in
set_option maxRecDepth 100000 in
theorem x_S_get5 (l : Launch) (hl : l.stackTraces = false) (Ω : sm_Ω) {X : sm_X} {w : Nat → Nat → Nat} (hf : swf X w) {o m : Nat} (ho : o < 12) (hm : m < 4096) (hst : X (691 + o) 4 = 0) (hz0 : 0 < (X (691 + o) 1)) (h5 : sm_n (saf X w o m) 12 < 5) : sm_thr l Ω y_S_get b_S_get 5 (some .int) 7 [.ref (Ω.2.1 + 0), .int (nI o), .int (nI m)] X (sm_rf w) eUO := by
  refine sm_introX (own := RX6) (L := [some (.ref (Ω.2.1 + 0)), some (.int (nI o)), some (.int (nI m)), none, none]) (by decide) rfl (by simp [Value.category]) (Nat.le_of_ble_eq_true rfl) rfl ?_
  intro Γ C J
  have gi := hf.2.2.1 o ho
  have hkl := sm_k_lt (saf X w o m) 12
  have hpk := pop_k (saf X w o m)
  have hpl := sm_n_le (saf X w o m) 12
  refine sg_iln (pc := 0) C d_S_get_0 rfl ?_
  refine sg_bi (pc := 1) (v := 12) C d_S_get_1 (by decide) ?_
  refine sm_callS (pc := 3) (As := [.int (nI o), .int (nI 12)]) C J (c_S_checkIndex l Ω (by omega) (by decide)) cw_S_63 sw_S_checkIndex rfl (by decide) ⟨by decide, by decide⟩ rfl (Nat.le_of_ble_eq_true rfl) d_S_get_3 (sm_det_v ?_)
  refine sg_iln (pc := 6) C d_S_get_6 rfl ?_
  refine sm_callS (pc := 7) (As := [.int (nI m)]) C J (c_S_checkMask l Ω hm) cw_S_114 sw_S_checkMask rfl (by decide) ⟨by decide, by decide⟩ rfl (Nat.le_of_ble_eq_true rfl) d_S_get_7 (sm_det_v ?_)
  refine sg_aln (pc := 10) C d_S_get_10 rfl ?_
  refine sg_iln (pc := 11) C d_S_get_11 rfl ?_
  refine sm_callV (pc := 12) (As := [.int (nI o)]) C J (c_S_checkNotStopped l Ω hf ho hst) cw_S_70 iw_S_checkNotStopped (C.1.2.2.2.2 _ (List.mem_cons_of_mem _ se_S_checkNotStopped)) (by omega) rfl rfl rfl rfl (by decide) ⟨by decide, by decide⟩ rfl (Nat.le_of_ble_eq_true rfl) d_S_get_12 (sm_det_v ?_)
  refine sg_aln (pc := 15) C d_S_get_15 rfl ?_
  refine sg_getr (pc := 16) C fw_S_31 (by omega) rfl rfl rfl d_S_get_16 ?_
  refine sg_iln (pc := 19) C d_S_get_19 rfl ?_
  refine sg_aald (pc := 20) (n := 12) (t := 5) C (by omega) rfl (by decide) rfl rfl (by omega) (by decide) (rf_items (by omega)) d_S_get_20 ?_
  refine sg_geti (pc := 21) C fw_S_117 (by omega) (sh_I (by omega)) rfl d_S_get_21 ?_
  refine sg_is3 (pc := 24) C d_S_get_24 ?_
  refine sg_iln (pc := 25) C d_S_get_25 rfl ?_
  refine sg_ifne (pc := 26) (tgt := 37) C d_S_get_26 (by decide) (by omega) (fun h26 => ?_) (fun h26 => absurd h26 (by omega))
  refine sg_aln (pc := 37) C d_S_get_37 rfl ?_
  refine sg_iln (pc := 38) C d_S_get_38 rfl ?_
  refine sg_iln (pc := 39) C d_S_get_39 rfl ?_
  refine sm_callV (pc := 40) (As := [.int (nI o), .int (nI m)]) C J (c_S_liveAndFresh l Ω hf ho hm) cw_S_123 iw_S_liveAndFresh (C.1.2.2.2.2 _ (List.mem_cons_of_mem _ se_S_liveAndFresh)) (by omega) rfl rfl rfl rfl (by decide) ⟨by decide, by decide⟩ rfl (Nat.le_of_ble_eq_true rfl) d_S_get_40 (sm_det_i ?_)
  refine sg_is4 (pc := 43) C d_S_get_43 ?_
  refine sg_il (pc := 45) C d_S_get_45 rfl ?_
  refine sm_callS (pc := 47) (As := [.int (nI (sm_k (saf X w o m) 12))]) C J (c_J_bitCount l Ω (by omega)) cw_S_127 sw_J_bitCount rfl (by decide) ⟨by decide, by decide⟩ rfl (Nat.le_of_ble_eq_true rfl) d_S_get_47 (sm_det_i ?_)
  rw [hpk]
  refine sg_ic (pc := 50) (v := 5) C d_S_get_50 (by decide) ?_
  refine sg_icge (pc := 51) (tgt := 62) C d_S_get_51 (by decide) (by omega) (by omega) (fun h51 => absurd h51 (by omega)) (fun h51 => ?_)
  exact sg_throw (pc := 54) C J hl tw_S_77 d_S_get_54 d_S_get_57 d_S_get_58 d_S_get_61 (by decide) rfl (Nat.le_of_ble_eq_true rfl)

/-! rebuild: the same choices as functions of the counts of sent bytes -/
def bs (s : Nat → Nat) (p : Nat → Bool) : Nat → Nat
  | 0 => 0
  | k + 1 => if p k = true ∧ (bs s p k = 0 ∨ s k < s (bs s p k - 1)) then k + 1 else bs s p k
theorem bst_bs {X : sm_X} {p : Nat → Bool} : ∀ k, bst X p k = bs (fun n => X (79 + 51 * n) 4) p k
  | 0 => rfl
  | k + 1 => by
    show (if p k = true ∧ (bst X p k = 0 ∨ X (79 + 51 * k) 4 < X (79 + 51 * (bst X p k - 1)) 4) then k + 1 else bst X p k) = _
    rw [bst_bs k]
    rfl
def cQ (s : Nat → Nat) (p : Nat → Bool) : Nat → (Nat → Bool)
  | 0 => p
  | k + 1 => fun j => cQ s p k j && decide (j ≠ bs s (cQ s p k) 12 - 1)
def cN (s : Nat → Nat) (p : Nat → Bool) (k : Nat) : Nat := bs s (cQ s p k) 12 - 1
theorem cP_cQ {X : sm_X} {p : Nat → Bool} : ∀ k, cP X p k = cQ (fun n => X (79 + 51 * n) 4) p k
  | 0 => rfl
  | k + 1 => by
    show (fun j => cP X p k j && decide (j ≠ bst X (cP X p k) 12 - 1)) = _
    rw [cP_cQ k, bst_bs]
    rfl
theorem cM_cN {X : sm_X} {p : Nat → Bool} (k : Nat) : cM X p k = cN (fun n => X (79 + 51 * n) 4) p k := by
  unfold cM cN
  rw [cP_cQ, bst_bs]
theorem bs_le {s : Nat → Nat} {p : Nat → Bool} : ∀ k, bs s p k ≤ k
  | 0 => Nat.le_refl 0
  | k + 1 => by
    have ih := bs_le (s := s) (p := p) k
    show (if p k = true ∧ (bs s p k = 0 ∨ s k < s (bs s p k - 1)) then k + 1 else bs s p k) ≤ k + 1
    split <;> omega
theorem bs_congr {s t : Nat → Nat} {p : Nat → Bool} (h : ∀ n, n < 12 → s n = t n) : ∀ k, k ≤ 12 → bs s p k = bs t p k
  | 0, _ => rfl
  | k + 1, hk => by
    have hb := bs_le (s := t) (p := p) k
    show (if p k = true ∧ (bs s p k = 0 ∨ s k < s (bs s p k - 1)) then k + 1 else bs s p k) = (if p k = true ∧ (bs t p k = 0 ∨ t k < t (bs t p k - 1)) then k + 1 else bs t p k)
    rw [bs_congr h k (by omega), h k (by omega), h (bs t p k - 1) (by omega)]
theorem cQ_congr {s t : Nat → Nat} {p : Nat → Bool} (h : ∀ n, n < 12 → s n = t n) : ∀ k, cQ s p k = cQ t p k
  | 0 => rfl
  | k + 1 => by
    show (fun j => cQ s p k j && decide (j ≠ bs s (cQ s p k) 12 - 1)) = (fun j => cQ t p k j && decide (j ≠ bs t (cQ t p k) 12 - 1))
    rw [cQ_congr h k, bs_congr h 12 (Nat.le_refl 12)]
theorem cN_congr {s t : Nat → Nat} {p : Nat → Bool} (h : ∀ n, n < 12 → s n = t n) (k : Nat) : cN s p k = cN t p k := by
  unfold cN
  rw [cQ_congr h, bs_congr h 12 (Nat.le_refl 12)]
/-- is q among the eight chosen? -/
def chs (s : Nat → Nat) (p : Nat → Bool) (q : Nat) : Bool := sm_any (fun i => decide (cN s p i = q)) 8
/-- the nodes of a mask but one -/
def moff (m n : Nat) : Nat := sm_k (fun j => bitp m j && decide (j ≠ n)) 12
theorem moff_lt (m n : Nat) : moff m n < 4096 := sm_k_lt _ 12
theorem moff_b {m n j : Nat} (h : moff m n / 2 ^ j % 2 = 1) : j < 12 ∧ j ≠ n := by
  have h1 : (moff m n).testBit j = true := by rw [Nat.testBit_eq_decide_div_mod_eq]; exact decide_eq_true h
  unfold moff at h1
  rw [sm_k_tb] at h1
  simp at h1
  exact ⟨h1.1, h1.2.2⟩
def rbs (X : sm_X) (k : Nat) : Nat := (X (691 + k) 1 + 29) / 30
def rS (X : sm_X) (w : Nat → Nat → Nat) (n m : Nat) : Nat → Nat → Nat
  | 0, q => X (79 + 51 * q) 4
  | k + 1, q => rS X w n m k q + (if snr X w n k = true ∧ 0 < X (691 + k) 1 ∧ chs (rS X w n m k) (saf X w k (moff m n)) q = true then rbs X k else 0)
def rT (X : sm_X) (w : Nat → Nat → Nat) (n : Nat) : Nat → Nat
  | 0 => 0
  | k + 1 => rT X w n k + (if snr X w n k = true then 8 * rbs X k else 0)
/-- what rebuilding the objects below k has made of the store -/
def rI (X : sm_X) (w : Nat → Nat → Nat) (v : Nat → Nat → Nat) (n m k : Nat) (Z : sm_X) : Prop :=
  (∀ a j, a ≠ 74 → a ≠ 75 → a ≠ 76 → ¬ (a = 73 ∧ j = 2) → ¬ (j = 4 ∧ ∃ q, q < 12 ∧ a = 79 + 51 * q) → ¬ (∃ p, p < k ∧ snr X w n p = true ∧ (a = 82 + 51 * n + 4 * p + 2 * w n p ∧ j < 2 ∨ a = 83 + 51 * n + 4 * p + 2 * w n p)) → Z a j = X a j) ∧
  (∀ q, q < 12 → Z (79 + 51 * q) 4 = rS X w n m k q) ∧
  ∀ p, p < k → snr X w n p = true → Z (82 + 51 * n + 4 * p + 2 * w n p) 0 = X (691 + p) 0 ∧ Z (82 + 51 * n + 4 * p + 2 * w n p) 1 = X (691 + p) 1 ∧ ∀ i, i < 8 * rbs X p → Z (83 + 51 * n + 4 * p + 2 * w n p) i = mx_b (v p) (n + 1) i
section
variable {X Z : sm_X} {w : Nat → Nat → Nat} {v : Nat → Nat → Nat} {n m k : Nat}
theorem rI_it (hI : rI X w v n m k Z) (hn : n < 12) (hk : k ≤ 12) (hw : ∀ n o, w n o < 2) {p j : Nat} (hp : p < 12) (hj : j < 5) : Z (691 + p) j = X (691 + p) j := hI.1 _ _ (by omega) (by omega) (by omega) (by omega) (by rintro ⟨-, q, hq, e⟩; omega) (by rintro ⟨q, hq, -, e⟩; have := hw n q; omega)
theorem rI_nd (hI : rI X w v n m k Z) (hn : n < 12) (hk : k ≤ 12) (hw : ∀ n o, w n o < 2) {q j : Nat} (hq : q < 12) (hj : j ≠ 4) : Z (79 + 51 * q) j = X (79 + 51 * q) j := hI.1 _ _ (by omega) (by omega) (by omega) (by omega) (by rintro ⟨h, -⟩; exact hj h) (by rintro ⟨p, hp, -, e⟩; have := hw n p; omega)
theorem rI_sh (hI : rI X w v n m k Z) (hn : n < 12) (hk : k ≤ 12) (hw : ∀ n o, w n o < 2) {q p b j : Nat} (hq : q < 12) (hp : p < 12) (hb : b < 2) (h : q ≠ n ∨ k ≤ p ∨ b ≠ w n p) : Z (82 + 51 * q + 4 * p + 2 * b) j = X (82 + 51 * q + 4 * p + 2 * b) j ∧ Z (83 + 51 * q + 4 * p + 2 * b) j = X (83 + 51 * q + 4 * p + 2 * b) j := by
  have hwp := hw n p
  refine ⟨hI.1 _ _ (by omega) (by omega) (by omega) (by omega) (by rintro ⟨-, r, hr, e⟩; omega) ?_, hI.1 _ _ (by omega) (by omega) (by omega) (by omega) (by rintro ⟨-, r, hr, e⟩; omega) ?_⟩
  · rintro ⟨r, hr, -, e⟩
    have hwr := hw n r
    have e1 : q = n ∧ p = r ∧ b = w n r := by omega
    obtain ⟨e2, e3, e4⟩ := e1
    subst e3
    omega
  · rintro ⟨r, hr, -, e⟩
    have hwr := hw n r
    have e1 : q = n ∧ p = r ∧ b = w n r := by omega
    obtain ⟨e2, e3, e4⟩ := e1
    subst e3
    omega
theorem rI_saf (hI : rI X w v n m k Z) (hn : n < 12) (hk : k ≤ 12) (hw : ∀ n o, w n o < 2) {p : Nat} (hp : p < 12) : saf Z w p (moff m n) = saf X w p (moff m n) := by
  funext j
  unfold saf
  by_cases h : moff m n / 2 ^ j % 2 = 1
  · have hj := moff_b h
    have e1 : slv Z j = slv X j := by unfold slv; rw [rI_nd hI hn hk hw hj.1 (by decide)]
    have e2 : sfr Z w j p = sfr X w j p := by unfold sfr; rw [(rI_sh hI hn hk hw hj.1 hp (hw j p) (Or.inl hj.2)).1, rI_it hI hn hk hw hp (by decide)]
    rw [e1, e2]
  · rw [decide_eq_false h, Bool.false_and, Bool.false_and]
theorem rI_snr (hI : rI X w v n m k Z) (hn : n < 12) (hk : k ≤ 12) (hw : ∀ n o, w n o < 2) {p : Nat} (hp : p < 12) (hkp : k ≤ p) : snr Z w n p = snr X w n p := by
  unfold snr sfr
  rw [rI_it hI hn hk hw hp (by decide), rI_it hI hn hk hw hp (by decide), (rI_sh hI hn hk hw hn hp (hw n p) (Or.inr (Or.inl hkp))).1]
theorem rS_le (hf : swf X w) : ∀ k, k ≤ 12 → ∀ q, rS X w n m k q ≤ X (79 + 51 * q) 4 + 8 * k
  | 0, _, q => Nat.le_refl _
  | k + 1, hk, q => by
    have ih := rS_le hf k (by omega) q
    have := (hf.2.2.1 k (by omega)).2.2.1
    show rS X w n m k q + (if snr X w n k = true ∧ 0 < X (691 + k) 1 ∧ chs (rS X w n m k) (saf X w k (moff m n)) q = true then rbs X k else 0) ≤ _
    unfold rbs
    split <;> omega
theorem rT_le (hf : swf X w) : ∀ k, k ≤ 12 → rT X w n k ≤ 64 * k
  | 0, _ => Nat.le_refl _
  | k + 1, hk => by
    have ih := rT_le hf k (by omega)
    have := (hf.2.2.1 k (by omega)).2.2.1
    show rT X w n k + (if snr X w n k = true then 8 * rbs X k else 0) ≤ _
    unfold rbs
    split <;> omega
theorem rI_swf (hI : rI X w v n m k Z) (hf : swf X w) (hn : n < 12) (hk : k ≤ 12) (hs : ∀ q, q < 12 → X (79 + 51 * q) 4 + 96 < 2 ^ 30) : swf Z w := by
  have hw := hf.1
  refine ⟨hw, fun q hq => ?_, fun p hp => ?_, fun q p b hq hp hb => ?_⟩
  · rw [rI_nd hI hn hk hw hq (by decide), rI_nd hI hn hk hw hq (by decide), hI.2.1 q hq]
    have h1 := hf.2.1 q hq
    have h2 := rS_le (n := n) (m := m) hf k hk q
    have h3 := hs q hq
    exact ⟨h1.1, h1.2.1, by omega⟩
  · rw [rI_it hI hn hk hw hp (by decide), rI_it hI hn hk hw hp (by decide), rI_it hI hn hk hw hp (by decide)]
    refine ⟨fun j hj => ?_, (hf.2.2.1 p hp).2⟩
    rw [rI_it hI hn hk hw hp (by omega)]
    exact (hf.2.2.1 p hp).1 j hj
  · by_cases h : q = n ∧ p < k ∧ b = w n p
    · obtain ⟨rfl, hpk, rfl⟩ := h
      by_cases hn2 : snr X w q p = true
      · have h2 := hI.2.2 p hpk hn2
        have h3 := hf.2.2.1 p hp
        rw [h2.1, h2.2.1]
        exact ⟨h3.1 0 (by decide), h3.2.2.1⟩
      · have h4 : ∀ j, Z (82 + 51 * q + 4 * p + 2 * w q p) j = X (82 + 51 * q + 4 * p + 2 * w q p) j := fun j => hI.1 _ _ (by omega) (by omega) (by omega) (by omega) (by rintro ⟨-, r, hr, e⟩; have := hw q p; omega) (by
          rintro ⟨r, hr, hr2, e⟩
          have hwr := hw q r
          have hwp := hw q p
          have e1 : p = r := by omega
          subst e1
          exact hn2 hr2)
        rw [h4, h4]
        exact hf.2.2.2 q p (w q p) hq hp hb
    · rw [(rI_sh hI hn hk hw hq hp hb (by omega)).1, (rI_sh hI hn hk hw hq hp hb (by omega)).1]
      exact hf.2.2.2 q p b hq hp hb
theorem rI_f (hI : rI X w v n m k Z) (h : snr X w n k = false) : rI X w v n m (k + 1) Z := by
  refine ⟨fun a j h1 h2 h3 h4 h5 h6 => hI.1 a j h1 h2 h3 h4 h5 (fun ⟨p, hp, q⟩ => h6 ⟨p, by omega, q⟩), fun q hq => ?_, fun p hp hp2 => ?_⟩
  · show _ = rS X w n m k q + (if snr X w n k = true ∧ _ then _ else 0)
    rw [if_neg (by rw [h]; simp), Nat.add_zero]
    exact hI.2.1 q hq
  · by_cases e : p = k
    · subst e; rw [h] at hp2; cases hp2
    · exact hI.2.2 p (by omega) hp2
theorem rI_0 (hI : rI X w v n m k Z) (hn : n < 12) (hk : k < 12) (hw : ∀ n o, w n o < 2) (h : snr X w n k = true) (hz : X (691 + k) 1 = 0) : rI X w v n m (k + 1) (sm_up (sm_up Z (82 + 51 * n + 4 * k + 2 * w n k) 0 (Z (691 + k) 0)) (82 + 51 * n + 4 * k + 2 * w n k) 1 (Z (691 + k) 1)) := by
  have hwk := hw n k
  refine ⟨fun a j h1 h2 h3 h4 h5 h6 => ?_, fun q hq => ?_, fun p hp hp2 => ?_⟩
  · have h7 : ¬ (a = 82 + 51 * n + 4 * k + 2 * w n k ∧ j < 2) := fun q => h6 ⟨k, by omega, h, Or.inl q⟩
    rw [sm_up_x (by omega), sm_up_x (by omega)]
    exact hI.1 a j h1 h2 h3 h4 h5 (fun ⟨p, hp, q⟩ => h6 ⟨p, by omega, q⟩)
  · rw [sm_up_x (Or.inl (by omega)), sm_up_x (Or.inl (by omega)), hI.2.1 q hq]
    show _ = rS X w n m k q + (if snr X w n k = true ∧ 0 < X (691 + k) 1 ∧ _ then _ else 0)
    rw [if_neg (by omega), Nat.add_zero]
  · by_cases e : p = k
    · subst e
      refine ⟨?_, ?_, fun i hi => absurd hi (by unfold rbs; omega)⟩
      · rw [sm_up_x (Or.inr (by decide)), sm_up_s]
        exact rI_it hI hn (by omega) hw hk (by decide)
      · rw [sm_up_s]
        exact rI_it hI hn (by omega) hw hk (by decide)
    · have hwp := hw n p
      have h8 := hI.2.2 p (by omega) hp2
      rw [sm_up_x (Or.inl (by omega)), sm_up_x (Or.inl (by omega)), sm_up_x (Or.inl (by omega)), sm_up_x (Or.inl (by omega))]
      refine ⟨h8.1, h8.2.1, fun i hi => ?_⟩
      rw [sm_up_x (Or.inl (by omega)), sm_up_x (Or.inl (by omega))]
      exact h8.2.2 i hi
theorem rI_1 {Z2 : sm_X} (hI : rI X w v n m k Z) (hn : n < 12) (hk : k < 12) (hw : ∀ n o, w n o < 2) (h : snr X w n k = true) (hz : 0 < X (691 + k) 1) (h8 : 8 ≤ sm_n (saf X w k (moff m n)) 12)
    (hR : rbI (rbX Z w n k (moff m n)) (v k) n (83 + 51 * n + 4 * k + 2 * w n k) (rbs X k) Z2) : rI X w v n m (k + 1) Z2 := by
  have hwk := hw n k
  have hs := rI_saf hI hn (by omega) hw hk
  have hc : ∀ i, cM Z (saf Z w k (moff m n)) i = cN (rS X w n m k) (saf X w k (moff m n)) i := fun i => by
    rw [cM_cN, hs]
    exact cN_congr (fun q hq => hI.2.1 q hq) i
  have h8z : 8 ≤ sm_n (saf Z w k (moff m n)) 12 := by rw [hs]; exact h8
  have h74 : ∀ i, i < 8 → rbX Z w n k (moff m n) 74 i = cN (rS X w n m k) (saf X w k (moff m n)) i ∧ cN (rS X w n m k) (saf X w k (moff m n)) i < 12 := fun i hi => by
    rw [(rbX_74 hi).1, hc, ← hc]
    exact ⟨rfl, (cM_ok (X := Z) h8z hi).2.1⟩
  refine ⟨fun a j h1 h2 h3 h4 h5 h6 => ?_, fun q hq => ?_, fun p hp hp2 => ?_⟩
  · have h7 : ¬ (a = 82 + 51 * n + 4 * k + 2 * w n k ∧ j < 2) := fun q => h6 ⟨k, by omega, h, Or.inl q⟩
    have h9 : a ≠ 83 + 51 * n + 4 * k + 2 * w n k := fun q => h6 ⟨k, by omega, h, Or.inr q⟩
    rw [hR.1 a j h3 (fun q => h9 q.1) (by rintro ⟨q1, i, hi, e⟩; exact h5 ⟨q1, _, (h74 i hi).2, by rw [← (h74 i hi).1]; exact e⟩), rbX_o h1 h2 h4 h7]
    exact hI.1 a j h1 h2 h3 h4 h5 (fun ⟨p, hp, q⟩ => h6 ⟨p, by omega, q⟩)
  · have eZ : rbX Z w n k (moff m n) (79 + 51 * q) 4 = rS X w n m k q := (rbX_o (by omega) (by omega) (by omega) (by omega)).trans (hI.2.1 q hq)
    show _ = rS X w n m k q + (if snr X w n k = true ∧ 0 < X (691 + k) 1 ∧ chs (rS X w n m k) (saf X w k (moff m n)) q = true then rbs X k else 0)
    by_cases hch : ∃ i, i < 8 ∧ cN (rS X w n m k) (saf X w k (moff m n)) i = q
    · obtain ⟨i, hi, e⟩ := hch
      have h9 := hR.2.1 i hi
      rw [(h74 i hi).1, e, eZ] at h9
      rw [h9, if_pos ⟨h, hz, sm_any_t hi (decide_eq_true e)⟩]
    · have hch2 : chs (rS X w n m k) (saf X w k (moff m n)) q = false := sm_any_f (fun i hi => decide_eq_false (fun e => hch ⟨i, hi, e⟩))
      rw [hch2, if_neg (by simp), Nat.add_zero, hR.1 _ _ (by omega) (by omega) (by rintro ⟨-, i, hi, e⟩; rw [(h74 i hi).1] at e; exact hch ⟨i, hi, by omega⟩)]
      exact eZ
  · by_cases e : p = k
    · subst e
      have hB : ∀ j, j < 2 → Z2 (82 + 51 * n + 4 * p + 2 * w n p) j = rbX Z w n p (moff m n) (82 + 51 * n + 4 * p + 2 * w n p) j := fun j hj => hR.1 _ _ (by omega) (by omega) (by rintro ⟨q1, i, hi, e⟩; omega)
      refine ⟨?_, ?_, hR.2.2⟩
      · rw [hB 0 (by decide)]
        unfold rbX
        rw [sm_up_x (Or.inr (by decide)), sm_up_s]
        exact rI_it hI hn (by omega) hw hk (by decide)
      · rw [hB 1 (by decide)]
        unfold rbX
        rw [sm_up_s]
        exact rI_it hI hn (by omega) hw hk (by decide)
    · have hwp := hw n p
      have h9 := hI.2.2 p (by omega) hp2
      have hB : ∀ a j, (a = 82 + 51 * n + 4 * p + 2 * w n p ∧ j < 2 ∨ a = 83 + 51 * n + 4 * p + 2 * w n p) → Z2 a j = Z a j := fun a j ha => (hR.1 a j (by omega) (by omega) (by rintro ⟨q1, i, hi, e⟩; have := (h74 i hi); omega)).trans (rbX_o (by omega) (by omega) (by omega) (by omega))
      rw [hB _ 0 (Or.inl ⟨rfl, by decide⟩), hB _ 1 (Or.inl ⟨rfl, by decide⟩)]
      refine ⟨h9.1, h9.2.1, fun i hi => ?_⟩
      rw [hB _ i (Or.inr rfl)]
      exact h9.2.2 i hi
end
