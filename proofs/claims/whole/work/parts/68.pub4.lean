/-! rebuild -/
theorem sn_off {m n : Nat} (hm : m < 4096) : nI m &&& (nI (2 ^ n) ^^^ (-1)) = nI (moff m n) := by
  have h := sn_clr (bitp m) n
  rw [mk_self hm] at h
  exact h
theorem saf_n {X : sm_X} {w : Nat → Nat → Nat} {o m n : Nat} : saf X w o (moff m n) n = false := by
  unfold saf
  rw [decide_eq_false (fun h => (moff_b h).2 rfl), Bool.false_and]

set_option maxHeartbeats 4000000 in
set_option maxRecDepth 100000 in
theorem c_S_rebuild (l : Launch) (Ω : sm_Ω) {X : sm_X} {w : Nat → Nat → Nat} (hf : swf X w) {n m : Nat} (hn : n < 12) (hm : m < 4096) (hlv : X (79 + 51 * n) 3 ≠ 0) (hG : gal X) (hs : ∀ q, q < 12 → X (79 + 51 * q) 4 + 96 < 2 ^ 30) (hchk : ∀ k, k < 12 → snr X w n k = true → slh X w k (moff m n) = false) {v : Nat → Nat → Nat} (hv : ∀ k i, v k i < 256)
    (hB : ∀ k, k < 12 → snr X w n k = true → ∀ j, j < 12 → saf X w k (moff m n) j = true → ∀ i, i < 8 * rbs X k → X (83 + 51 * j + 4 * k + 2 * w j k) i = mx_b (v k) (j + 1) i) : sm_met l Ω y_S_rebuild b_S_rebuild 6 (some .int) 5 723 [.ref (Ω.2.1 + 0), .int (nI n), .int (nI m)] X (sm_rf w) (fun r Z Y2 => r = some (.int (nI (rT X w n 12))) ∧ rI X w v n m 12 Z ∧ Y2 = sm_rf w) := by
  refine sm_intro (own := RX6) (L := [some (.ref (Ω.2.1 + 0)), some (.int (nI n)), some (.int (nI m)), none, none, none]) (by decide) rfl (by simp [Value.category]) (Nat.le_of_ble_eq_true rfl) rfl ?_
  intro Γ C I
  have hw := hf.1
  refine sg_iln (pc := 0) C d_S_rebuild_0 rfl ?_
  refine sg_bi (pc := 1) (v := 12) C d_S_rebuild_1 (by decide) ?_
  refine sm_callS (pc := 3) (As := [.int (nI n), .int (nI 12)]) C I (c_S_checkIndex l Ω (by omega) (by decide)) cw_S_63 sw_S_checkIndex rfl (by decide) ⟨by decide, by decide⟩ rfl (Nat.le_of_ble_eq_true rfl) d_S_rebuild_3 (sm_det_v ?_)
  refine sg_iln (pc := 6) C d_S_rebuild_6 rfl ?_
  refine sm_callS (pc := 7) (As := [.int (nI m)]) C I (c_S_checkMask l Ω hm) cw_S_114 sw_S_checkMask rfl (by decide) ⟨by decide, by decide⟩ rfl (Nat.le_of_ble_eq_true rfl) d_S_rebuild_7 (sm_det_v ?_)
  refine sg_aln (pc := 10) C d_S_rebuild_10 rfl ?_
  refine sg_iln (pc := 11) C d_S_rebuild_11 rfl ?_
  refine sm_callV (pc := 12) (As := [.int (nI n)]) C I (c_S_checkLive l Ω hf hn hlv) cw_S_146 iw_S_checkLive (C.1.2.2.2.2 _ (List.mem_cons_of_mem _ se_S_checkLive)) (by omega) rfl rfl rfl rfl (by decide) ⟨by decide, by decide⟩ rfl (Nat.le_of_ble_eq_true rfl) d_S_rebuild_12 (sm_det_v ?_)
  refine sg_iln (pc := 15) C d_S_rebuild_15 rfl ?_
  refine sg_ic (pc := 16) (v := 1) C d_S_rebuild_16 (by decide) ?_
  refine sg_iln (pc := 17) C d_S_rebuild_17 rfl ?_
  refine sr_ishl (pc := 18) C d_S_rebuild_18 (sn_shl n hn) ?_
  refine sg_icm (pc := 19) (v := -1) C d_S_rebuild_19 (by decide) ?_
  refine sr_ixor (pc := 20) C d_S_rebuild_20 rfl ?_
  refine sr_iand (pc := 21) C d_S_rebuild_21 (sn_off hm) ?_
  refine sg_is3 (pc := 22) C d_S_rebuild_22 ?_
  refine sg_ic (pc := 23) (v := 0) C d_S_rebuild_23 (by decide) ?_
  refine sg_is4 (pc := 24) C d_S_rebuild_24 ?_
  have loop1 : ∀ t k z, k + t = 12 → sm_G Γ Ω 723 0 0 26 [some (.ref (Ω.2.1 + 0)), some (.int (nI n)), some (.int (nI m)), some (.int (nI (moff m n))), some (.int (nI k)), z] [] X (sm_rf w) := by
    intro t
    induction t with
    | zero =>
      intro k z hk
      refine sg_il (pc := 26) C d_S_rebuild_26 rfl ?_
      refine sg_bi (pc := 28) (v := 12) C d_S_rebuild_28 (by decide) ?_
      refine sg_icge (pc := 30) (tgt := 67) C d_S_rebuild_30 (by decide) (by omega) (by omega) (fun h30 => ?_) (fun h30 => absurd h30 (by omega))
      refine sg_ic (pc := 67) (v := 0) C d_S_rebuild_67 (by decide) ?_
      refine sg_is4 (pc := 68) C d_S_rebuild_68 ?_
      refine sg_ic (pc := 70) (v := 0) C d_S_rebuild_70 (by decide) ?_
      refine sg_is5 (pc := 71) C d_S_rebuild_71 ?_
      have loop2 : ∀ t k (Z : sm_X), k + t = 12 → rI X w v n m k Z → sm_G Γ Ω 723 0 0 73 [some (.ref (Ω.2.1 + 0)), some (.int (nI n)), some (.int (nI m)), some (.int (nI (moff m n))), some (.int (nI (rT X w n k))), some (.int (nI k))] [] Z (sm_rf w) := by
        intro t
        induction t with
        | zero =>
          intro k Z hk hI
          refine sg_il (pc := 73) C d_S_rebuild_73 rfl ?_
          refine sg_bi (pc := 75) (v := 12) C d_S_rebuild_75 (by decide) ?_
          refine sg_icge (pc := 77) (tgt := 114) C d_S_rebuild_77 (by decide) (by omega) (by omega) (fun h77 => ?_) (fun h77 => absurd h77 (by omega))
          refine sg_il (pc := 114) C d_S_rebuild_114 rfl ?_
          exact sg_iret (pc := 116) C I rfl rfl d_S_rebuild_116 ⟨by rw [show k = 12 by omega], by rw [show k = 12 by omega] at hI; exact hI, rfl⟩
        | succ t ih2 =>
          intro k Z hk hI
          have hb1 := b2_lt (snr X w n k)
          have hsz := rI_swf hI hf hn (by omega) hs
          have hst := rT_le (n := n) hf k (by omega)
          have i0 : ∀ j, j < 5 → Z (691 + k) j = X (691 + k) j := fun j hj => rI_it hI hn (by omega) hw (by omega) hj
          have gi := hf.2.2.1 k (by omega)
          have eT : rT X w n (k + 1) = rT X w n k + (if snr X w n k = true then 8 * rbs X k else 0) := rfl
          have gz : gal Z := gal_of hG (fun j => hI.1 2 j (by decide) (by decide) (by decide) (by omega) (by rintro ⟨-, q, hq, e⟩; omega) (by rintro ⟨q, hq, -, e⟩; omega)) (fun j => hI.1 3 j (by decide) (by decide) (by decide) (by omega) (by rintro ⟨-, q, hq, e⟩; omega) (by rintro ⟨q, hq, -, e⟩; omega))
          refine sg_il (pc := 73) C d_S_rebuild_73 rfl ?_
          refine sg_bi (pc := 75) (v := 12) C d_S_rebuild_75 (by decide) ?_
          refine sg_icge (pc := 77) (tgt := 114) C d_S_rebuild_77 (by decide) (by omega) (by omega) (fun h77 => absurd h77 (by omega)) (fun h77 => ?_)
          refine sg_aln (pc := 80) C d_S_rebuild_80 rfl ?_
          refine sg_iln (pc := 81) C d_S_rebuild_81 rfl ?_
          refine sg_il (pc := 82) C d_S_rebuild_82 rfl ?_
          refine sm_callV (pc := 84) (As := [.int (nI n), .int (nI k)]) C I (c_S_needsRebuild l Ω hsz hn (by omega)) cw_S_155 iw_S_needsRebuild (C.1.2.2.2.2 _ (List.mem_cons_of_mem _ se_S_needsRebuild)) (by omega) rfl rfl rfl rfl (by decide) ⟨by decide, by decide⟩ rfl (Nat.le_of_ble_eq_true rfl) d_S_rebuild_84 (sm_det_i ?_)
          rw [rI_snr hI hn (by omega) hw (by omega) (Nat.le_refl k)]
          refine sg_ifeq (pc := 87) (tgt := 108) C d_S_rebuild_87 (by decide) (by omega) (fun h87 => ?_) (fun h87 => ?_)
          · refine sg_inc5 (pc := 108) (n := 1) C d_S_rebuild_108 (by decide) ?_
            refine sg_goto (pc := 111) (tgt := 73) C d_S_rebuild_111 (by decide) ?_
            have h := ih2 (k + 1) Z (by omega) (rI_f hI (b2_0 h87))
            rw [eT, if_neg (by rw [b2_0 h87]; decide), Nat.add_zero] at h
            exact h
          · rcases Nat.eq_zero_or_pos (X (691 + k) 1) with hz | hz
            · refine sg_il (pc := 90) C d_S_rebuild_90 rfl ?_
              refine sg_aln (pc := 92) C d_S_rebuild_92 rfl ?_
              refine sg_aln (pc := 93) C d_S_rebuild_93 rfl ?_
              refine sg_getr (pc := 94) C fw_S_25 (by omega) rfl rfl rfl d_S_rebuild_94 ?_
              refine sg_iln (pc := 97) C d_S_rebuild_97 rfl ?_
              refine sg_aald (pc := 98) (n := 12) (t := 4) C (by omega) rfl (by decide) rfl rfl (by omega) (by decide) (rf_nodes (by omega)) d_S_rebuild_98 ?_
              refine sg_il (pc := 99) C d_S_rebuild_99 rfl ?_
              refine sg_iln (pc := 101) C d_S_rebuild_101 rfl ?_
              refine sm_callV (pc := 102) (As := [.ref (Ω.2.1 + (79 + 51 * n)), .int (nI k), .int (nI (moff m n))]) C I (c_S_rebuildShare0 l Ω (X := Z) hsz hn (by omega) (by rw [i0 1 (by decide)]; exact hz)) cw_S_161 iw_S_rebuildShare (C.1.2.2.2.2 _ (List.mem_cons_of_mem _ se_S_rebuildShare)) (by omega) rfl rfl rfl rfl (by decide) ⟨by decide, by decide⟩ rfl (Nat.le_of_ble_eq_true rfl) d_S_rebuild_102 (sm_det_i ?_)
              refine sg_add (pc := 105) C d_S_rebuild_105 ?_
              refine sg_is4 (pc := 106) C d_S_rebuild_106 ?_
              refine sg_inc5 (pc := 108) (n := 1) C d_S_rebuild_108 (by decide) ?_
              refine sg_goto (pc := 111) (tgt := 73) C d_S_rebuild_111 (by decide) ?_
              have h := ih2 (k + 1) _ (by omega) (rI_0 hI hn (by omega) hw (b2_1 h87) hz)
              rw [eT, if_pos (b2_1 h87), show 8 * rbs X k = 0 by unfold rbs; omega] at h
              exact h
            · have hs8 := rI_saf hI hn (by omega) hw (show k < 12 by omega)
              have h8 : 8 ≤ sm_n (saf X w k (moff m n)) 12 := by
                have hq := hchk k (by omega) (b2_1 h87)
                unfold slh at hq
                rw [decide_eq_true hz, Bool.true_and, pop_k] at hq
                exact Nat.not_lt.mp (of_decide_eq_false hq)
              refine sg_il (pc := 90) C d_S_rebuild_90 rfl ?_
              refine sg_aln (pc := 92) C d_S_rebuild_92 rfl ?_
              refine sg_aln (pc := 93) C d_S_rebuild_93 rfl ?_
              refine sg_getr (pc := 94) C fw_S_25 (by omega) rfl rfl rfl d_S_rebuild_94 ?_
              refine sg_iln (pc := 97) C d_S_rebuild_97 rfl ?_
              refine sg_aald (pc := 98) (n := 12) (t := 4) C (by omega) rfl (by decide) rfl rfl (by omega) (by decide) (rf_nodes (by omega)) d_S_rebuild_98 ?_
              refine sg_il (pc := 99) C d_S_rebuild_99 rfl ?_
              refine sg_iln (pc := 101) C d_S_rebuild_101 rfl ?_
              refine sm_callV (pc := 102) (As := [.ref (Ω.2.1 + (79 + 51 * n)), .int (nI k), .int (nI (moff m n))]) C I (c_S_rebuildShare1 l Ω (X := Z) hsz hn (by omega) (moff_lt m n) (by rw [i0 1 (by decide)]; exact hz) gz (by rw [hs8]; exact h8) saf_n (v := v k) (hv k) (fun j hj hp i hi => by rw [hs8] at hp; rw [i0 1 (by decide)] at hi; have hb := hp; unfold saf at hb; have hjb := (moff_b (of_decide_eq_true (by simp at hb; exact decide_eq_true hb.1))); rw [(rI_sh hI hn (by omega) hw hj (by omega) (hw j k) (Or.inl hjb.2)).2]; exact hB k (by omega) (b2_1 h87) j hj hp i hi)) cw_S_161 iw_S_rebuildShare (C.1.2.2.2.2 _ (List.mem_cons_of_mem _ se_S_rebuildShare)) (by omega) rfl rfl rfl rfl (by decide) ⟨by decide, by decide⟩ rfl (Nat.le_of_ble_eq_true rfl) d_S_rebuild_102 (fun v1 Z2 Y2 hp1 => ?_)
              obtain ⟨rfl, hR, rfl⟩ := hp1
              rw [i0 1 (by decide)] at hR
              rw [i0 1 (by decide)]
              change sm_G Γ Ω 723 0 0 (102 + 3) _ (.int (nI (8 * rbs X k)) :: .int (nI (rT X w n k)) :: []) Z2 (sm_rf w)
              refine sg_add (pc := 105) C d_S_rebuild_105 ?_
              refine sg_is4 (pc := 106) C d_S_rebuild_106 ?_
              refine sg_inc5 (pc := 108) (n := 1) C d_S_rebuild_108 (by decide) ?_
              refine sg_goto (pc := 111) (tgt := 73) C d_S_rebuild_111 (by decide) ?_
              have h := ih2 (k + 1) Z2 (by omega) (rI_1 hI hn (by omega) hw (b2_1 h87) hz h8 hR)
              rw [eT, if_pos (b2_1 h87)] at h
              exact h
      exact loop2 12 0 X (by omega) ⟨fun _ _ _ _ _ _ _ _ => rfl, fun _ _ => rfl, fun p hp _ => absurd hp (Nat.not_lt_zero p)⟩
    | succ t ih1 =>
      intro k z hk
      have hb1 := b2_lt (snr X w n k)
      have hb2 := b2_lt (slh X w k (moff m n))
      refine sg_il (pc := 26) C d_S_rebuild_26 rfl ?_
      refine sg_bi (pc := 28) (v := 12) C d_S_rebuild_28 (by decide) ?_
      refine sg_icge (pc := 30) (tgt := 67) C d_S_rebuild_30 (by decide) (by omega) (by omega) (fun h30 => absurd h30 (by omega)) (fun h30 => ?_)
      refine sg_aln (pc := 33) C d_S_rebuild_33 rfl ?_
      refine sg_iln (pc := 34) C d_S_rebuild_34 rfl ?_
      refine sg_il (pc := 35) C d_S_rebuild_35 rfl ?_
      refine sm_callV (pc := 37) (As := [.int (nI n), .int (nI k)]) C I (c_S_needsRebuild l Ω hf hn (by omega)) cw_S_155 iw_S_needsRebuild (C.1.2.2.2.2 _ (List.mem_cons_of_mem _ se_S_needsRebuild)) (by omega) rfl rfl rfl rfl (by decide) ⟨by decide, by decide⟩ rfl (Nat.le_of_ble_eq_true rfl) d_S_rebuild_37 (sm_det_i ?_)
      refine sg_ifeq (pc := 40) (tgt := 61) C d_S_rebuild_40 (by decide) (by omega) (fun h40 => ?_) (fun h40 => ?_)
      · refine sg_inc4 (pc := 61) (n := 1) C d_S_rebuild_61 (by decide) ?_
        refine sg_goto (pc := 64) (tgt := 26) C d_S_rebuild_64 (by decide) ?_
        exact ih1 (k + 1) _ (by omega)
      · refine sg_aln (pc := 43) C d_S_rebuild_43 rfl ?_
        refine sg_il (pc := 44) C d_S_rebuild_44 rfl ?_
        refine sg_iln (pc := 46) C d_S_rebuild_46 rfl ?_
        refine sm_callV (pc := 47) (As := [.int (nI k), .int (nI (moff m n))]) C I (c_S_lacksHelpers l Ω hf (by omega) (moff_lt m n)) cw_S_158 iw_S_lacksHelpers (C.1.2.2.2.2 _ (List.mem_cons_of_mem _ se_S_lacksHelpers)) (by omega) rfl rfl rfl rfl (by decide) ⟨by decide, by decide⟩ rfl (Nat.le_of_ble_eq_true rfl) d_S_rebuild_47 (sm_det_i ?_)
        refine sg_ifeq (pc := 50) (tgt := 61) C d_S_rebuild_50 (by decide) (by omega) (fun h50 => ?_) (fun h50 => absurd (b2_1 h50) (by rw [hchk k (by omega) (b2_1 h40)]; decide))
        refine sg_inc4 (pc := 61) (n := 1) C d_S_rebuild_61 (by decide) ?_
        refine sg_goto (pc := 64) (tgt := 26) C d_S_rebuild_64 (by decide) ?_
        exact ih1 (k + 1) _ (by omega)
  exact loop1 12 0 _ (by omega)

set_option maxHeartbeats 4000000 in
set_option maxRecDepth 100000 in
theorem x_S_rebuild1 (l : Launch) (hl : l.stackTraces = false) (Ω : sm_Ω) {X : sm_X} {w : Nat → Nat → Nat} {x z : Int32} (hx : x < 0 ∨ nI 12 ≤ x) : sm_thr l Ω y_S_rebuild b_S_rebuild 6 (some .int) 7 [.ref (Ω.2.1 + 0), .int x, .int z] X (sm_rf w) eIO := by
  refine sm_introX (own := RX6) (L := [some (.ref (Ω.2.1 + 0)), some (.int x), some (.int z), none, none, none]) (by decide) rfl (by simp [Value.category]) (Nat.le_of_ble_eq_true rfl) rfl ?_
  intro Γ C J
  refine sg_iln (pc := 0) C d_S_rebuild_0 rfl ?_
  refine sg_bi (pc := 1) (v := 12) C d_S_rebuild_1 (by decide) ?_
  exact sm_callSX (pc := 3) (As := [.int x, .int (nI 12)]) C J (x_S_checkIndex l hl Ω hx) cw_S_63 sw_S_checkIndex rfl (by decide) rfl (Nat.le_of_ble_eq_true rfl) d_S_rebuild_3

set_option maxHeartbeats 4000000 in
set_option maxRecDepth 100000 in
theorem x_S_rebuild2 (l : Launch) (hl : l.stackTraces = false) (Ω : sm_Ω) {X : sm_X} {w : Nat → Nat → Nat} {n : Nat} {x : Int32} (hn : n < 12) (hx : ¬ x &&& (-4096) = 0) : sm_thr l Ω y_S_rebuild b_S_rebuild 6 (some .int) 7 [.ref (Ω.2.1 + 0), .int (nI n), .int x] X (sm_rf w) eIA := by
  refine sm_introX (own := RX6) (L := [some (.ref (Ω.2.1 + 0)), some (.int (nI n)), some (.int x), none, none, none]) (by decide) rfl (by simp [Value.category]) (Nat.le_of_ble_eq_true rfl) rfl ?_
  intro Γ C J
  refine sg_iln (pc := 0) C d_S_rebuild_0 rfl ?_
  refine sg_bi (pc := 1) (v := 12) C d_S_rebuild_1 (by decide) ?_
  refine sm_callS (pc := 3) (As := [.int (nI n), .int (nI 12)]) C J (c_S_checkIndex l Ω (by omega) (by decide)) cw_S_63 sw_S_checkIndex rfl (by decide) ⟨by decide, by decide⟩ rfl (Nat.le_of_ble_eq_true rfl) d_S_rebuild_3 (sm_det_v ?_)
  refine sg_iln (pc := 6) C d_S_rebuild_6 rfl ?_
  exact sm_callSX (pc := 7) (As := [.int x]) C J (x_S_checkMask l hl Ω hx) cw_S_114 sw_S_checkMask rfl (by decide) rfl (Nat.le_of_ble_eq_true rfl) d_S_rebuild_7

set_option maxHeartbeats 4000000 in
set_option maxRecDepth 100000 in
theorem x_S_rebuild3 (l : Launch) (hl : l.stackTraces = false) (Ω : sm_Ω) {X : sm_X} {w : Nat → Nat → Nat} (hf : swf X w) {n m : Nat} (hn : n < 12) (hm : m < 4096) (hlv : X (79 + 51 * n) 3 = 0) : sm_thr l Ω y_S_rebuild b_S_rebuild 6 (some .int) 7 [.ref (Ω.2.1 + 0), .int (nI n), .int (nI m)] X (sm_rf w) eIS := by
  refine sm_introX (own := RX6) (L := [some (.ref (Ω.2.1 + 0)), some (.int (nI n)), some (.int (nI m)), none, none, none]) (by decide) rfl (by simp [Value.category]) (Nat.le_of_ble_eq_true rfl) rfl ?_
  intro Γ C J
  refine sg_iln (pc := 0) C d_S_rebuild_0 rfl ?_
  refine sg_bi (pc := 1) (v := 12) C d_S_rebuild_1 (by decide) ?_
  refine sm_callS (pc := 3) (As := [.int (nI n), .int (nI 12)]) C J (c_S_checkIndex l Ω (by omega) (by decide)) cw_S_63 sw_S_checkIndex rfl (by decide) ⟨by decide, by decide⟩ rfl (Nat.le_of_ble_eq_true rfl) d_S_rebuild_3 (sm_det_v ?_)
  refine sg_iln (pc := 6) C d_S_rebuild_6 rfl ?_
  refine sm_callS (pc := 7) (As := [.int (nI m)]) C J (c_S_checkMask l Ω hm) cw_S_114 sw_S_checkMask rfl (by decide) ⟨by decide, by decide⟩ rfl (Nat.le_of_ble_eq_true rfl) d_S_rebuild_7 (sm_det_v ?_)
  refine sg_aln (pc := 10) C d_S_rebuild_10 rfl ?_
  refine sg_iln (pc := 11) C d_S_rebuild_11 rfl ?_
  exact sm_callVX (pc := 12) (As := [.int (nI n)]) C J (x_S_checkLive l hl Ω hf hn hlv) cw_S_146 iw_S_checkLive (C.1.2.2.2.2 _ (List.mem_cons_of_mem _ se_S_checkLive)) (by omega) rfl rfl rfl rfl (by decide) rfl (Nat.le_of_ble_eq_true rfl) d_S_rebuild_12

set_option maxHeartbeats 4000000 in
set_option maxRecDepth 100000 in
theorem x_S_rebuild4 (l : Launch) (hl : l.stackTraces = false) (Ω : sm_Ω) {X : sm_X} {w : Nat → Nat → Nat} (hf : swf X w) {n m : Nat} (hn : n < 12) (hm : m < 4096) (hlv : X (79 + 51 * n) 3 ≠ 0) (hbad : ∃ k, k < 12 ∧ snr X w n k = true ∧ slh X w k (moff m n) = true) : sm_thr l Ω y_S_rebuild b_S_rebuild 6 (some .int) 7 [.ref (Ω.2.1 + 0), .int (nI n), .int (nI m)] X (sm_rf w) eUO := by
  refine sm_introX (own := RX6) (L := [some (.ref (Ω.2.1 + 0)), some (.int (nI n)), some (.int (nI m)), none, none, none]) (by decide) rfl (by simp [Value.category]) (Nat.le_of_ble_eq_true rfl) rfl ?_
  intro Γ C J
  refine sg_iln (pc := 0) C d_S_rebuild_0 rfl ?_
  refine sg_bi (pc := 1) (v := 12) C d_S_rebuild_1 (by decide) ?_
  refine sm_callS (pc := 3) (As := [.int (nI n), .int (nI 12)]) C J (c_S_checkIndex l Ω (by omega) (by decide)) cw_S_63 sw_S_checkIndex rfl (by decide) ⟨by decide, by decide⟩ rfl (Nat.le_of_ble_eq_true rfl) d_S_rebuild_3 (sm_det_v ?_)
  refine sg_iln (pc := 6) C d_S_rebuild_6 rfl ?_
  refine sm_callS (pc := 7) (As := [.int (nI m)]) C J (c_S_checkMask l Ω hm) cw_S_114 sw_S_checkMask rfl (by decide) ⟨by decide, by decide⟩ rfl (Nat.le_of_ble_eq_true rfl) d_S_rebuild_7 (sm_det_v ?_)
  refine sg_aln (pc := 10) C d_S_rebuild_10 rfl ?_
  refine sg_iln (pc := 11) C d_S_rebuild_11 rfl ?_
  refine sm_callV (pc := 12) (As := [.int (nI n)]) C J (c_S_checkLive l Ω hf hn hlv) cw_S_146 iw_S_checkLive (C.1.2.2.2.2 _ (List.mem_cons_of_mem _ se_S_checkLive)) (by omega) rfl rfl rfl rfl (by decide) ⟨by decide, by decide⟩ rfl (Nat.le_of_ble_eq_true rfl) d_S_rebuild_12 (sm_det_v ?_)
  refine sg_iln (pc := 15) C d_S_rebuild_15 rfl ?_
  refine sg_ic (pc := 16) (v := 1) C d_S_rebuild_16 (by decide) ?_
  refine sg_iln (pc := 17) C d_S_rebuild_17 rfl ?_
  refine sr_ishl (pc := 18) C d_S_rebuild_18 (sn_shl n hn) ?_
  refine sg_icm (pc := 19) (v := -1) C d_S_rebuild_19 (by decide) ?_
  refine sr_ixor (pc := 20) C d_S_rebuild_20 rfl ?_
  refine sr_iand (pc := 21) C d_S_rebuild_21 (sn_off hm) ?_
  refine sg_is3 (pc := 22) C d_S_rebuild_22 ?_
  refine sg_ic (pc := 23) (v := 0) C d_S_rebuild_23 (by decide) ?_
  refine sg_is4 (pc := 24) C d_S_rebuild_24 ?_
  have loop1 : ∀ t k z, k + t = 12 → (∀ j, j < k → ¬ (snr X w n j = true ∧ slh X w j (moff m n) = true)) → sm_G Γ Ω 723 0 0 26 [some (.ref (Ω.2.1 + 0)), some (.int (nI n)), some (.int (nI m)), some (.int (nI (moff m n))), some (.int (nI k)), z] [] X (sm_rf w) := by
    intro t
    induction t with
    | zero =>
      intro k z hk hall
      exact (hbad.elim (fun j hj => absurd hj.2 (hall j (by omega))))
    | succ t ih1 =>
      intro k z hk hall
      have hb1 := b2_lt (snr X w n k)
      have hb2 := b2_lt (slh X w k (moff m n))
      refine sg_il (pc := 26) C d_S_rebuild_26 rfl ?_
      refine sg_bi (pc := 28) (v := 12) C d_S_rebuild_28 (by decide) ?_
      refine sg_icge (pc := 30) (tgt := 67) C d_S_rebuild_30 (by decide) (by omega) (by omega) (fun h30 => absurd h30 (by omega)) (fun h30 => ?_)
      refine sg_aln (pc := 33) C d_S_rebuild_33 rfl ?_
      refine sg_iln (pc := 34) C d_S_rebuild_34 rfl ?_
      refine sg_il (pc := 35) C d_S_rebuild_35 rfl ?_
      refine sm_callV (pc := 37) (As := [.int (nI n), .int (nI k)]) C J (c_S_needsRebuild l Ω hf hn (by omega)) cw_S_155 iw_S_needsRebuild (C.1.2.2.2.2 _ (List.mem_cons_of_mem _ se_S_needsRebuild)) (by omega) rfl rfl rfl rfl (by decide) ⟨by decide, by decide⟩ rfl (Nat.le_of_ble_eq_true rfl) d_S_rebuild_37 (sm_det_i ?_)
      refine sg_ifeq (pc := 40) (tgt := 61) C d_S_rebuild_40 (by decide) (by omega) (fun h40 => ?_) (fun h40 => ?_)
      · refine sg_inc4 (pc := 61) (n := 1) C d_S_rebuild_61 (by decide) ?_
        refine sg_goto (pc := 64) (tgt := 26) C d_S_rebuild_64 (by decide) ?_
        exact ih1 (k + 1) _ (by omega) (fun j hj => (by omega : j < k ∨ j = k).elim (hall j) (fun e => by rw [e, b2_0 h40]; simp))
      · refine sg_aln (pc := 43) C d_S_rebuild_43 rfl ?_
        refine sg_il (pc := 44) C d_S_rebuild_44 rfl ?_
        refine sg_iln (pc := 46) C d_S_rebuild_46 rfl ?_
        refine sm_callV (pc := 47) (As := [.int (nI k), .int (nI (moff m n))]) C J (c_S_lacksHelpers l Ω hf (by omega) (moff_lt m n)) cw_S_158 iw_S_lacksHelpers (C.1.2.2.2.2 _ (List.mem_cons_of_mem _ se_S_lacksHelpers)) (by omega) rfl rfl rfl rfl (by decide) ⟨by decide, by decide⟩ rfl (Nat.le_of_ble_eq_true rfl) d_S_rebuild_47 (sm_det_i ?_)
        refine sg_ifeq (pc := 50) (tgt := 61) C d_S_rebuild_50 (by decide) (by omega) (fun h50 => ?_) (fun h50 => ?_)
        · refine sg_inc4 (pc := 61) (n := 1) C d_S_rebuild_61 (by decide) ?_
          refine sg_goto (pc := 64) (tgt := 26) C d_S_rebuild_64 (by decide) ?_
          exact ih1 (k + 1) _ (by omega) (fun j hj => (by omega : j < k ∨ j = k).elim (hall j) (fun e => by rw [e, b2_0 h50]; simp))
        · exact sg_throw (pc := 53) C J hl tw_S_77 d_S_rebuild_53 d_S_rebuild_56 d_S_rebuild_57 d_S_rebuild_60 (by decide) rfl (Nat.le_of_ble_eq_true rfl)
  exact loop1 12 0 _ (by omega) (fun j hj => absurd hj (Nat.not_lt_zero j))
