/-! Checks, and the public methods that need no more than them -/
theorem sn_mask00 : (List.range 64).all (fun a => (List.range 64).all (fun b => decide ((64 * a + b) &&& 4294963200 = 0))) = true := by decide +kernel
theorem sn_mask0 {m : Nat} (h : m < 4096) : nI m &&& (-4096) = 0 := by
  have h1 := List.all_eq_true.mp sn_mask00 (m / 64) (List.mem_range.mpr (by omega))
  have h2 := of_decide_eq_true (List.all_eq_true.mp h1 (m % 64) (List.mem_range.mpr (by omega)))
  rw [show 64 * (m / 64) + m % 64 = m by omega] at h2
  rw [show (-4096 : Int32) = nI 4294963200 from by decide, nx_and, h2]
  rfl
theorem sn_all (x : Int32) : x = nI x.toBitVec.toNat := by
  apply Int32.toBitVec_inj.1
  show x.toBitVec = BitVec.ofNat 32 x.toBitVec.toNat
  simp
theorem sn_inj32 {a b : Nat} (ha : a < 2 ^ 32) (hb : b < 2 ^ 32) (h : nI a = nI b) : a = b := by
  have h1 := pk_tn ha
  have h2 := pk_tn hb
  rw [h] at h1
  omega
theorem sn_mask {x : Int32} (h : x &&& (-4096) = 0) : ∃ m, m < 4096 ∧ x = nI m := by
  have hx := sn_all x
  have hlt : x.toBitVec.toNat < 2 ^ 32 := x.toBitVec.isLt
  generalize x.toBitVec.toNat = n at hx hlt
  subst hx
  rw [show (-4096 : Int32) = nI 4294963200 from by decide, nx_and] at h
  have h0 : n &&& 4294963200 = 0 := sn_inj32 (Nat.lt_of_le_of_lt Nat.and_le_left hlt) (by decide) h
  have h1 : (n &&& 4294963200) >>> 12 = n >>> 12 &&& 4294963200 >>> 12 := Nat.shiftRight_and_distrib
  rw [h0, show 4294963200 >>> 12 = 2 ^ 20 - 1 from rfl, Nat.and_two_pow_sub_one_eq_mod, Nat.shiftRight_eq_div_pow, Nat.shiftRight_eq_div_pow, Nat.zero_div, Nat.mod_eq_of_lt (by omega)] at h1
  exact ⟨n, by omega, rfl⟩

set_option maxHeartbeats 4000000 in
set_option maxRecDepth 100000 in
theorem c_S_checkIndex (l : Launch) (Ω : sm_Ω) {X : sm_X} {w : Nat → Nat → Nat} {i n : Nat} (hi : i < n) (hn : n < 2 ^ 31) : sm_met l Ω y_S_checkIndex b_S_checkIndex 2 none 1 723 [.int (nI i), .int (nI n)] X (sm_rf w) (sm_det none X (sm_rf w)) := by
  refine sm_intro (own := RX6) (L := [some (.int (nI i)), some (.int (nI n))]) (by decide) rfl (by simp [Value.category]) (Nat.le_of_ble_eq_true rfl) rfl ?_
  intro Γ C I
  refine sg_iln (pc := 0) C d_S_checkIndex_0 rfl ?_
  refine sr_iflt (pc := 1) (tgt := 9) C d_S_checkIndex_1 (by decide) (fun h1 => absurd h1 (nI_pos (by omega))) (fun h1 => ?_)
  refine sg_iln (pc := 4) C d_S_checkIndex_4 rfl ?_
  refine sg_iln (pc := 5) C d_S_checkIndex_5 rfl ?_
  refine sg_iclt (pc := 6) (tgt := 17) C d_S_checkIndex_6 (by decide) (by omega) (by omega) (fun h6 => ?_) (fun h6 => absurd h6 (by omega))
  exact sg_vret (pc := 17) C I rfl d_S_checkIndex_17 ⟨rfl, rfl, rfl⟩

set_option maxHeartbeats 4000000 in
set_option maxRecDepth 100000 in
theorem x_S_checkIndex (l : Launch) (hl : l.stackTraces = false) (Ω : sm_Ω) {X : sm_X} {w : Nat → Nat → Nat} {x : Int32} {n : Nat} (hx : x < 0 ∨ nI n ≤ x) : sm_thr l Ω y_S_checkIndex b_S_checkIndex 2 none 6 [.int x, .int (nI n)] X (sm_rf w) eIO := by
  refine sm_introX (own := RX6) (L := [some (.int x), some (.int (nI n))]) (by decide) rfl (by simp [Value.category]) (Nat.le_of_ble_eq_true rfl) rfl ?_
  intro Γ C J
  refine sg_iln (pc := 0) C d_S_checkIndex_0 rfl ?_
  refine sr_iflt (pc := 1) (tgt := 9) C d_S_checkIndex_1 (by decide) (fun h1 => ?_) (fun h1 => ?_)
  · exact sg_throw (pc := 9) C J hl tw_S_200 d_S_checkIndex_9 d_S_checkIndex_12 d_S_checkIndex_13 d_S_checkIndex_16 (by decide) rfl (Nat.le_of_ble_eq_true rfl)
  · refine sg_iln (pc := 4) C d_S_checkIndex_4 rfl ?_
    refine sg_iln (pc := 5) C d_S_checkIndex_5 rfl ?_
    refine sr_iclt (pc := 6) (tgt := 17) C d_S_checkIndex_6 (by decide) (fun h6 => hx.elim (fun q => absurd q h1) (fun q => absurd h6 (Int32.not_lt.mpr q))) (fun h6 => ?_)
    exact sg_throw (pc := 9) C J hl tw_S_200 d_S_checkIndex_9 d_S_checkIndex_12 d_S_checkIndex_13 d_S_checkIndex_16 (by decide) rfl (Nat.le_of_ble_eq_true rfl)

set_option maxHeartbeats 4000000 in
set_option maxRecDepth 100000 in
theorem c_S_checkMask (l : Launch) (Ω : sm_Ω) {X : sm_X} {w : Nat → Nat → Nat} {m : Nat} (hm : m < 4096) : sm_met l Ω y_S_checkMask b_S_checkMask 1 none 1 723 [.int (nI m)] X (sm_rf w) (sm_det none X (sm_rf w)) := by
  refine sm_intro (own := RX6) (L := [some (.int (nI m))]) (by decide) rfl (by simp [Value.category]) (Nat.le_of_ble_eq_true rfl) rfl ?_
  intro Γ C I
  refine sg_iln (pc := 0) C d_S_checkMask_0 rfl ?_
  refine sg_sim (pc := 1) (v := -4096) C d_S_checkMask_1 (by decide) ?_
  refine sr_iand (pc := 4) C d_S_checkMask_4 rfl ?_
  refine sr_ifeq (pc := 5) (tgt := 16) C d_S_checkMask_5 (by decide) (fun h5 => ?_) (fun h5 => absurd (sn_mask0 hm) h5)
  exact sg_vret (pc := 16) C I rfl d_S_checkMask_16 ⟨rfl, rfl, rfl⟩

set_option maxHeartbeats 4000000 in
set_option maxRecDepth 100000 in
theorem x_S_checkMask (l : Launch) (hl : l.stackTraces = false) (Ω : sm_Ω) {X : sm_X} {w : Nat → Nat → Nat} {x : Int32} (hx : ¬ x &&& (-4096) = 0) : sm_thr l Ω y_S_checkMask b_S_checkMask 1 none 6 [.int x] X (sm_rf w) eIA := by
  refine sm_introX (own := RX6) (L := [some (.int x)]) (by decide) rfl (by simp [Value.category]) (Nat.le_of_ble_eq_true rfl) rfl ?_
  intro Γ C J
  refine sg_iln (pc := 0) C d_S_checkMask_0 rfl ?_
  refine sg_sim (pc := 1) (v := -4096) C d_S_checkMask_1 (by decide) ?_
  refine sr_iand (pc := 4) C d_S_checkMask_4 rfl ?_
  refine sr_ifeq (pc := 5) (tgt := 16) C d_S_checkMask_5 (by decide) (fun h5 => absurd h5 hx) (fun h5 => ?_)
  exact sg_throw (pc := 8) C J hl tw_S_67 d_S_checkMask_8 d_S_checkMask_11 d_S_checkMask_12 d_S_checkMask_15 (by decide) rfl (Nat.le_of_ble_eq_true rfl)

set_option maxHeartbeats 4000000 in
set_option maxRecDepth 100000 in
theorem c_S_checkNotStopped (l : Launch) (Ω : sm_Ω) {X : sm_X} {w : Nat → Nat → Nat} (hf : swf X w) {o : Nat} (ho : o < 12) (hs : X (691 + o) 4 = 0) : sm_met l Ω y_S_checkNotStopped b_S_checkNotStopped 2 none 1 723 [.ref (Ω.2.1 + 0), .int (nI o)] X (sm_rf w) (sm_det none X (sm_rf w)) := by
  refine sm_intro (own := RX6) (L := [some (.ref (Ω.2.1 + 0)), some (.int (nI o))]) (by decide) rfl (by simp [Value.category]) (Nat.le_of_ble_eq_true rfl) rfl ?_
  intro Γ C I
  refine sg_aln (pc := 0) C d_S_checkNotStopped_0 rfl ?_
  refine sg_getr (pc := 1) C fw_S_31 (by omega) rfl rfl rfl d_S_checkNotStopped_1 ?_
  refine sg_iln (pc := 4) C d_S_checkNotStopped_4 rfl ?_
  refine sg_aald (pc := 5) (n := 12) (t := 5) C (by omega) rfl (by decide) rfl rfl (by omega) (by decide) (rf_items (by omega)) d_S_checkNotStopped_5 ?_
  refine sg_geti (pc := 6) C fw_S_100 (by omega) (sh_I (by omega)) rfl d_S_checkNotStopped_6 ?_
  refine sg_ifeq (pc := 9) (tgt := 20) C d_S_checkNotStopped_9 (by decide) (by omega) (fun h9 => ?_) (fun h9 => absurd hs h9)
  exact sg_vret (pc := 20) C I rfl d_S_checkNotStopped_20 ⟨rfl, rfl, rfl⟩

set_option maxHeartbeats 4000000 in
set_option maxRecDepth 100000 in
theorem x_S_checkNotStopped (l : Launch) (hl : l.stackTraces = false) (Ω : sm_Ω) {X : sm_X} {w : Nat → Nat → Nat} (hf : swf X w) {o : Nat} (ho : o < 12) (hs : X (691 + o) 4 ≠ 0) : sm_thr l Ω y_S_checkNotStopped b_S_checkNotStopped 2 none 6 [.ref (Ω.2.1 + 0), .int (nI o)] X (sm_rf w) eIS := by
  refine sm_introX (own := RX6) (L := [some (.ref (Ω.2.1 + 0)), some (.int (nI o))]) (by decide) rfl (by simp [Value.category]) (Nat.le_of_ble_eq_true rfl) rfl ?_
  intro Γ C J
  have gi := hf.2.2.1 o ho
  refine sg_aln (pc := 0) C d_S_checkNotStopped_0 rfl ?_
  refine sg_getr (pc := 1) C fw_S_31 (by omega) rfl rfl rfl d_S_checkNotStopped_1 ?_
  refine sg_iln (pc := 4) C d_S_checkNotStopped_4 rfl ?_
  refine sg_aald (pc := 5) (n := 12) (t := 5) C (by omega) rfl (by decide) rfl rfl (by omega) (by decide) (rf_items (by omega)) d_S_checkNotStopped_5 ?_
  refine sg_geti (pc := 6) C fw_S_100 (by omega) (sh_I (by omega)) rfl d_S_checkNotStopped_6 ?_
  refine sg_ifeq (pc := 9) (tgt := 20) C d_S_checkNotStopped_9 (by decide) (by omega) (fun h9 => absurd h9 hs) (fun h9 => ?_)
  exact sg_throw (pc := 12) C J hl tw_S_104 d_S_checkNotStopped_12 d_S_checkNotStopped_15 d_S_checkNotStopped_16 d_S_checkNotStopped_19 (by decide) rfl (Nat.le_of_ble_eq_true rfl)

set_option maxHeartbeats 4000000 in
set_option maxRecDepth 100000 in
theorem c_S_checkLive (l : Launch) (Ω : sm_Ω) {X : sm_X} {w : Nat → Nat → Nat} (hf : swf X w) {n : Nat} (hn : n < 12) (hs : X (79 + 51 * n) 3 ≠ 0) : sm_met l Ω y_S_checkLive b_S_checkLive 2 none 1 723 [.ref (Ω.2.1 + 0), .int (nI n)] X (sm_rf w) (sm_det none X (sm_rf w)) := by
  refine sm_intro (own := RX6) (L := [some (.ref (Ω.2.1 + 0)), some (.int (nI n))]) (by decide) rfl (by simp [Value.category]) (Nat.le_of_ble_eq_true rfl) rfl ?_
  intro Γ C I
  have gi := hf.2.1 n hn
  refine sg_aln (pc := 0) C d_S_checkLive_0 rfl ?_
  refine sg_getr (pc := 1) C fw_S_25 (by omega) rfl rfl rfl d_S_checkLive_1 ?_
  refine sg_iln (pc := 4) C d_S_checkLive_4 rfl ?_
  refine sg_aald (pc := 5) (n := 12) (t := 4) C (by omega) rfl (by decide) rfl rfl (by omega) (by decide) (rf_nodes (by omega)) d_S_checkLive_5 ?_
  refine sg_geti (pc := 6) C fw_S_149 (by omega) (sh_N (by omega)) rfl d_S_checkLive_6 ?_
  refine sg_ifne (pc := 9) (tgt := 20) C d_S_checkLive_9 (by decide) (by omega) (fun h9 => ?_) (fun h9 => absurd h9 hs)
  exact sg_vret (pc := 20) C I rfl d_S_checkLive_20 ⟨rfl, rfl, rfl⟩

set_option maxHeartbeats 4000000 in
set_option maxRecDepth 100000 in
theorem x_S_checkLive (l : Launch) (hl : l.stackTraces = false) (Ω : sm_Ω) {X : sm_X} {w : Nat → Nat → Nat} (hf : swf X w) {n : Nat} (hn : n < 12) (hs : X (79 + 51 * n) 3 = 0) : sm_thr l Ω y_S_checkLive b_S_checkLive 2 none 6 [.ref (Ω.2.1 + 0), .int (nI n)] X (sm_rf w) eIS := by
  refine sm_introX (own := RX6) (L := [some (.ref (Ω.2.1 + 0)), some (.int (nI n))]) (by decide) rfl (by simp [Value.category]) (Nat.le_of_ble_eq_true rfl) rfl ?_
  intro Γ C J
  refine sg_aln (pc := 0) C d_S_checkLive_0 rfl ?_
  refine sg_getr (pc := 1) C fw_S_25 (by omega) rfl rfl rfl d_S_checkLive_1 ?_
  refine sg_iln (pc := 4) C d_S_checkLive_4 rfl ?_
  refine sg_aald (pc := 5) (n := 12) (t := 4) C (by omega) rfl (by decide) rfl rfl (by omega) (by decide) (rf_nodes (by omega)) d_S_checkLive_5 ?_
  refine sg_geti (pc := 6) C fw_S_149 (by omega) (sh_N (by omega)) rfl d_S_checkLive_6 ?_
  refine sg_ifne (pc := 9) (tgt := 20) C d_S_checkLive_9 (by decide) (by omega) (fun h9 => absurd hs h9) (fun h9 => ?_)
  exact sg_throw (pc := 12) C J hl tw_S_104 d_S_checkLive_12 d_S_checkLive_15 d_S_checkLive_16 d_S_checkLive_19 (by decide) rfl (Nat.le_of_ble_eq_true rfl)

set_option maxHeartbeats 4000000 in
set_option maxRecDepth 100000 in
theorem c_S_isByte1 (l : Launch) (Ω : sm_Ω) {X : sm_X} {w : Nat → Nat → Nat} {a : Nat} (ha : a < 256) : sm_met l Ω y_S_isByte b_S_isByte 1 (some .boolean) 1 723 [.int (nI a)] X (sm_rf w) (sm_det (some (.int (nI 1))) X (sm_rf w)) := by
  refine sm_intro (own := RX6) (L := [some (.int (nI a))]) (by decide) rfl (by simp [Value.category]) (Nat.le_of_ble_eq_true rfl) rfl ?_
  intro Γ C I
  refine sg_iln (pc := 0) C d_S_isByte_0 rfl ?_
  refine sr_iflt (pc := 1) (tgt := 15) C d_S_isByte_1 (by decide) (fun h1 => absurd h1 (nI_pos (by omega))) (fun h1 => ?_)
  refine sg_iln (pc := 4) C d_S_isByte_4 rfl ?_
  refine sg_si (pc := 5) (v := 255) C d_S_isByte_5 (by decide) ?_
  refine sg_icgt (pc := 8) (tgt := 15) C d_S_isByte_8 (by decide) (by omega) (by omega) (fun h8 => absurd h8 (by omega)) (fun h8 => ?_)
  refine sg_ic (pc := 11) (v := 1) C d_S_isByte_11 (by decide) ?_
  refine sg_goto (pc := 12) (tgt := 16) C d_S_isByte_12 (by decide) ?_
  exact sg_iret (pc := 16) C I rfl (sn_b (by decide)) d_S_isByte_16 ⟨rfl, rfl, rfl⟩

set_option maxHeartbeats 4000000 in
set_option maxRecDepth 100000 in
theorem c_S_isByte0 (l : Launch) (Ω : sm_Ω) {X : sm_X} {w : Nat → Nat → Nat} {x : Int32} (hx : x < 0 ∨ nI 255 < x) : sm_met l Ω y_S_isByte b_S_isByte 1 (some .boolean) 1 723 [.int x] X (sm_rf w) (sm_det (some (.int (nI 0))) X (sm_rf w)) := by
  refine sm_intro (own := RX6) (L := [some (.int x)]) (by decide) rfl (by simp [Value.category]) (Nat.le_of_ble_eq_true rfl) rfl ?_
  intro Γ C I
  refine sg_iln (pc := 0) C d_S_isByte_0 rfl ?_
  refine sr_iflt (pc := 1) (tgt := 15) C d_S_isByte_1 (by decide) (fun h1 => ?_) (fun h1 => ?_)
  · refine sg_ic (pc := 15) (v := 0) C d_S_isByte_15 (by decide) ?_
    exact sg_iret (pc := 16) C I rfl (sn_b (by decide)) d_S_isByte_16 ⟨rfl, rfl, rfl⟩
  · refine sg_iln (pc := 4) C d_S_isByte_4 rfl ?_
    refine sg_si (pc := 5) (v := 255) C d_S_isByte_5 (by decide) ?_
    refine sr_icgt (pc := 8) (tgt := 15) C d_S_isByte_8 (by decide) (fun h8 => ?_) (fun h8 => absurd (hx.elim (fun q => absurd q h1) id) h8)
    refine sg_ic (pc := 15) (v := 0) C d_S_isByte_15 (by decide) ?_
    exact sg_iret (pc := 16) C I rfl (sn_b (by decide)) d_S_isByte_16 ⟨rfl, rfl, rfl⟩

theorem sn_us : ∀ k, k < 4 → (((nI (24 - 8 * k)).toUInt32 &&& Int32.toUInt32 31).toBitVec % 32).toNat = 24 - 8 * k := by decide +kernel

set_option maxHeartbeats 4000000 in
set_option maxRecDepth 100000 in
theorem c_S_load (l : Launch) (Ω : sm_Ω) {X : sm_X} {w : Nat → Nat → Nat} {i N : Nat} (hi : i < 60) (hN : N < 2 ^ 32) : sm_met l Ω y_S_load b_S_load 4 none 2 723 [.ref (Ω.2.1 + 0), .int (nI i), .int (nI N)] X (sm_rf w) (sm_det none (sm_uf X 77 (fun j => if 4 * i ≤ j ∧ j < 4 * i + 4 then N / 2 ^ (24 - 8 * (j - 4 * i)) % 256 else X 77 j)) (sm_rf w)) := by
  refine sm_intro (own := RX6) (L := [some (.ref (Ω.2.1 + 0)), some (.int (nI i)), some (.int (nI N)), none]) (by decide) rfl (by simp [Value.category]) (Nat.le_of_ble_eq_true rfl) rfl ?_
  intro Γ C I
  refine sg_iln (pc := 0) C d_S_load_0 rfl ?_
  refine sg_bi (pc := 1) (v := 60) C d_S_load_1 (by decide) ?_
  refine sm_callS (pc := 3) (As := [.int (nI i), .int (nI 60)]) C I (c_S_checkIndex l Ω (by omega) (by decide)) cw_S_63 sw_S_checkIndex rfl (by decide) ⟨by decide, by decide⟩ rfl (Nat.le_of_ble_eq_true rfl) d_S_load_3 (sm_det_v ?_)
  refine sg_ic (pc := 6) (v := 0) C d_S_load_6 (by decide) ?_
  refine sg_is3 (pc := 7) C d_S_load_7 ?_
  have loop : ∀ t k, k + t = 4 → sm_G Γ Ω 723 0 0 8 [some (.ref (Ω.2.1 + 0)), some (.int (nI i)), some (.int (nI N)), some (.int (nI k))] [] (sm_uf X 77 (fun j => if 4 * i ≤ j ∧ j < 4 * i + k then N / 2 ^ (24 - 8 * (j - 4 * i)) % 256 else X 77 j)) (sm_rf w) := by
    intro t
    induction t with
    | zero =>
      intro k hk
      refine sg_iln (pc := 8) C d_S_load_8 rfl ?_
      refine sg_ic (pc := 9) (v := 4) C d_S_load_9 (by decide) ?_
      refine sg_icge (pc := 10) (tgt := 42) C d_S_load_10 (by decide) (by omega) (by omega) (fun h10 => ?_) (fun h10 => absurd h10 (by omega))
      exact sg_vret (pc := 42) C I rfl d_S_load_42 ⟨rfl, by rw [show k = 4 by omega], rfl⟩
    | succ t ih =>
      intro k hk
      refine sg_iln (pc := 8) C d_S_load_8 rfl ?_
      refine sg_ic (pc := 9) (v := 4) C d_S_load_9 (by decide) ?_
      refine sg_icge (pc := 10) (tgt := 42) C d_S_load_10 (by decide) (by omega) (by omega) (fun h10 => absurd h10 (by omega)) (fun h10 => ?_)
      refine sg_aln (pc := 13) C d_S_load_13 rfl ?_
      refine sg_getr (pc := 14) C fw_S_46 (by omega) rfl rfl rfl d_S_load_14 ?_
      refine sg_ic (pc := 17) (v := 4) C d_S_load_17 (by decide) ?_
      refine sg_iln (pc := 18) C d_S_load_18 rfl ?_
      refine sg_mul (pc := 19) C d_S_load_19 ?_
      refine sg_iln (pc := 20) C d_S_load_20 rfl ?_
      refine sg_add (pc := 21) C d_S_load_21 ?_
      refine sg_iln (pc := 22) C d_S_load_22 rfl ?_
      refine sg_bi (pc := 23) (v := 24) C d_S_load_23 (by decide) ?_
      refine sg_bi (pc := 25) (v := 8) C d_S_load_25 (by decide) ?_
      refine sg_iln (pc := 27) C d_S_load_27 rfl ?_
      refine sg_mul (pc := 28) C d_S_load_28 ?_
      refine sg_sub (pc := 29) C d_S_load_29 (by omega) ?_
      refine sr_iushr (pc := 30) C d_S_load_30 (pk_ushrN hN _ (24 - 8 * k) (sn_us k (by omega))) ?_
      refine sg_si (pc := 31) (v := 255) C d_S_load_31 (by decide) ?_
      refine sg_and (pc := 34) C d_S_load_34 ?_
      rw [show N / 2 ^ (24 - 8 * k) &&& 255 = N / 2 ^ (24 - 8 * k) % 256 from Nat.and_two_pow_sub_one_eq_mod _ 8]
      refine sg_iast (pc := 35) (n := 240) C (by omega) rfl (by omega) (by decide) d_S_load_35 ?_
      rw [sm_uf_up, show (fun j => if j = 4 * i + k then N / 2 ^ (24 - 8 * k) % 256 else if 4 * i ≤ j ∧ j < 4 * i + k then N / 2 ^ (24 - 8 * (j - 4 * i)) % 256 else X 77 j) = (fun j => if 4 * i ≤ j ∧ j < 4 * i + (k + 1) then N / 2 ^ (24 - 8 * (j - 4 * i)) % 256 else X 77 j) from funext fun j => by
          by_cases e1 : j = 4 * i + k
          · subst e1; rw [if_pos rfl, if_pos (by omega), show 4 * i + k - 4 * i = k by omega]
          · rw [if_neg e1]
            by_cases e2 : 4 * i ≤ j ∧ j < 4 * i + k
            · rw [if_pos e2, if_pos (by omega)]
            · rw [if_neg e2, if_neg (by omega)]]
      refine sg_inc3 (pc := 36) (n := 1) C d_S_load_36 (by decide) ?_
      refine sg_goto (pc := 39) (tgt := 8) C d_S_load_39 (by decide) ?_
      exact ih (k + 1) (by omega)
  have h0 := loop 4 0 (by omega)
  rw [show (sm_uf X 77 (fun j => if 4 * i ≤ j ∧ j < 4 * i + 0 then N / 2 ^ (24 - 8 * (j - 4 * i)) % 256 else X 77 j)) = X from (sm_uf_c (fun j => if_neg (by omega))).trans sm_uf_self] at h0
  exact h0

set_option maxHeartbeats 4000000 in
set_option maxRecDepth 100000 in
theorem x_S_load (l : Launch) (hl : l.stackTraces = false) (Ω : sm_Ω) {X : sm_X} {w : Nat → Nat → Nat} {x z : Int32} (hx : x < 0 ∨ nI 60 ≤ x) : sm_thr l Ω y_S_load b_S_load 4 none 7 [.ref (Ω.2.1 + 0), .int x, .int z] X (sm_rf w) eIO := by
  refine sm_introX (own := RX6) (L := [some (.ref (Ω.2.1 + 0)), some (.int x), some (.int z), none]) (by decide) rfl (by simp [Value.category]) (Nat.le_of_ble_eq_true rfl) rfl ?_
  intro Γ C J
  refine sg_iln (pc := 0) C d_S_load_0 rfl ?_
  refine sg_bi (pc := 1) (v := 60) C d_S_load_1 (by decide) ?_
  exact sm_callSX (pc := 3) (As := [.int x, .int (nI 60)]) C J (x_S_checkIndex l hl Ω hx) cw_S_63 sw_S_checkIndex rfl (by decide) rfl (Nat.le_of_ble_eq_true rfl) d_S_load_3

set_option maxHeartbeats 4000000 in
set_option maxRecDepth 100000 in
theorem c_S_cut (l : Launch) (Ω : sm_Ω) {X : sm_X} {w : Nat → Nat → Nat} {q : Nat} (hq : q < 24) : sm_met l Ω y_S_cut b_S_cut 2 none 1 723 [.ref (Ω.2.1 + 0), .int (nI q)] X (sm_rf w) (sm_det none (sm_up X 0 9 q) (sm_rf w)) := by
  refine sm_intro (own := RX6) (L := [some (.ref (Ω.2.1 + 0)), some (.int (nI q))]) (by decide) rfl (by simp [Value.category]) (Nat.le_of_ble_eq_true rfl) rfl ?_
  intro Γ C I
  refine sg_iln (pc := 0) C d_S_cut_0 rfl ?_
  refine sr_iflt (pc := 1) (tgt := 10) C d_S_cut_1 (by decide) (fun h1 => absurd h1 (nI_pos (by omega))) (fun h1 => ?_)
  refine sg_iln (pc := 4) C d_S_cut_4 rfl ?_
  refine sg_bi (pc := 5) (v := 24) C d_S_cut_5 (by decide) ?_
  refine sg_iclt (pc := 7) (tgt := 18) C d_S_cut_7 (by decide) (by omega) (by omega) (fun h7 => ?_) (fun h7 => absurd h7 (by omega))
  refine sg_aln (pc := 18) C d_S_cut_18 rfl ?_
  refine sg_iln (pc := 19) C d_S_cut_19 rfl ?_
  refine sg_puti (pc := 20) C pw_S_56 (by omega) rfl rfl rfl rfl d_S_cut_20 ?_
  exact sg_vret (pc := 23) C I rfl d_S_cut_23 ⟨rfl, rfl, rfl⟩

set_option maxHeartbeats 4000000 in
set_option maxRecDepth 100000 in
theorem x_S_cut (l : Launch) (hl : l.stackTraces = false) (Ω : sm_Ω) {X : sm_X} {w : Nat → Nat → Nat} {x : Int32} (hx : x < 0 ∨ nI 24 ≤ x) : sm_thr l Ω y_S_cut b_S_cut 2 none 6 [.ref (Ω.2.1 + 0), .int x] X (sm_rf w) eIA := by
  refine sm_introX (own := RX6) (L := [some (.ref (Ω.2.1 + 0)), some (.int x)]) (by decide) rfl (by simp [Value.category]) (Nat.le_of_ble_eq_true rfl) rfl ?_
  intro Γ C J
  refine sg_iln (pc := 0) C d_S_cut_0 rfl ?_
  refine sr_iflt (pc := 1) (tgt := 10) C d_S_cut_1 (by decide) (fun h1 => ?_) (fun h1 => ?_)
  · exact sg_throw (pc := 10) C J hl tw_S_67 d_S_cut_10 d_S_cut_13 d_S_cut_14 d_S_cut_17 (by decide) rfl (Nat.le_of_ble_eq_true rfl)
  · refine sg_iln (pc := 4) C d_S_cut_4 rfl ?_
    refine sg_bi (pc := 5) (v := 24) C d_S_cut_5 (by decide) ?_
    refine sr_iclt (pc := 7) (tgt := 18) C d_S_cut_7 (by decide) (fun h7 => hx.elim (fun q => absurd q h1) (fun q => absurd h7 (Int32.not_lt.mpr q))) (fun h7 => ?_)
    exact sg_throw (pc := 10) C J hl tw_S_67 d_S_cut_10 d_S_cut_13 d_S_cut_14 d_S_cut_17 (by decide) rfl (Nat.le_of_ble_eq_true rfl)

set_option maxHeartbeats 4000000 in
set_option maxRecDepth 100000 in
theorem c_S_out (l : Launch) (Ω : sm_Ω) {X : sm_X} {w : Nat → Nat → Nat} {i : Nat} (hi : i < X 0 8) (hr : X 0 8 ≤ 240) : sm_met l Ω y_S_out b_S_out 2 (some .int) 2 723 [.ref (Ω.2.1 + 0), .int (nI i)] X (sm_rf w) (sm_det (some (.int (nI (X 78 i)))) X (sm_rf w)) := by
  refine sm_intro (own := RX6) (L := [some (.ref (Ω.2.1 + 0)), some (.int (nI i))]) (by decide) rfl (by simp [Value.category]) (Nat.le_of_ble_eq_true rfl) rfl ?_
  intro Γ C I
  refine sg_iln (pc := 0) C d_S_out_0 rfl ?_
  refine sg_aln (pc := 1) C d_S_out_1 rfl ?_
  refine sg_geti (pc := 2) C fw_S_52 (by omega) rfl rfl d_S_out_2 ?_
  refine sm_callS (pc := 5) (As := [.int (nI i), .int (nI (X 0 8))]) C I (c_S_checkIndex l Ω hi (by omega)) cw_S_63 sw_S_checkIndex rfl (by decide) ⟨by decide, by decide⟩ rfl (Nat.le_of_ble_eq_true rfl) d_S_out_5 (sm_det_v ?_)
  refine sg_aln (pc := 8) C d_S_out_8 rfl ?_
  refine sg_getr (pc := 9) C fw_S_49 (by omega) rfl rfl rfl d_S_out_9 ?_
  refine sg_iln (pc := 12) C d_S_out_12 rfl ?_
  refine sg_iald (pc := 13) (n := 240) C (by omega) rfl (by omega) (by decide) d_S_out_13 ?_
  exact sg_iret (pc := 14) C I rfl rfl d_S_out_14 ⟨rfl, rfl, rfl⟩

set_option maxHeartbeats 4000000 in
set_option maxRecDepth 100000 in
theorem x_S_out (l : Launch) (hl : l.stackTraces = false) (Ω : sm_Ω) {X : sm_X} {w : Nat → Nat → Nat} {x : Int32} (hx : x < 0 ∨ nI (X 0 8) ≤ x) : sm_thr l Ω y_S_out b_S_out 2 (some .int) 7 [.ref (Ω.2.1 + 0), .int x] X (sm_rf w) eIO := by
  refine sm_introX (own := RX6) (L := [some (.ref (Ω.2.1 + 0)), some (.int x)]) (by decide) rfl (by simp [Value.category]) (Nat.le_of_ble_eq_true rfl) rfl ?_
  intro Γ C J
  refine sg_iln (pc := 0) C d_S_out_0 rfl ?_
  refine sg_aln (pc := 1) C d_S_out_1 rfl ?_
  refine sg_geti (pc := 2) C fw_S_52 (by omega) rfl rfl d_S_out_2 ?_
  exact sm_callSX (pc := 5) (As := [.int x, .int (nI (X 0 8))]) C J (x_S_checkIndex l hl Ω hx) cw_S_63 sw_S_checkIndex rfl (by decide) rfl (Nat.le_of_ble_eq_true rfl) d_S_out_5

set_option maxHeartbeats 4000000 in
set_option maxRecDepth 100000 in
theorem c_S_object (l : Launch) (Ω : sm_Ω) {X : sm_X} {w : Nat → Nat → Nat} (hf : swf X w) {o q : Nat} (ho : o < 12) (hq : q < 3) : sm_met l Ω y_S_object b_S_object 4 (some .int) 2 723 [.ref (Ω.2.1 + 0), .int (nI o), .int (nI q)] X (sm_rf w) (sm_det (some (.int (nI (if q = 0 then X (691 + o) 0 else if q = 1 then X (691 + o) 1 else X (691 + o) 4)))) X (sm_rf w)) := by
  refine sm_intro (own := RX6) (L := [some (.ref (Ω.2.1 + 0)), some (.int (nI o)), some (.int (nI q)), none]) (by decide) rfl (by simp [Value.category]) (Nat.le_of_ble_eq_true rfl) rfl ?_
  intro Γ C I
  have gi := hf.2.2.1 o ho
  refine sg_iln (pc := 0) C d_S_object_0 rfl ?_
  refine sg_bi (pc := 1) (v := 12) C d_S_object_1 (by decide) ?_
  refine sm_callS (pc := 3) (As := [.int (nI o), .int (nI 12)]) C I (c_S_checkIndex l Ω (by omega) (by decide)) cw_S_63 sw_S_checkIndex rfl (by decide) ⟨by decide, by decide⟩ rfl (Nat.le_of_ble_eq_true rfl) d_S_object_3 (sm_det_v ?_)
  refine sg_iln (pc := 6) C d_S_object_6 rfl ?_
  refine sg_ic (pc := 7) (v := 3) C d_S_object_7 (by decide) ?_
  refine sm_callS (pc := 8) (As := [.int (nI q), .int (nI 3)]) C I (c_S_checkIndex l Ω (by omega) (by decide)) cw_S_63 sw_S_checkIndex rfl (by decide) ⟨by decide, by decide⟩ rfl (Nat.le_of_ble_eq_true rfl) d_S_object_8 (sm_det_v ?_)
  refine sg_aln (pc := 11) C d_S_object_11 rfl ?_
  refine sg_getr (pc := 12) C fw_S_31 (by omega) rfl rfl rfl d_S_object_12 ?_
  refine sg_iln (pc := 15) C d_S_object_15 rfl ?_
  refine sg_aald (pc := 16) (n := 12) (t := 5) C (by omega) rfl (by decide) rfl rfl (by omega) (by decide) (rf_items (by omega)) d_S_object_16 ?_
  refine sg_as3 (pc := 17) C d_S_object_17 ?_
  refine sg_iln (pc := 18) C d_S_object_18 rfl ?_
  refine sg_ifne (pc := 19) (tgt := 27) C d_S_object_19 (by decide) (by omega) (fun h19 => ?_) (fun h19 => ?_)
  · refine sg_iln (pc := 27) C d_S_object_27 rfl ?_
    refine sg_ic (pc := 28) (v := 1) C d_S_object_28 (by decide) ?_
    refine sg_icne (pc := 29) (tgt := 37) C d_S_object_29 (by decide) (by omega) (by omega) (fun h29 => ?_) (fun h29 => ?_)
    · refine sg_aln (pc := 37) C d_S_object_37 rfl ?_
      refine sg_geti (pc := 38) C fw_S_100 (by omega) (sh_I (by omega)) rfl d_S_object_38 ?_
      refine sg_ifeq (pc := 41) (tgt := 48) C d_S_object_41 (by decide) (by omega) (fun h41 => ?_) (fun h41 => ?_)
      · refine sg_ic (pc := 48) (v := 0) C d_S_object_48 (by decide) ?_
        exact sg_iret (pc := 49) C I rfl rfl d_S_object_49 ⟨by rw [if_neg h19, if_neg h29, h41], rfl, rfl⟩
      · refine sg_ic (pc := 44) (v := 1) C d_S_object_44 (by decide) ?_
        refine sg_goto (pc := 45) (tgt := 49) C d_S_object_45 (by decide) ?_
        exact sg_iret (pc := 49) C I rfl rfl d_S_object_49 ⟨by rw [if_neg h19, if_neg h29, show X (691 + o) 4 = 1 by omega], rfl, rfl⟩
    · refine sg_aln (pc := 32) C d_S_object_32 rfl ?_
      refine sg_geti (pc := 33) C fw_S_117 (by omega) (sh_I (by omega)) rfl d_S_object_33 ?_
      exact sg_iret (pc := 36) C I rfl rfl d_S_object_36 ⟨by rw [if_neg h19, if_pos h29], rfl, rfl⟩
  · refine sg_aln (pc := 22) C d_S_object_22 rfl ?_
    refine sg_geti (pc := 23) C fw_S_143 (by omega) (sh_I (by omega)) rfl d_S_object_23 ?_
    exact sg_iret (pc := 26) C I rfl rfl d_S_object_26 ⟨by rw [if_pos h19], rfl, rfl⟩

set_option maxHeartbeats 4000000 in
set_option maxRecDepth 100000 in
theorem x_S_object1 (l : Launch) (hl : l.stackTraces = false) (Ω : sm_Ω) {X : sm_X} {w : Nat → Nat → Nat} {x z : Int32} (hx : x < 0 ∨ nI 12 ≤ x) : sm_thr l Ω y_S_object b_S_object 4 (some .int) 7 [.ref (Ω.2.1 + 0), .int x, .int z] X (sm_rf w) eIO := by
  refine sm_introX (own := RX6) (L := [some (.ref (Ω.2.1 + 0)), some (.int x), some (.int z), none]) (by decide) rfl (by simp [Value.category]) (Nat.le_of_ble_eq_true rfl) rfl ?_
  intro Γ C J
  refine sg_iln (pc := 0) C d_S_object_0 rfl ?_
  refine sg_bi (pc := 1) (v := 12) C d_S_object_1 (by decide) ?_
  exact sm_callSX (pc := 3) (As := [.int x, .int (nI 12)]) C J (x_S_checkIndex l hl Ω hx) cw_S_63 sw_S_checkIndex rfl (by decide) rfl (Nat.le_of_ble_eq_true rfl) d_S_object_3

set_option maxHeartbeats 4000000 in
set_option maxRecDepth 100000 in
theorem x_S_object2 (l : Launch) (hl : l.stackTraces = false) (Ω : sm_Ω) {X : sm_X} {w : Nat → Nat → Nat} {o : Nat} {x : Int32} (ho : o < 12) (hx : x < 0 ∨ nI 3 ≤ x) : sm_thr l Ω y_S_object b_S_object 4 (some .int) 7 [.ref (Ω.2.1 + 0), .int (nI o), .int x] X (sm_rf w) eIO := by
  refine sm_introX (own := RX6) (L := [some (.ref (Ω.2.1 + 0)), some (.int (nI o)), some (.int x), none]) (by decide) rfl (by simp [Value.category]) (Nat.le_of_ble_eq_true rfl) rfl ?_
  intro Γ C J
  refine sg_iln (pc := 0) C d_S_object_0 rfl ?_
  refine sg_bi (pc := 1) (v := 12) C d_S_object_1 (by decide) ?_
  refine sm_callS (pc := 3) (As := [.int (nI o), .int (nI 12)]) C J (c_S_checkIndex l Ω (by omega) (by decide)) cw_S_63 sw_S_checkIndex rfl (by decide) ⟨by decide, by decide⟩ rfl (Nat.le_of_ble_eq_true rfl) d_S_object_3 (sm_det_v ?_)
  refine sg_iln (pc := 6) C d_S_object_6 rfl ?_
  refine sg_ic (pc := 7) (v := 3) C d_S_object_7 (by decide) ?_
  exact sm_callSX (pc := 8) (As := [.int x, .int (nI 3)]) C J (x_S_checkIndex l hl Ω hx) cw_S_63 sw_S_checkIndex rfl (by decide) rfl (Nat.le_of_ble_eq_true rfl) d_S_object_8

set_option maxHeartbeats 4000000 in
set_option maxRecDepth 100000 in
theorem c_S_fail (l : Launch) (Ω : sm_Ω) {X : sm_X} {w : Nat → Nat → Nat} (hf : swf X w) {n : Nat} (hn : n < 12) (hs : X (79 + 51 * n) 3 ≠ 0) : sm_met l Ω y_S_fail b_S_fail 2 none 2 723 [.ref (Ω.2.1 + 0), .int (nI n)] X (sm_rf w) (sm_det none (sm_up X (79 + 51 * n) 3 0) (sm_rf w)) := by
  refine sm_intro (own := RX6) (L := [some (.ref (Ω.2.1 + 0)), some (.int (nI n))]) (by decide) rfl (by simp [Value.category]) (Nat.le_of_ble_eq_true rfl) rfl ?_
  intro Γ C I
  refine sg_iln (pc := 0) C d_S_fail_0 rfl ?_
  refine sg_bi (pc := 1) (v := 12) C d_S_fail_1 (by decide) ?_
  refine sm_callS (pc := 3) (As := [.int (nI n), .int (nI 12)]) C I (c_S_checkIndex l Ω (by omega) (by decide)) cw_S_63 sw_S_checkIndex rfl (by decide) ⟨by decide, by decide⟩ rfl (Nat.le_of_ble_eq_true rfl) d_S_fail_3 (sm_det_v ?_)
  refine sg_aln (pc := 6) C d_S_fail_6 rfl ?_
  refine sg_iln (pc := 7) C d_S_fail_7 rfl ?_
  refine sm_callV (pc := 8) (As := [.int (nI n)]) C I (c_S_checkLive l Ω hf hn hs) cw_S_146 iw_S_checkLive (C.1.2.2.2.2 _ (List.mem_cons_of_mem _ se_S_checkLive)) (by omega) rfl rfl rfl rfl (by decide) ⟨by decide, by decide⟩ rfl (Nat.le_of_ble_eq_true rfl) d_S_fail_8 (sm_det_v ?_)
  refine sg_aln (pc := 11) C d_S_fail_11 rfl ?_
  refine sg_getr (pc := 12) C fw_S_25 (by omega) rfl rfl rfl d_S_fail_12 ?_
  refine sg_iln (pc := 15) C d_S_fail_15 rfl ?_
  refine sg_aald (pc := 16) (n := 12) (t := 4) C (by omega) rfl (by decide) rfl rfl (by omega) (by decide) (rf_nodes (by omega)) d_S_fail_16 ?_
  refine sg_ic (pc := 17) (v := 0) C d_S_fail_17 (by decide) ?_
  refine sg_puti (pc := 18) C pw_S_149 (by omega) (sh_N (by omega)) rfl (sn_b (by omega)) (sn_bf (by omega)) d_S_fail_18 ?_
  exact sg_vret (pc := 21) C I rfl d_S_fail_21 ⟨rfl, rfl, rfl⟩

set_option maxHeartbeats 4000000 in
set_option maxRecDepth 100000 in
theorem x_S_fail1 (l : Launch) (hl : l.stackTraces = false) (Ω : sm_Ω) {X : sm_X} {w : Nat → Nat → Nat} {x : Int32} (hx : x < 0 ∨ nI 12 ≤ x) : sm_thr l Ω y_S_fail b_S_fail 2 none 7 [.ref (Ω.2.1 + 0), .int x] X (sm_rf w) eIO := by
  refine sm_introX (own := RX6) (L := [some (.ref (Ω.2.1 + 0)), some (.int x)]) (by decide) rfl (by simp [Value.category]) (Nat.le_of_ble_eq_true rfl) rfl ?_
  intro Γ C J
  refine sg_iln (pc := 0) C d_S_fail_0 rfl ?_
  refine sg_bi (pc := 1) (v := 12) C d_S_fail_1 (by decide) ?_
  exact sm_callSX (pc := 3) (As := [.int x, .int (nI 12)]) C J (x_S_checkIndex l hl Ω hx) cw_S_63 sw_S_checkIndex rfl (by decide) rfl (Nat.le_of_ble_eq_true rfl) d_S_fail_3

set_option maxHeartbeats 4000000 in
set_option maxRecDepth 100000 in
theorem x_S_fail2 (l : Launch) (hl : l.stackTraces = false) (Ω : sm_Ω) {X : sm_X} {w : Nat → Nat → Nat} (hf : swf X w) {n : Nat} (hn : n < 12) (hs : X (79 + 51 * n) 3 = 0) : sm_thr l Ω y_S_fail b_S_fail 2 none 7 [.ref (Ω.2.1 + 0), .int (nI n)] X (sm_rf w) eIS := by
  refine sm_introX (own := RX6) (L := [some (.ref (Ω.2.1 + 0)), some (.int (nI n))]) (by decide) rfl (by simp [Value.category]) (Nat.le_of_ble_eq_true rfl) rfl ?_
  intro Γ C J
  refine sg_iln (pc := 0) C d_S_fail_0 rfl ?_
  refine sg_bi (pc := 1) (v := 12) C d_S_fail_1 (by decide) ?_
  refine sm_callS (pc := 3) (As := [.int (nI n), .int (nI 12)]) C J (c_S_checkIndex l Ω (by omega) (by decide)) cw_S_63 sw_S_checkIndex rfl (by decide) ⟨by decide, by decide⟩ rfl (Nat.le_of_ble_eq_true rfl) d_S_fail_3 (sm_det_v ?_)
  refine sg_aln (pc := 6) C d_S_fail_6 rfl ?_
  refine sg_iln (pc := 7) C d_S_fail_7 rfl ?_
  exact sm_callVX (pc := 8) (As := [.int (nI n)]) C J (x_S_checkLive l hl Ω hf hn hs) cw_S_146 iw_S_checkLive (C.1.2.2.2.2 _ (List.mem_cons_of_mem _ se_S_checkLive)) (by omega) rfl rfl rfl rfl (by decide) rfl (Nat.le_of_ble_eq_true rfl) d_S_fail_8

set_option maxHeartbeats 4000000 in
set_option maxRecDepth 100000 in
theorem c_S_back0 (l : Launch) (Ω : sm_Ω) {X : sm_X} {w : Nat → Nat → Nat} (hf : swf X w) {n : Nat} (hn : n < 12) (hs : X (79 + 51 * n) 3 = 0) : sm_met l Ω y_S_back b_S_back 3 none 3 723 [.ref (Ω.2.1 + 0), .int (nI n), .int (nI 0)] X (sm_rf w) (sm_det none (nb X w n 0 12) (sm_rf w)) := by
  refine sm_intro (own := RX6) (L := [some (.ref (Ω.2.1 + 0)), some (.int (nI n)), some (.int (nI 0))]) (by decide) rfl (by simp [Value.category]) (Nat.le_of_ble_eq_true rfl) rfl ?_
  intro Γ C I
  refine sg_iln (pc := 0) C d_S_back_0 rfl ?_
  refine sg_bi (pc := 1) (v := 12) C d_S_back_1 (by decide) ?_
  refine sm_callS (pc := 3) (As := [.int (nI n), .int (nI 12)]) C I (c_S_checkIndex l Ω (by omega) (by decide)) cw_S_63 sw_S_checkIndex rfl (by decide) ⟨by decide, by decide⟩ rfl (Nat.le_of_ble_eq_true rfl) d_S_back_3 (sm_det_v ?_)
  refine sg_aln (pc := 6) C d_S_back_6 rfl ?_
  refine sg_getr (pc := 7) C fw_S_25 (by omega) rfl rfl rfl d_S_back_7 ?_
  refine sg_iln (pc := 10) C d_S_back_10 rfl ?_
  refine sg_aald (pc := 11) (n := 12) (t := 4) C (by omega) rfl (by decide) rfl rfl (by omega) (by decide) (rf_nodes (by omega)) d_S_back_11 ?_
  refine sg_geti (pc := 12) C fw_S_149 (by omega) (sh_N (by omega)) rfl d_S_back_12 ?_
  refine sg_ifeq (pc := 15) (tgt := 26) C d_S_back_15 (by decide) (by omega) (fun h15 => ?_) (fun h15 => absurd hs h15)
  refine sg_aln (pc := 26) C d_S_back_26 rfl ?_
  refine sg_getr (pc := 27) C fw_S_25 (by omega) rfl rfl rfl d_S_back_27 ?_
  refine sg_iln (pc := 30) C d_S_back_30 rfl ?_
  refine sg_aald (pc := 31) (n := 12) (t := 4) C (by omega) rfl (by decide) rfl rfl (by omega) (by decide) (rf_nodes (by omega)) d_S_back_31 ?_
  refine sg_iln (pc := 32) C d_S_back_32 rfl ?_
  refine sm_callV (pc := 33) (As := [.int (nI 0)]) C I (c_N_comeBack0 l Ω hf.1 hn) cw_S_152 iw_N_comeBack (C.1.2.2.2.2 _ (List.mem_cons_of_mem _ se_N_comeBack)) (by omega) (sh_N (by omega)) rfl rfl rfl (by decide) ⟨by decide, by decide⟩ rfl (Nat.le_of_ble_eq_true rfl) d_S_back_33 (sm_det_v ?_)
  exact sg_vret (pc := 36) C I rfl d_S_back_36 ⟨rfl, rfl, rfl⟩

set_option maxHeartbeats 4000000 in
set_option maxRecDepth 100000 in
theorem c_S_back1 (l : Launch) (Ω : sm_Ω) {X : sm_X} {w : Nat → Nat → Nat} (hf : swf X w) {n : Nat} (hn : n < 12) (hs : X (79 + 51 * n) 3 = 0) : sm_met l Ω y_S_back b_S_back 3 none 3 723 [.ref (Ω.2.1 + 0), .int (nI n), .int (nI 1)] X (sm_rf w) (sm_det none (nb X w n 1 12) (sm_rf w)) := by
  refine sm_intro (own := RX6) (L := [some (.ref (Ω.2.1 + 0)), some (.int (nI n)), some (.int (nI 1))]) (by decide) rfl (by simp [Value.category]) (Nat.le_of_ble_eq_true rfl) rfl ?_
  intro Γ C I
  refine sg_iln (pc := 0) C d_S_back_0 rfl ?_
  refine sg_bi (pc := 1) (v := 12) C d_S_back_1 (by decide) ?_
  refine sm_callS (pc := 3) (As := [.int (nI n), .int (nI 12)]) C I (c_S_checkIndex l Ω (by omega) (by decide)) cw_S_63 sw_S_checkIndex rfl (by decide) ⟨by decide, by decide⟩ rfl (Nat.le_of_ble_eq_true rfl) d_S_back_3 (sm_det_v ?_)
  refine sg_aln (pc := 6) C d_S_back_6 rfl ?_
  refine sg_getr (pc := 7) C fw_S_25 (by omega) rfl rfl rfl d_S_back_7 ?_
  refine sg_iln (pc := 10) C d_S_back_10 rfl ?_
  refine sg_aald (pc := 11) (n := 12) (t := 4) C (by omega) rfl (by decide) rfl rfl (by omega) (by decide) (rf_nodes (by omega)) d_S_back_11 ?_
  refine sg_geti (pc := 12) C fw_S_149 (by omega) (sh_N (by omega)) rfl d_S_back_12 ?_
  refine sg_ifeq (pc := 15) (tgt := 26) C d_S_back_15 (by decide) (by omega) (fun h15 => ?_) (fun h15 => absurd hs h15)
  refine sg_aln (pc := 26) C d_S_back_26 rfl ?_
  refine sg_getr (pc := 27) C fw_S_25 (by omega) rfl rfl rfl d_S_back_27 ?_
  refine sg_iln (pc := 30) C d_S_back_30 rfl ?_
  refine sg_aald (pc := 31) (n := 12) (t := 4) C (by omega) rfl (by decide) rfl rfl (by omega) (by decide) (rf_nodes (by omega)) d_S_back_31 ?_
  refine sg_iln (pc := 32) C d_S_back_32 rfl ?_
  refine sm_callV (pc := 33) (As := [.int (nI 1)]) C I (c_N_comeBack1 l Ω hf.1 hn) cw_S_152 iw_N_comeBack (C.1.2.2.2.2 _ (List.mem_cons_of_mem _ se_N_comeBack)) (by omega) (sh_N (by omega)) rfl rfl rfl (by decide) ⟨by decide, by decide⟩ rfl (Nat.le_of_ble_eq_true rfl) d_S_back_33 (sm_det_v ?_)
  exact sg_vret (pc := 36) C I rfl d_S_back_36 ⟨rfl, rfl, rfl⟩

set_option maxHeartbeats 4000000 in
set_option maxRecDepth 100000 in
theorem x_S_back1 (l : Launch) (hl : l.stackTraces = false) (Ω : sm_Ω) {X : sm_X} {w : Nat → Nat → Nat} {x z : Int32} (hx : x < 0 ∨ nI 12 ≤ x) : sm_thr l Ω y_S_back b_S_back 3 none 7 [.ref (Ω.2.1 + 0), .int x, .int z] X (sm_rf w) eIO := by
  refine sm_introX (own := RX6) (L := [some (.ref (Ω.2.1 + 0)), some (.int x), some (.int z)]) (by decide) rfl (by simp [Value.category]) (Nat.le_of_ble_eq_true rfl) rfl ?_
  intro Γ C J
  refine sg_iln (pc := 0) C d_S_back_0 rfl ?_
  refine sg_bi (pc := 1) (v := 12) C d_S_back_1 (by decide) ?_
  exact sm_callSX (pc := 3) (As := [.int x, .int (nI 12)]) C J (x_S_checkIndex l hl Ω hx) cw_S_63 sw_S_checkIndex rfl (by decide) rfl (Nat.le_of_ble_eq_true rfl) d_S_back_3

set_option maxHeartbeats 4000000 in
set_option maxRecDepth 100000 in
theorem x_S_back2 (l : Launch) (hl : l.stackTraces = false) (Ω : sm_Ω) {X : sm_X} {w : Nat → Nat → Nat} (hf : swf X w) {n : Nat} {z : Int32} (hn : n < 12) (hs : X (79 + 51 * n) 3 ≠ 0) : sm_thr l Ω y_S_back b_S_back 3 none 7 [.ref (Ω.2.1 + 0), .int (nI n), .int z] X (sm_rf w) eIS := by
  refine sm_introX (own := RX6) (L := [some (.ref (Ω.2.1 + 0)), some (.int (nI n)), some (.int z)]) (by decide) rfl (by simp [Value.category]) (Nat.le_of_ble_eq_true rfl) rfl ?_
  intro Γ C J
  have gi := hf.2.1 n hn
  refine sg_iln (pc := 0) C d_S_back_0 rfl ?_
  refine sg_bi (pc := 1) (v := 12) C d_S_back_1 (by decide) ?_
  refine sm_callS (pc := 3) (As := [.int (nI n), .int (nI 12)]) C J (c_S_checkIndex l Ω (by omega) (by decide)) cw_S_63 sw_S_checkIndex rfl (by decide) ⟨by decide, by decide⟩ rfl (Nat.le_of_ble_eq_true rfl) d_S_back_3 (sm_det_v ?_)
  refine sg_aln (pc := 6) C d_S_back_6 rfl ?_
  refine sg_getr (pc := 7) C fw_S_25 (by omega) rfl rfl rfl d_S_back_7 ?_
  refine sg_iln (pc := 10) C d_S_back_10 rfl ?_
  refine sg_aald (pc := 11) (n := 12) (t := 4) C (by omega) rfl (by decide) rfl rfl (by omega) (by decide) (rf_nodes (by omega)) d_S_back_11 ?_
  refine sg_geti (pc := 12) C fw_S_149 (by omega) (sh_N (by omega)) rfl d_S_back_12 ?_
  refine sg_ifeq (pc := 15) (tgt := 26) C d_S_back_15 (by decide) (by omega) (fun h15 => absurd h15 hs) (fun h15 => ?_)
  exact sg_throw (pc := 18) C J hl tw_S_104 d_S_back_18 d_S_back_21 d_S_back_22 d_S_back_25 (by decide) rfl (Nat.le_of_ble_eq_true rfl)

set_option maxHeartbeats 4000000 in
set_option maxRecDepth 100000 in
theorem c_S_node (l : Launch) (Ω : sm_Ω) {X : sm_X} {w : Nat → Nat → Nat} (hf : swf X w) {n q : Nat} (hn : n < 12) (hq : q < 4) : sm_met l Ω y_S_node b_S_node 3 (some .int) 3 723 [.ref (Ω.2.1 + 0), .int (nI n), .int (nI q)] X (sm_rf w) (sm_det (some (.int (nI (if q = 0 then X (79 + 51 * n) 3 else if q = 1 then X (79 + 51 * n) 4 else if q = 2 then sm_n (fun k => sfr X w n k) 12 else sm_n (fun k => decide (X (82 + 51 * n + 4 * k + 2 * (1 - w n k)) 0 ≠ 0)) 12)))) X (sm_rf w)) := by
  refine sm_intro (own := RX6) (L := [some (.ref (Ω.2.1 + 0)), some (.int (nI n)), some (.int (nI q))]) (by decide) rfl (by simp [Value.category]) (Nat.le_of_ble_eq_true rfl) rfl ?_
  intro Γ C I
  have gi := hf.2.1 n hn
  refine sg_iln (pc := 0) C d_S_node_0 rfl ?_
  refine sg_bi (pc := 1) (v := 12) C d_S_node_1 (by decide) ?_
  refine sm_callS (pc := 3) (As := [.int (nI n), .int (nI 12)]) C I (c_S_checkIndex l Ω (by omega) (by decide)) cw_S_63 sw_S_checkIndex rfl (by decide) ⟨by decide, by decide⟩ rfl (Nat.le_of_ble_eq_true rfl) d_S_node_3 (sm_det_v ?_)
  refine sg_iln (pc := 6) C d_S_node_6 rfl ?_
  refine sg_ic (pc := 7) (v := 4) C d_S_node_7 (by decide) ?_
  refine sm_callS (pc := 8) (As := [.int (nI q), .int (nI 4)]) C I (c_S_checkIndex l Ω (by omega) (by decide)) cw_S_63 sw_S_checkIndex rfl (by decide) ⟨by decide, by decide⟩ rfl (Nat.le_of_ble_eq_true rfl) d_S_node_8 (sm_det_v ?_)
  refine sg_iln (pc := 11) C d_S_node_11 rfl ?_
  refine sg_ifne (pc := 12) (tgt := 33) C d_S_node_12 (by decide) (by omega) (fun h12 => ?_) (fun h12 => ?_)
  · refine sg_iln (pc := 33) C d_S_node_33 rfl ?_
    refine sg_ic (pc := 34) (v := 1) C d_S_node_34 (by decide) ?_
    refine sg_icne (pc := 35) (tgt := 48) C d_S_node_35 (by decide) (by omega) (by omega) (fun h35 => ?_) (fun h35 => ?_)
    · refine sg_iln (pc := 48) C d_S_node_48 rfl ?_
      refine sg_ic (pc := 49) (v := 2) C d_S_node_49 (by decide) ?_
      refine sg_icne (pc := 50) (tgt := 61) C d_S_node_50 (by decide) (by omega) (by omega) (fun h50 => ?_) (fun h50 => ?_)
      · refine sg_aln (pc := 61) C d_S_node_61 rfl ?_
        refine sg_getr (pc := 62) C fw_S_25 (by omega) rfl rfl rfl d_S_node_62 ?_
        refine sg_iln (pc := 65) C d_S_node_65 rfl ?_
        refine sg_aald (pc := 66) (n := 12) (t := 4) C (by omega) rfl (by decide) rfl rfl (by omega) (by decide) (rf_nodes (by omega)) d_S_node_66 ?_
        refine sm_callV (pc := 67) (As := []) C I (c_N_countShadows l Ω hf.1 hn (fun k hk => by have := hf.2.2.2 n k (1 - w n k) hn hk (by omega); omega)) cw_S_171 iw_N_countShadows (C.1.2.2.2.2 _ (List.mem_cons_of_mem _ se_N_countShadows)) (by omega) (sh_N (by omega)) rfl rfl rfl (by decide) ⟨by decide, by decide⟩ rfl (Nat.le_of_ble_eq_true rfl) d_S_node_67 (sm_det_i ?_)
        exact sg_iret (pc := 70) C I rfl rfl d_S_node_70 ⟨by rw [if_neg h12, if_neg h35, if_neg h50], rfl, rfl⟩
      · refine sg_aln (pc := 53) C d_S_node_53 rfl ?_
        refine sg_iln (pc := 54) C d_S_node_54 rfl ?_
        refine sm_callV (pc := 55) (As := [.int (nI n)]) C I (c_S_countFresh l Ω hf hn) cw_S_168 iw_S_countFresh (C.1.2.2.2.2 _ (List.mem_cons_of_mem _ se_S_countFresh)) (by omega) rfl rfl rfl rfl (by decide) ⟨by decide, by decide⟩ rfl (Nat.le_of_ble_eq_true rfl) d_S_node_55 (sm_det_i ?_)
        refine sg_goto (pc := 58) (tgt := 70) C d_S_node_58 (by decide) ?_
        exact sg_iret (pc := 70) C I rfl rfl d_S_node_70 ⟨by rw [if_neg h12, if_neg h35, if_pos h50], rfl, rfl⟩
    · refine sg_aln (pc := 38) C d_S_node_38 rfl ?_
      refine sg_getr (pc := 39) C fw_S_25 (by omega) rfl rfl rfl d_S_node_39 ?_
      refine sg_iln (pc := 42) C d_S_node_42 rfl ?_
      refine sg_aald (pc := 43) (n := 12) (t := 4) C (by omega) rfl (by decide) rfl rfl (by omega) (by decide) (rf_nodes (by omega)) d_S_node_43 ?_
      refine sg_geti (pc := 44) C fw_S_165 (by omega) (sh_N (by omega)) rfl d_S_node_44 ?_
      exact sg_iret (pc := 47) C I rfl rfl d_S_node_47 ⟨by rw [if_neg h12, if_pos h35], rfl, rfl⟩
  · refine sg_aln (pc := 15) C d_S_node_15 rfl ?_
    refine sg_getr (pc := 16) C fw_S_25 (by omega) rfl rfl rfl d_S_node_16 ?_
    refine sg_iln (pc := 19) C d_S_node_19 rfl ?_
    refine sg_aald (pc := 20) (n := 12) (t := 4) C (by omega) rfl (by decide) rfl rfl (by omega) (by decide) (rf_nodes (by omega)) d_S_node_20 ?_
    refine sg_geti (pc := 21) C fw_S_149 (by omega) (sh_N (by omega)) rfl d_S_node_21 ?_
    refine sg_ifeq (pc := 24) (tgt := 31) C d_S_node_24 (by decide) (by omega) (fun h24 => ?_) (fun h24 => ?_)
    · refine sg_ic (pc := 31) (v := 0) C d_S_node_31 (by decide) ?_
      exact sg_iret (pc := 32) C I rfl rfl d_S_node_32 ⟨by rw [if_pos h12, h24], rfl, rfl⟩
    · refine sg_ic (pc := 27) (v := 1) C d_S_node_27 (by decide) ?_
      refine sg_goto (pc := 28) (tgt := 32) C d_S_node_28 (by decide) ?_
      exact sg_iret (pc := 32) C I rfl rfl d_S_node_32 ⟨by rw [if_pos h12, show X (79 + 51 * n) 3 = 1 by omega], rfl, rfl⟩

set_option maxHeartbeats 4000000 in
set_option maxRecDepth 100000 in
theorem x_S_node1 (l : Launch) (hl : l.stackTraces = false) (Ω : sm_Ω) {X : sm_X} {w : Nat → Nat → Nat} {x z : Int32} (hx : x < 0 ∨ nI 12 ≤ x) : sm_thr l Ω y_S_node b_S_node 3 (some .int) 7 [.ref (Ω.2.1 + 0), .int x, .int z] X (sm_rf w) eIO := by
  refine sm_introX (own := RX6) (L := [some (.ref (Ω.2.1 + 0)), some (.int x), some (.int z)]) (by decide) rfl (by simp [Value.category]) (Nat.le_of_ble_eq_true rfl) rfl ?_
  intro Γ C J
  refine sg_iln (pc := 0) C d_S_node_0 rfl ?_
  refine sg_bi (pc := 1) (v := 12) C d_S_node_1 (by decide) ?_
  exact sm_callSX (pc := 3) (As := [.int x, .int (nI 12)]) C J (x_S_checkIndex l hl Ω hx) cw_S_63 sw_S_checkIndex rfl (by decide) rfl (Nat.le_of_ble_eq_true rfl) d_S_node_3

set_option maxHeartbeats 4000000 in
set_option maxRecDepth 100000 in
theorem x_S_node2 (l : Launch) (hl : l.stackTraces = false) (Ω : sm_Ω) {X : sm_X} {w : Nat → Nat → Nat} {n : Nat} {x : Int32} (hn : n < 12) (hx : x < 0 ∨ nI 4 ≤ x) : sm_thr l Ω y_S_node b_S_node 3 (some .int) 7 [.ref (Ω.2.1 + 0), .int (nI n), .int x] X (sm_rf w) eIO := by
  refine sm_introX (own := RX6) (L := [some (.ref (Ω.2.1 + 0)), some (.int (nI n)), some (.int x)]) (by decide) rfl (by simp [Value.category]) (Nat.le_of_ble_eq_true rfl) rfl ?_
  intro Γ C J
  refine sg_iln (pc := 0) C d_S_node_0 rfl ?_
  refine sg_bi (pc := 1) (v := 12) C d_S_node_1 (by decide) ?_
  refine sm_callS (pc := 3) (As := [.int (nI n), .int (nI 12)]) C J (c_S_checkIndex l Ω (by omega) (by decide)) cw_S_63 sw_S_checkIndex rfl (by decide) ⟨by decide, by decide⟩ rfl (Nat.le_of_ble_eq_true rfl) d_S_node_3 (sm_det_v ?_)
  refine sg_iln (pc := 6) C d_S_node_6 rfl ?_
  refine sg_ic (pc := 7) (v := 4) C d_S_node_7 (by decide) ?_
  exact sm_callSX (pc := 8) (As := [.int x, .int (nI 4)]) C J (x_S_checkIndex l hl Ω hx) cw_S_63 sw_S_checkIndex rfl (by decide) rfl (Nat.le_of_ble_eq_true rfl) d_S_node_8

set_option maxHeartbeats 4000000 in
set_option maxRecDepth 100000 in
theorem c_S_share (l : Launch) (Ω : sm_Ω) {X : sm_X} {w : Nat → Nat → Nat} (hf : swf X w) {n o q : Nat} (hn : n < 12) (ho : o < 12) (hq : q < 2) : sm_met l Ω y_S_share b_S_share 5 (some .int) 2 723 [.ref (Ω.2.1 + 0), .int (nI n), .int (nI o), .int (nI q)] X (sm_rf w) (sm_det (some (.int (nI (if q = 0 then X (82 + 51 * n + 4 * o + 2 * w n o) 0 else X (82 + 51 * n + 4 * o + 2 * w n o) 1)))) X (sm_rf w)) := by
  refine sm_intro (own := RX6) (L := [some (.ref (Ω.2.1 + 0)), some (.int (nI n)), some (.int (nI o)), some (.int (nI q)), none]) (by decide) rfl (by simp [Value.category]) (Nat.le_of_ble_eq_true rfl) rfl ?_
  intro Γ C I
  have hw := hf.1
  have hwn := hw n o
  refine sg_iln (pc := 0) C d_S_share_0 rfl ?_
  refine sg_bi (pc := 1) (v := 12) C d_S_share_1 (by decide) ?_
  refine sm_callS (pc := 3) (As := [.int (nI n), .int (nI 12)]) C I (c_S_checkIndex l Ω (by omega) (by decide)) cw_S_63 sw_S_checkIndex rfl (by decide) ⟨by decide, by decide⟩ rfl (Nat.le_of_ble_eq_true rfl) d_S_share_3 (sm_det_v ?_)
  refine sg_iln (pc := 6) C d_S_share_6 rfl ?_
  refine sg_bi (pc := 7) (v := 12) C d_S_share_7 (by decide) ?_
  refine sm_callS (pc := 9) (As := [.int (nI o), .int (nI 12)]) C I (c_S_checkIndex l Ω (by omega) (by decide)) cw_S_63 sw_S_checkIndex rfl (by decide) ⟨by decide, by decide⟩ rfl (Nat.le_of_ble_eq_true rfl) d_S_share_9 (sm_det_v ?_)
  refine sg_iln (pc := 12) C d_S_share_12 rfl ?_
  refine sg_ic (pc := 13) (v := 2) C d_S_share_13 (by decide) ?_
  refine sm_callS (pc := 14) (As := [.int (nI q), .int (nI 2)]) C I (c_S_checkIndex l Ω (by omega) (by decide)) cw_S_63 sw_S_checkIndex rfl (by decide) ⟨by decide, by decide⟩ rfl (Nat.le_of_ble_eq_true rfl) d_S_share_14 (sm_det_v ?_)
  refine sg_aln (pc := 17) C d_S_share_17 rfl ?_
  refine sg_getr (pc := 18) C fw_S_25 (by omega) rfl rfl rfl d_S_share_18 ?_
  refine sg_iln (pc := 21) C d_S_share_21 rfl ?_
  refine sg_aald (pc := 22) (n := 12) (t := 4) C (by omega) rfl (by decide) rfl rfl (by omega) (by decide) (rf_nodes (by omega)) d_S_share_22 ?_
  refine sg_getr (pc := 23) C fw_S_174 (by omega) (sh_N (by omega)) rfl (rf_N1 (by omega)) d_S_share_23 ?_
  refine sg_iln (pc := 26) C d_S_share_26 rfl ?_
  refine sg_aald (pc := 27) (n := 12) (t := 6) C (by omega) (sh_Ns (by omega)) (by decide) rfl rfl (by omega) (by decide) (rf_Ns (by omega) (by omega)) d_S_share_27 ?_
  refine sg_as4 (pc := 28) C d_S_share_28 ?_
  refine sg_iln (pc := 30) C d_S_share_30 rfl ?_
  refine sg_ifne (pc := 31) (tgt := 42) C d_S_share_31 (by decide) (by omega) (fun h31 => ?_) (fun h31 => ?_)
  · refine sg_al (pc := 42) C d_S_share_42 rfl ?_
    refine sg_geti (pc := 44) C fw_S_183 (by omega) (sh_S (by omega) (by omega) (hw _ _)) rfl d_S_share_44 ?_
    exact sg_iret (pc := 47) C I rfl rfl d_S_share_47 ⟨by rw [if_neg h31], rfl, rfl⟩
  · refine sg_al (pc := 34) C d_S_share_34 rfl ?_
    refine sg_geti (pc := 36) C fw_S_178 (by omega) (sh_S (by omega) (by omega) (hw _ _)) rfl d_S_share_36 ?_
    refine sg_goto (pc := 39) (tgt := 47) C d_S_share_39 (by decide) ?_
    exact sg_iret (pc := 47) C I rfl rfl d_S_share_47 ⟨by rw [if_pos h31], rfl, rfl⟩

set_option maxHeartbeats 4000000 in
set_option maxRecDepth 100000 in
theorem x_S_share1 (l : Launch) (hl : l.stackTraces = false) (Ω : sm_Ω) {X : sm_X} {w : Nat → Nat → Nat} {x z u : Int32} (hx : x < 0 ∨ nI 12 ≤ x) : sm_thr l Ω y_S_share b_S_share 5 (some .int) 7 [.ref (Ω.2.1 + 0), .int x, .int z, .int u] X (sm_rf w) eIO := by
  refine sm_introX (own := RX6) (L := [some (.ref (Ω.2.1 + 0)), some (.int x), some (.int z), some (.int u), none]) (by decide) rfl (by simp [Value.category]) (Nat.le_of_ble_eq_true rfl) rfl ?_
  intro Γ C J
  refine sg_iln (pc := 0) C d_S_share_0 rfl ?_
  refine sg_bi (pc := 1) (v := 12) C d_S_share_1 (by decide) ?_
  exact sm_callSX (pc := 3) (As := [.int x, .int (nI 12)]) C J (x_S_checkIndex l hl Ω hx) cw_S_63 sw_S_checkIndex rfl (by decide) rfl (Nat.le_of_ble_eq_true rfl) d_S_share_3

set_option maxHeartbeats 4000000 in
set_option maxRecDepth 100000 in
theorem x_S_share2 (l : Launch) (hl : l.stackTraces = false) (Ω : sm_Ω) {X : sm_X} {w : Nat → Nat → Nat} {n : Nat} {x u : Int32} (hn : n < 12) (hx : x < 0 ∨ nI 12 ≤ x) : sm_thr l Ω y_S_share b_S_share 5 (some .int) 7 [.ref (Ω.2.1 + 0), .int (nI n), .int x, .int u] X (sm_rf w) eIO := by
  refine sm_introX (own := RX6) (L := [some (.ref (Ω.2.1 + 0)), some (.int (nI n)), some (.int x), some (.int u), none]) (by decide) rfl (by simp [Value.category]) (Nat.le_of_ble_eq_true rfl) rfl ?_
  intro Γ C J
  refine sg_iln (pc := 0) C d_S_share_0 rfl ?_
  refine sg_bi (pc := 1) (v := 12) C d_S_share_1 (by decide) ?_
  refine sm_callS (pc := 3) (As := [.int (nI n), .int (nI 12)]) C J (c_S_checkIndex l Ω (by omega) (by decide)) cw_S_63 sw_S_checkIndex rfl (by decide) ⟨by decide, by decide⟩ rfl (Nat.le_of_ble_eq_true rfl) d_S_share_3 (sm_det_v ?_)
  refine sg_iln (pc := 6) C d_S_share_6 rfl ?_
  refine sg_bi (pc := 7) (v := 12) C d_S_share_7 (by decide) ?_
  exact sm_callSX (pc := 9) (As := [.int x, .int (nI 12)]) C J (x_S_checkIndex l hl Ω hx) cw_S_63 sw_S_checkIndex rfl (by decide) rfl (Nat.le_of_ble_eq_true rfl) d_S_share_9

set_option maxHeartbeats 4000000 in
set_option maxRecDepth 100000 in
theorem x_S_share3 (l : Launch) (hl : l.stackTraces = false) (Ω : sm_Ω) {X : sm_X} {w : Nat → Nat → Nat} {n o : Nat} {x : Int32} (hn : n < 12) (ho : o < 12) (hx : x < 0 ∨ nI 2 ≤ x) : sm_thr l Ω y_S_share b_S_share 5 (some .int) 7 [.ref (Ω.2.1 + 0), .int (nI n), .int (nI o), .int x] X (sm_rf w) eIO := by
  refine sm_introX (own := RX6) (L := [some (.ref (Ω.2.1 + 0)), some (.int (nI n)), some (.int (nI o)), some (.int x), none]) (by decide) rfl (by simp [Value.category]) (Nat.le_of_ble_eq_true rfl) rfl ?_
  intro Γ C J
  refine sg_iln (pc := 0) C d_S_share_0 rfl ?_
  refine sg_bi (pc := 1) (v := 12) C d_S_share_1 (by decide) ?_
  refine sm_callS (pc := 3) (As := [.int (nI n), .int (nI 12)]) C J (c_S_checkIndex l Ω (by omega) (by decide)) cw_S_63 sw_S_checkIndex rfl (by decide) ⟨by decide, by decide⟩ rfl (Nat.le_of_ble_eq_true rfl) d_S_share_3 (sm_det_v ?_)
  refine sg_iln (pc := 6) C d_S_share_6 rfl ?_
  refine sg_bi (pc := 7) (v := 12) C d_S_share_7 (by decide) ?_
  refine sm_callS (pc := 9) (As := [.int (nI o), .int (nI 12)]) C J (c_S_checkIndex l Ω (by omega) (by decide)) cw_S_63 sw_S_checkIndex rfl (by decide) ⟨by decide, by decide⟩ rfl (Nat.le_of_ble_eq_true rfl) d_S_share_9 (sm_det_v ?_)
  refine sg_iln (pc := 12) C d_S_share_12 rfl ?_
  refine sg_ic (pc := 13) (v := 2) C d_S_share_13 (by decide) ?_
  exact sm_callSX (pc := 14) (As := [.int x, .int (nI 2)]) C J (x_S_checkIndex l hl Ω hx) cw_S_63 sw_S_checkIndex rfl (by decide) rfl (Nat.le_of_ble_eq_true rfl) d_S_share_14

set_option maxHeartbeats 4000000 in
set_option maxRecDepth 100000 in
theorem c_S_byteAt (l : Launch) (Ω : sm_Ω) {X : sm_X} {w : Nat → Nat → Nat} (hf : swf X w) {n o i : Nat} (hn : n < 12) (ho : o < 12) (hi : i < (8 * ((X (82 + 51 * n + 4 * o + 2 * w n o) 1 + 29) / 30))) : sm_met l Ω y_S_byteAt b_S_byteAt 5 (some .int) 2 723 [.ref (Ω.2.1 + 0), .int (nI n), .int (nI o), .int (nI i)] X (sm_rf w) (sm_det (some (.int (nI (X (83 + 51 * n + 4 * o + 2 * w n o) i)))) X (sm_rf w)) := by
  refine sm_intro (own := RX6) (L := [some (.ref (Ω.2.1 + 0)), some (.int (nI n)), some (.int (nI o)), some (.int (nI i)), none]) (by decide) rfl (by simp [Value.category]) (Nat.le_of_ble_eq_true rfl) rfl ?_
  intro Γ C I
  have hw := hf.1
  have hwn := hw n o
  have g1 := hf.2.2.2 n o (w n o) hn ho hwn
  refine sg_iln (pc := 0) C d_S_byteAt_0 rfl ?_
  refine sg_bi (pc := 1) (v := 12) C d_S_byteAt_1 (by decide) ?_
  refine sm_callS (pc := 3) (As := [.int (nI n), .int (nI 12)]) C I (c_S_checkIndex l Ω (by omega) (by decide)) cw_S_63 sw_S_checkIndex rfl (by decide) ⟨by decide, by decide⟩ rfl (Nat.le_of_ble_eq_true rfl) d_S_byteAt_3 (sm_det_v ?_)
  refine sg_iln (pc := 6) C d_S_byteAt_6 rfl ?_
  refine sg_bi (pc := 7) (v := 12) C d_S_byteAt_7 (by decide) ?_
  refine sm_callS (pc := 9) (As := [.int (nI o), .int (nI 12)]) C I (c_S_checkIndex l Ω (by omega) (by decide)) cw_S_63 sw_S_checkIndex rfl (by decide) ⟨by decide, by decide⟩ rfl (Nat.le_of_ble_eq_true rfl) d_S_byteAt_9 (sm_det_v ?_)
  refine sg_aln (pc := 12) C d_S_byteAt_12 rfl ?_
  refine sg_getr (pc := 13) C fw_S_25 (by omega) rfl rfl rfl d_S_byteAt_13 ?_
  refine sg_iln (pc := 16) C d_S_byteAt_16 rfl ?_
  refine sg_aald (pc := 17) (n := 12) (t := 4) C (by omega) rfl (by decide) rfl rfl (by omega) (by decide) (rf_nodes (by omega)) d_S_byteAt_17 ?_
  refine sg_getr (pc := 18) C fw_S_174 (by omega) (sh_N (by omega)) rfl (rf_N1 (by omega)) d_S_byteAt_18 ?_
  refine sg_iln (pc := 21) C d_S_byteAt_21 rfl ?_
  refine sg_aald (pc := 22) (n := 12) (t := 6) C (by omega) (sh_Ns (by omega)) (by decide) rfl rfl (by omega) (by decide) (rf_Ns (by omega) (by omega)) d_S_byteAt_22 ?_
  refine sg_as4 (pc := 23) C d_S_byteAt_23 ?_
  refine sg_iln (pc := 25) C d_S_byteAt_25 rfl ?_
  refine sg_bi (pc := 26) (v := 8) C d_S_byteAt_26 (by decide) ?_
  refine sg_al (pc := 28) C d_S_byteAt_28 rfl ?_
  refine sg_geti (pc := 30) C fw_S_183 (by omega) (sh_S (by omega) (by omega) (hw _ _)) rfl d_S_byteAt_30 ?_
  refine sm_callS (pc := 33) (As := [.int (nI (X (82 + 51 * n + 4 * o + 2 * w n o) 1))]) C I (c_S_stripesOf l Ω (by omega)) cw_S_184 sw_S_stripesOf rfl (by decide) ⟨by decide, by decide⟩ rfl (Nat.le_of_ble_eq_true rfl) d_S_byteAt_33 (sm_det_i ?_)
  refine sg_mul (pc := 36) C d_S_byteAt_36 ?_
  refine sm_callS (pc := 37) (As := [.int (nI i), .int (nI (8 * ((X (82 + 51 * n + 4 * o + 2 * w n o) 1 + 29) / 30)))]) C I (c_S_checkIndex l Ω hi (by omega)) cw_S_63 sw_S_checkIndex rfl (by decide) ⟨by decide, by decide⟩ rfl (Nat.le_of_ble_eq_true rfl) d_S_byteAt_37 (sm_det_v ?_)
  refine sg_al (pc := 40) C d_S_byteAt_40 rfl ?_
  refine sg_getr (pc := 42) C fw_S_187 (by omega) (sh_S (by omega) (by omega) (hw _ _)) rfl (rf_S2 (by omega) (by omega) (hw _ _)) d_S_byteAt_42 ?_
  refine sg_iln (pc := 45) C d_S_byteAt_45 rfl ?_
  refine sg_iald (pc := 46) (n := 64) C (by omega) (sh_Sb (by omega) (by omega) (hw _ _)) (by omega) (by decide) d_S_byteAt_46 ?_
  exact sg_iret (pc := 47) C I rfl rfl d_S_byteAt_47 ⟨rfl, rfl, rfl⟩

set_option maxHeartbeats 4000000 in
set_option maxRecDepth 100000 in
theorem x_S_byteAt1 (l : Launch) (hl : l.stackTraces = false) (Ω : sm_Ω) {X : sm_X} {w : Nat → Nat → Nat} {x z u : Int32} (hx : x < 0 ∨ nI 12 ≤ x) : sm_thr l Ω y_S_byteAt b_S_byteAt 5 (some .int) 7 [.ref (Ω.2.1 + 0), .int x, .int z, .int u] X (sm_rf w) eIO := by
  refine sm_introX (own := RX6) (L := [some (.ref (Ω.2.1 + 0)), some (.int x), some (.int z), some (.int u), none]) (by decide) rfl (by simp [Value.category]) (Nat.le_of_ble_eq_true rfl) rfl ?_
  intro Γ C J
  refine sg_iln (pc := 0) C d_S_byteAt_0 rfl ?_
  refine sg_bi (pc := 1) (v := 12) C d_S_byteAt_1 (by decide) ?_
  exact sm_callSX (pc := 3) (As := [.int x, .int (nI 12)]) C J (x_S_checkIndex l hl Ω hx) cw_S_63 sw_S_checkIndex rfl (by decide) rfl (Nat.le_of_ble_eq_true rfl) d_S_byteAt_3

set_option maxHeartbeats 4000000 in
set_option maxRecDepth 100000 in
theorem x_S_byteAt2 (l : Launch) (hl : l.stackTraces = false) (Ω : sm_Ω) {X : sm_X} {w : Nat → Nat → Nat} {n : Nat} {x u : Int32} (hn : n < 12) (hx : x < 0 ∨ nI 12 ≤ x) : sm_thr l Ω y_S_byteAt b_S_byteAt 5 (some .int) 7 [.ref (Ω.2.1 + 0), .int (nI n), .int x, .int u] X (sm_rf w) eIO := by
  refine sm_introX (own := RX6) (L := [some (.ref (Ω.2.1 + 0)), some (.int (nI n)), some (.int x), some (.int u), none]) (by decide) rfl (by simp [Value.category]) (Nat.le_of_ble_eq_true rfl) rfl ?_
  intro Γ C J
  refine sg_iln (pc := 0) C d_S_byteAt_0 rfl ?_
  refine sg_bi (pc := 1) (v := 12) C d_S_byteAt_1 (by decide) ?_
  refine sm_callS (pc := 3) (As := [.int (nI n), .int (nI 12)]) C J (c_S_checkIndex l Ω (by omega) (by decide)) cw_S_63 sw_S_checkIndex rfl (by decide) ⟨by decide, by decide⟩ rfl (Nat.le_of_ble_eq_true rfl) d_S_byteAt_3 (sm_det_v ?_)
  refine sg_iln (pc := 6) C d_S_byteAt_6 rfl ?_
  refine sg_bi (pc := 7) (v := 12) C d_S_byteAt_7 (by decide) ?_
  exact sm_callSX (pc := 9) (As := [.int x, .int (nI 12)]) C J (x_S_checkIndex l hl Ω hx) cw_S_63 sw_S_checkIndex rfl (by decide) rfl (Nat.le_of_ble_eq_true rfl) d_S_byteAt_9

set_option maxHeartbeats 4000000 in
set_option maxRecDepth 100000 in
theorem x_S_byteAt3 (l : Launch) (hl : l.stackTraces = false) (Ω : sm_Ω) {X : sm_X} {w : Nat → Nat → Nat} (hf : swf X w) {n o : Nat} {x : Int32} (hn : n < 12) (ho : o < 12) (hx : x < 0 ∨ nI (8 * ((X (82 + 51 * n + 4 * o + 2 * w n o) 1 + 29) / 30)) ≤ x) : sm_thr l Ω y_S_byteAt b_S_byteAt 5 (some .int) 7 [.ref (Ω.2.1 + 0), .int (nI n), .int (nI o), .int x] X (sm_rf w) eIO := by
  refine sm_introX (own := RX6) (L := [some (.ref (Ω.2.1 + 0)), some (.int (nI n)), some (.int (nI o)), some (.int x), none]) (by decide) rfl (by simp [Value.category]) (Nat.le_of_ble_eq_true rfl) rfl ?_
  intro Γ C J
  have hw := hf.1
  have hwn := hw n o
  have g1 := hf.2.2.2 n o (w n o) hn ho hwn
  refine sg_iln (pc := 0) C d_S_byteAt_0 rfl ?_
  refine sg_bi (pc := 1) (v := 12) C d_S_byteAt_1 (by decide) ?_
  refine sm_callS (pc := 3) (As := [.int (nI n), .int (nI 12)]) C J (c_S_checkIndex l Ω (by omega) (by decide)) cw_S_63 sw_S_checkIndex rfl (by decide) ⟨by decide, by decide⟩ rfl (Nat.le_of_ble_eq_true rfl) d_S_byteAt_3 (sm_det_v ?_)
  refine sg_iln (pc := 6) C d_S_byteAt_6 rfl ?_
  refine sg_bi (pc := 7) (v := 12) C d_S_byteAt_7 (by decide) ?_
  refine sm_callS (pc := 9) (As := [.int (nI o), .int (nI 12)]) C J (c_S_checkIndex l Ω (by omega) (by decide)) cw_S_63 sw_S_checkIndex rfl (by decide) ⟨by decide, by decide⟩ rfl (Nat.le_of_ble_eq_true rfl) d_S_byteAt_9 (sm_det_v ?_)
  refine sg_aln (pc := 12) C d_S_byteAt_12 rfl ?_
  refine sg_getr (pc := 13) C fw_S_25 (by omega) rfl rfl rfl d_S_byteAt_13 ?_
  refine sg_iln (pc := 16) C d_S_byteAt_16 rfl ?_
  refine sg_aald (pc := 17) (n := 12) (t := 4) C (by omega) rfl (by decide) rfl rfl (by omega) (by decide) (rf_nodes (by omega)) d_S_byteAt_17 ?_
  refine sg_getr (pc := 18) C fw_S_174 (by omega) (sh_N (by omega)) rfl (rf_N1 (by omega)) d_S_byteAt_18 ?_
  refine sg_iln (pc := 21) C d_S_byteAt_21 rfl ?_
  refine sg_aald (pc := 22) (n := 12) (t := 6) C (by omega) (sh_Ns (by omega)) (by decide) rfl rfl (by omega) (by decide) (rf_Ns (by omega) (by omega)) d_S_byteAt_22 ?_
  refine sg_as4 (pc := 23) C d_S_byteAt_23 ?_
  refine sg_iln (pc := 25) C d_S_byteAt_25 rfl ?_
  refine sg_bi (pc := 26) (v := 8) C d_S_byteAt_26 (by decide) ?_
  refine sg_al (pc := 28) C d_S_byteAt_28 rfl ?_
  refine sg_geti (pc := 30) C fw_S_183 (by omega) (sh_S (by omega) (by omega) (hw _ _)) rfl d_S_byteAt_30 ?_
  refine sm_callS (pc := 33) (As := [.int (nI (X (82 + 51 * n + 4 * o + 2 * w n o) 1))]) C J (c_S_stripesOf l Ω (by omega)) cw_S_184 sw_S_stripesOf rfl (by decide) ⟨by decide, by decide⟩ rfl (Nat.le_of_ble_eq_true rfl) d_S_byteAt_33 (sm_det_i ?_)
  refine sg_mul (pc := 36) C d_S_byteAt_36 ?_
  exact sm_callSX (pc := 37) (As := [.int x, .int (nI (8 * ((X (82 + 51 * n + 4 * o + 2 * w n o) 1 + 29) / 30)))]) C J (x_S_checkIndex l hl Ω hx) cw_S_63 sw_S_checkIndex rfl (by decide) rfl (Nat.le_of_ble_eq_true rfl) d_S_byteAt_37

set_option maxHeartbeats 4000000 in
set_option maxRecDepth 100000 in
theorem c_S_field0 (l : Launch) (Ω : sm_Ω) {X : sm_X} {w : Nat → Nat → Nat} {a b : Nat} (hG : gal X) (ha : a < 256) (hb : b < 256) : sm_met l Ω y_S_field b_S_field 4 (some .int) 2 723 [.ref (Ω.2.1 + 0), .int (nI a), .int (nI b), .int (nI 0)] X (sm_rf w) (sm_det (some (.int (nI (gf_t a b)))) X (sm_rf w)) := by
  refine sm_intro (own := RX6) (L := [some (.ref (Ω.2.1 + 0)), some (.int (nI a)), some (.int (nI b)), some (.int (nI 0))]) (by decide) rfl (by simp [Value.category]) (Nat.le_of_ble_eq_true rfl) rfl ?_
  intro Γ C I
  refine sg_iln (pc := 0) C d_S_field_0 rfl ?_
  refine sg_ic (pc := 1) (v := 2) C d_S_field_1 (by decide) ?_
  refine sm_callS (pc := 2) (As := [.int (nI 0), .int (nI 2)]) C I (c_S_checkIndex l Ω (by decide) (by decide)) cw_S_63 sw_S_checkIndex rfl (by decide) ⟨by decide, by decide⟩ rfl (Nat.le_of_ble_eq_true rfl) d_S_field_2 (sm_det_v ?_)
  refine sg_iln (pc := 5) C d_S_field_5 rfl ?_
  refine sm_callS (pc := 6) (As := [.int (nI a)]) C I (c_S_isByte1 l Ω ha) cw_S_190 sw_S_isByte rfl (by decide) ⟨by decide, by decide⟩ rfl (Nat.le_of_ble_eq_true rfl) d_S_field_6 (sm_det_i ?_)
  refine sg_ifeq (pc := 9) (tgt := 28) C d_S_field_9 (by decide) (by omega) (fun h9 => absurd h9 (by decide)) (fun h9 => ?_)
  refine sg_iln (pc := 12) C d_S_field_12 rfl ?_
  refine sm_callS (pc := 13) (As := [.int (nI b)]) C I (c_S_isByte1 l Ω hb) cw_S_190 sw_S_isByte rfl (by decide) ⟨by decide, by decide⟩ rfl (Nat.le_of_ble_eq_true rfl) d_S_field_13 (sm_det_i ?_)
  refine sg_ifeq (pc := 16) (tgt := 28) C d_S_field_16 (by decide) (by omega) (fun h16 => absurd h16 (by decide)) (fun h16 => ?_)
  refine sg_iln (pc := 19) C d_S_field_19 rfl ?_
  refine sg_ic (pc := 20) (v := 1) C d_S_field_20 (by decide) ?_
  refine sg_icne (pc := 21) (tgt := 36) C d_S_field_21 (by decide) (by omega) (by omega) (fun h21 => ?_) (fun h21 => absurd h21 (by decide))
  refine sg_iln (pc := 36) C d_S_field_36 rfl ?_
  refine sg_ifne (pc := 37) (tgt := 52) C d_S_field_37 (by decide) (by omega) (fun h37 => absurd rfl h37) (fun h37 => ?_)
  refine sg_aln (pc := 40) C d_S_field_40 rfl ?_
  refine sg_getr (pc := 41) C fw_S_12 (by omega) rfl rfl rfl d_S_field_41 ?_
  refine sg_iln (pc := 44) C d_S_field_44 rfl ?_
  refine sg_iln (pc := 45) C d_S_field_45 rfl ?_
  refine sm_callV (pc := 46) (As := [.int (nI a), .int (nI b)]) C I (c_G_times l Ω hG ha hb) cw_S_194 iw_G_times (C.1.2.2.2.2 _ (List.mem_cons_of_mem _ se_G_times)) (by omega) rfl rfl rfl rfl (by decide) ⟨by decide, by decide⟩ rfl (Nat.le_of_ble_eq_true rfl) d_S_field_46 (sm_det_i ?_)
  refine sg_goto (pc := 49) (tgt := 61) C d_S_field_49 (by decide) ?_
  exact sg_iret (pc := 61) C I rfl rfl d_S_field_61 ⟨rfl, rfl, rfl⟩

set_option maxHeartbeats 4000000 in
set_option maxRecDepth 100000 in
theorem c_S_field1 (l : Launch) (Ω : sm_Ω) {X : sm_X} {w : Nat → Nat → Nat} {a b : Nat} (hG : gal X) (ha : a < 256) (hb : b < 256) (h0 : a ≠ 0) : sm_met l Ω y_S_field b_S_field 4 (some .int) 2 723 [.ref (Ω.2.1 + 0), .int (nI a), .int (nI b), .int (nI 1)] X (sm_rf w) (sm_det (some (.int (nI (gf_d b a)))) X (sm_rf w)) := by
  refine sm_intro (own := RX6) (L := [some (.ref (Ω.2.1 + 0)), some (.int (nI a)), some (.int (nI b)), some (.int (nI 1))]) (by decide) rfl (by simp [Value.category]) (Nat.le_of_ble_eq_true rfl) rfl ?_
  intro Γ C I
  refine sg_iln (pc := 0) C d_S_field_0 rfl ?_
  refine sg_ic (pc := 1) (v := 2) C d_S_field_1 (by decide) ?_
  refine sm_callS (pc := 2) (As := [.int (nI 1), .int (nI 2)]) C I (c_S_checkIndex l Ω (by decide) (by decide)) cw_S_63 sw_S_checkIndex rfl (by decide) ⟨by decide, by decide⟩ rfl (Nat.le_of_ble_eq_true rfl) d_S_field_2 (sm_det_v ?_)
  refine sg_iln (pc := 5) C d_S_field_5 rfl ?_
  refine sm_callS (pc := 6) (As := [.int (nI a)]) C I (c_S_isByte1 l Ω ha) cw_S_190 sw_S_isByte rfl (by decide) ⟨by decide, by decide⟩ rfl (Nat.le_of_ble_eq_true rfl) d_S_field_6 (sm_det_i ?_)
  refine sg_ifeq (pc := 9) (tgt := 28) C d_S_field_9 (by decide) (by omega) (fun h9 => absurd h9 (by decide)) (fun h9 => ?_)
  refine sg_iln (pc := 12) C d_S_field_12 rfl ?_
  refine sm_callS (pc := 13) (As := [.int (nI b)]) C I (c_S_isByte1 l Ω hb) cw_S_190 sw_S_isByte rfl (by decide) ⟨by decide, by decide⟩ rfl (Nat.le_of_ble_eq_true rfl) d_S_field_13 (sm_det_i ?_)
  refine sg_ifeq (pc := 16) (tgt := 28) C d_S_field_16 (by decide) (by omega) (fun h16 => absurd h16 (by decide)) (fun h16 => ?_)
  refine sg_iln (pc := 19) C d_S_field_19 rfl ?_
  refine sg_ic (pc := 20) (v := 1) C d_S_field_20 (by decide) ?_
  refine sg_icne (pc := 21) (tgt := 36) C d_S_field_21 (by decide) (by omega) (by omega) (fun h21 => absurd rfl h21) (fun h21 => ?_)
  refine sg_iln (pc := 24) C d_S_field_24 rfl ?_
  refine sg_ifne (pc := 25) (tgt := 36) C d_S_field_25 (by decide) (by omega) (fun h25 => ?_) (fun h25 => absurd h25 h0)
  refine sg_iln (pc := 36) C d_S_field_36 rfl ?_
  refine sg_ifne (pc := 37) (tgt := 52) C d_S_field_37 (by decide) (by omega) (fun h37 => ?_) (fun h37 => absurd h37 (by decide))
  refine sg_aln (pc := 52) C d_S_field_52 rfl ?_
  refine sg_getr (pc := 53) C fw_S_12 (by omega) rfl rfl rfl d_S_field_53 ?_
  refine sg_iln (pc := 56) C d_S_field_56 rfl ?_
  refine sg_iln (pc := 57) C d_S_field_57 rfl ?_
  refine sm_callV (pc := 58) (As := [.int (nI b), .int (nI a)]) C I (c_G_over l Ω hG ha hb) cw_S_197 iw_G_over (C.1.2.2.2.2 _ (List.mem_cons_of_mem _ se_G_over)) (by omega) rfl rfl rfl rfl (by decide) ⟨by decide, by decide⟩ rfl (Nat.le_of_ble_eq_true rfl) d_S_field_58 (sm_det_i ?_)
  exact sg_iret (pc := 61) C I rfl rfl d_S_field_61 ⟨rfl, rfl, rfl⟩

set_option maxHeartbeats 4000000 in
set_option maxRecDepth 100000 in
theorem x_S_field1 (l : Launch) (hl : l.stackTraces = false) (Ω : sm_Ω) {X : sm_X} {w : Nat → Nat → Nat} {x z u : Int32} (hx : x < 0 ∨ nI 2 ≤ x) : sm_thr l Ω y_S_field b_S_field 4 (some .int) 7 [.ref (Ω.2.1 + 0), .int z, .int u, .int x] X (sm_rf w) eIO := by
  refine sm_introX (own := RX6) (L := [some (.ref (Ω.2.1 + 0)), some (.int z), some (.int u), some (.int x)]) (by decide) rfl (by simp [Value.category]) (Nat.le_of_ble_eq_true rfl) rfl ?_
  intro Γ C J
  refine sg_iln (pc := 0) C d_S_field_0 rfl ?_
  refine sg_ic (pc := 1) (v := 2) C d_S_field_1 (by decide) ?_
  exact sm_callSX (pc := 2) (As := [.int x, .int (nI 2)]) C J (x_S_checkIndex l hl Ω hx) cw_S_63 sw_S_checkIndex rfl (by decide) rfl (Nat.le_of_ble_eq_true rfl) d_S_field_2

set_option maxHeartbeats 4000000 in
set_option maxRecDepth 100000 in
theorem x_S_field2 (l : Launch) (hl : l.stackTraces = false) (Ω : sm_Ω) {X : sm_X} {w : Nat → Nat → Nat} {x u : Int32} {q : Nat} (hq : q < 2) (hx : x < 0 ∨ nI 255 < x) : sm_thr l Ω y_S_field b_S_field 4 (some .int) 7 [.ref (Ω.2.1 + 0), .int x, .int u, .int (nI q)] X (sm_rf w) eIA := by
  refine sm_introX (own := RX6) (L := [some (.ref (Ω.2.1 + 0)), some (.int x), some (.int u), some (.int (nI q))]) (by decide) rfl (by simp [Value.category]) (Nat.le_of_ble_eq_true rfl) rfl ?_
  intro Γ C J
  refine sg_iln (pc := 0) C d_S_field_0 rfl ?_
  refine sg_ic (pc := 1) (v := 2) C d_S_field_1 (by decide) ?_
  refine sm_callS (pc := 2) (As := [.int (nI q), .int (nI 2)]) C J (c_S_checkIndex l Ω (by omega) (by decide)) cw_S_63 sw_S_checkIndex rfl (by decide) ⟨by decide, by decide⟩ rfl (Nat.le_of_ble_eq_true rfl) d_S_field_2 (sm_det_v ?_)
  refine sg_iln (pc := 5) C d_S_field_5 rfl ?_
  refine sm_callS (pc := 6) (As := [.int x]) C J (c_S_isByte0 l Ω hx) cw_S_190 sw_S_isByte rfl (by decide) ⟨by decide, by decide⟩ rfl (Nat.le_of_ble_eq_true rfl) d_S_field_6 (sm_det_i ?_)
  refine sg_ifeq (pc := 9) (tgt := 28) C d_S_field_9 (by decide) (by omega) (fun h9 => ?_) (fun h9 => absurd rfl h9)
  exact sg_throw (pc := 28) C J hl tw_S_67 d_S_field_28 d_S_field_31 d_S_field_32 d_S_field_35 (by decide) rfl (Nat.le_of_ble_eq_true rfl)

set_option maxHeartbeats 4000000 in
set_option maxRecDepth 100000 in
theorem x_S_field3 (l : Launch) (hl : l.stackTraces = false) (Ω : sm_Ω) {X : sm_X} {w : Nat → Nat → Nat} {x : Int32} {a q : Nat} (hq : q < 2) (ha : a < 256) (hx : x < 0 ∨ nI 255 < x) : sm_thr l Ω y_S_field b_S_field 4 (some .int) 7 [.ref (Ω.2.1 + 0), .int (nI a), .int x, .int (nI q)] X (sm_rf w) eIA := by
  refine sm_introX (own := RX6) (L := [some (.ref (Ω.2.1 + 0)), some (.int (nI a)), some (.int x), some (.int (nI q))]) (by decide) rfl (by simp [Value.category]) (Nat.le_of_ble_eq_true rfl) rfl ?_
  intro Γ C J
  refine sg_iln (pc := 0) C d_S_field_0 rfl ?_
  refine sg_ic (pc := 1) (v := 2) C d_S_field_1 (by decide) ?_
  refine sm_callS (pc := 2) (As := [.int (nI q), .int (nI 2)]) C J (c_S_checkIndex l Ω (by omega) (by decide)) cw_S_63 sw_S_checkIndex rfl (by decide) ⟨by decide, by decide⟩ rfl (Nat.le_of_ble_eq_true rfl) d_S_field_2 (sm_det_v ?_)
  refine sg_iln (pc := 5) C d_S_field_5 rfl ?_
  refine sm_callS (pc := 6) (As := [.int (nI a)]) C J (c_S_isByte1 l Ω ha) cw_S_190 sw_S_isByte rfl (by decide) ⟨by decide, by decide⟩ rfl (Nat.le_of_ble_eq_true rfl) d_S_field_6 (sm_det_i ?_)
  refine sg_ifeq (pc := 9) (tgt := 28) C d_S_field_9 (by decide) (by omega) (fun h9 => absurd h9 (by decide)) (fun h9 => ?_)
  refine sg_iln (pc := 12) C d_S_field_12 rfl ?_
  refine sm_callS (pc := 13) (As := [.int x]) C J (c_S_isByte0 l Ω hx) cw_S_190 sw_S_isByte rfl (by decide) ⟨by decide, by decide⟩ rfl (Nat.le_of_ble_eq_true rfl) d_S_field_13 (sm_det_i ?_)
  refine sg_ifeq (pc := 16) (tgt := 28) C d_S_field_16 (by decide) (by omega) (fun h16 => ?_) (fun h16 => absurd rfl h16)
  exact sg_throw (pc := 28) C J hl tw_S_67 d_S_field_28 d_S_field_31 d_S_field_32 d_S_field_35 (by decide) rfl (Nat.le_of_ble_eq_true rfl)

set_option maxHeartbeats 4000000 in
set_option maxRecDepth 100000 in
theorem x_S_field4 (l : Launch) (hl : l.stackTraces = false) (Ω : sm_Ω) {X : sm_X} {w : Nat → Nat → Nat} {b : Nat} (hb : b < 256) : sm_thr l Ω y_S_field b_S_field 4 (some .int) 7 [.ref (Ω.2.1 + 0), .int (nI 0), .int (nI b), .int (nI 1)] X (sm_rf w) eIA := by
  refine sm_introX (own := RX6) (L := [some (.ref (Ω.2.1 + 0)), some (.int (nI 0)), some (.int (nI b)), some (.int (nI 1))]) (by decide) rfl (by simp [Value.category]) (Nat.le_of_ble_eq_true rfl) rfl ?_
  intro Γ C J
  refine sg_iln (pc := 0) C d_S_field_0 rfl ?_
  refine sg_ic (pc := 1) (v := 2) C d_S_field_1 (by decide) ?_
  refine sm_callS (pc := 2) (As := [.int (nI 1), .int (nI 2)]) C J (c_S_checkIndex l Ω (by decide) (by decide)) cw_S_63 sw_S_checkIndex rfl (by decide) ⟨by decide, by decide⟩ rfl (Nat.le_of_ble_eq_true rfl) d_S_field_2 (sm_det_v ?_)
  refine sg_iln (pc := 5) C d_S_field_5 rfl ?_
  refine sm_callS (pc := 6) (As := [.int (nI 0)]) C J (c_S_isByte1 l Ω (by decide)) cw_S_190 sw_S_isByte rfl (by decide) ⟨by decide, by decide⟩ rfl (Nat.le_of_ble_eq_true rfl) d_S_field_6 (sm_det_i ?_)
  refine sg_ifeq (pc := 9) (tgt := 28) C d_S_field_9 (by decide) (by omega) (fun h9 => absurd h9 (by decide)) (fun h9 => ?_)
  refine sg_iln (pc := 12) C d_S_field_12 rfl ?_
  refine sm_callS (pc := 13) (As := [.int (nI b)]) C J (c_S_isByte1 l Ω hb) cw_S_190 sw_S_isByte rfl (by decide) ⟨by decide, by decide⟩ rfl (Nat.le_of_ble_eq_true rfl) d_S_field_13 (sm_det_i ?_)
  refine sg_ifeq (pc := 16) (tgt := 28) C d_S_field_16 (by decide) (by omega) (fun h16 => absurd h16 (by decide)) (fun h16 => ?_)
  refine sg_iln (pc := 19) C d_S_field_19 rfl ?_
  refine sg_ic (pc := 20) (v := 1) C d_S_field_20 (by decide) ?_
  refine sg_icne (pc := 21) (tgt := 36) C d_S_field_21 (by decide) (by omega) (by omega) (fun h21 => absurd rfl h21) (fun h21 => ?_)
  refine sg_iln (pc := 24) C d_S_field_24 rfl ?_
  refine sg_ifne (pc := 25) (tgt := 36) C d_S_field_25 (by decide) (by omega) (fun h25 => absurd rfl h25) (fun h25 => ?_)
  exact sg_throw (pc := 28) C J hl tw_S_67 d_S_field_28 d_S_field_31 d_S_field_32 d_S_field_35 (by decide) rfl (Nat.le_of_ble_eq_true rfl)
