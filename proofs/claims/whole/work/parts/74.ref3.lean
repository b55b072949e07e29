/-! The reference: get, put, settle -/
def rgp (X : sm_X) (o m d : Nat) : Bool := bitp m d && (rlv X d && rfr X d o)
/-- the lowest of the last t of twelve -/
def lowP (p : Nat → Bool) : Nat → Nat
  | 0 => 0
  | t + 1 => if p (12 - (t + 1)) = true then 12 - (t + 1) else lowP p t
theorem lowP_ok {p : Nat → Bool} : ∀ t, t ≤ 12 → lowP p t < 12 ∧ ((∃ j, 12 - t ≤ j ∧ j < 12 ∧ p j = true) → p (lowP p t) = true)
  | 0, _ => ⟨by show 0 < 12; decide, fun ⟨j, h1, h2, _⟩ => absurd h1 (by omega)⟩
  | t + 1, ht => by
    have ih := lowP_ok (p := p) t (by omega)
    show (if p (12 - (t + 1)) = true then 12 - (t + 1) else lowP p t) < 12 ∧ ((∃ j, 12 - (t + 1) ≤ j ∧ j < 12 ∧ p j = true) → p (if p (12 - (t + 1)) = true then 12 - (t + 1) else lowP p t) = true)
    split
    · rename_i h
      exact ⟨by omega, fun _ => h⟩
    · rename_i h
      refine ⟨ih.1, fun ⟨j, h1, h2, h3⟩ => ih.2 ⟨j, ?_, h2, h3⟩⟩
      by_cases e : j = 12 - (t + 1)
      · rw [e] at h3; exact absurd h3 h
      · omega
theorem rlv_t {X : sm_X} {c k : Nat} : rlv (sm_up X 703 0 c) k = rlv X k := by
  unfold rlv
  rw [sm_up_x (Or.inl (by decide))]

theorem blk_up0 {X : sm_X} {c i : Nat} {f g : Nat → Nat} : sm_up (sm_uf X c (blk 0 f g i)) c i (f i) = sm_uf X c (blk 0 f g (i + 1)) := by
  have h := blk_up (X := X) (c := c) (b := 0) (i := i) (f := f) (g := g)
  rw [Nat.zero_add] at h
  exact h

set_option maxHeartbeats 4000000 in
set_option maxRecDepth 100000 in
theorem c_R_getX1 (l : Launch) (Ω : sm_Ω) {X : sm_X} {w : Nat → Nat → Nat} {x z : Int32} (hx : x < 0 ∨ nI 12 ≤ x) : sm_met l Ω y_R_get b_R_get 6 (some .int) 4 723 [.ref (Ω.2.1 + 703), .int x, .int z] X (sm_rf w) (sm_det (some (.int (nI 0))) (sm_up X 703 0 1) (sm_rf w)) := by
  refine sm_intro (own := RX7) (L := [some (.ref (Ω.2.1 + 703)), some (.int x), some (.int z), none, none, none]) (by decide) rfl (by simp [Value.category]) (Nat.le_of_ble_eq_true rfl) rfl ?_
  intro Γ C I
  refine sg_aln (pc := 0) C d_R_get_0 rfl ?_
  refine sg_ic (pc := 1) (v := 0) C d_R_get_1 (by decide) ?_
  refine sg_puti (pc := 2) C pw_R_70 (by omega) rfl rfl rfl rfl d_R_get_2 ?_
  refine sg_iln (pc := 5) C d_R_get_5 rfl ?_
  refine sm_callS (pc := 6) (As := [.int x]) C I (c_R_isObject0 l Ω hx) cw_R_88 sw_R_isObject rfl (by decide) ⟨by decide, by decide⟩ rfl (Nat.le_of_ble_eq_true rfl) d_R_get_6 (sm_det_i ?_)
  refine sg_ifne (pc := 9) (tgt := 18) C d_R_get_9 (by decide) (by omega) (fun h9 => absurd rfl h9) (fun h9 => ?_)
  refine sg_aln (pc := 12) C d_R_get_12 rfl ?_
  refine sg_ic (pc := 13) (v := 1) C d_R_get_13 (by decide) ?_
  refine sm_callV (pc := 14) (As := [.int (nI 1)]) C I (c_R_fails l Ω) cw_R_81 iw_R_fails (C.1.2.2.2.2 _ (List.mem_cons_of_mem _ se_R_fails)) (by omega) rfl rfl rfl rfl (by decide) ⟨by decide, by decide⟩ rfl (Nat.le_of_ble_eq_true rfl) d_R_get_14 (sm_det_i ?_)
  exact sg_iret (pc := 17) C I rfl rfl d_R_get_17 ⟨rfl, sm_up_up, rfl⟩

set_option maxHeartbeats 4000000 in
set_option maxRecDepth 100000 in
theorem c_R_getX2 (l : Launch) (Ω : sm_Ω) {X : sm_X} {w : Nat → Nat → Nat} {o : Nat} {x : Int32} (ho : o < 12) (hx : ¬ x &&& (-4096) = 0) : sm_met l Ω y_R_get b_R_get 6 (some .int) 4 723 [.ref (Ω.2.1 + 703), .int (nI o), .int x] X (sm_rf w) (sm_det (some (.int (nI 0))) (sm_up X 703 0 2) (sm_rf w)) := by
  refine sm_intro (own := RX7) (L := [some (.ref (Ω.2.1 + 703)), some (.int (nI o)), some (.int x), none, none, none]) (by decide) rfl (by simp [Value.category]) (Nat.le_of_ble_eq_true rfl) rfl ?_
  intro Γ C I
  refine sg_aln (pc := 0) C d_R_get_0 rfl ?_
  refine sg_ic (pc := 1) (v := 0) C d_R_get_1 (by decide) ?_
  refine sg_puti (pc := 2) C pw_R_70 (by omega) rfl rfl rfl rfl d_R_get_2 ?_
  refine sg_iln (pc := 5) C d_R_get_5 rfl ?_
  refine sm_callS (pc := 6) (As := [.int (nI o)]) C I (c_R_isObject1 l Ω (by omega)) cw_R_88 sw_R_isObject rfl (by decide) ⟨by decide, by decide⟩ rfl (Nat.le_of_ble_eq_true rfl) d_R_get_6 (sm_det_i ?_)
  refine sg_ifne (pc := 9) (tgt := 18) C d_R_get_9 (by decide) (by omega) (fun h9 => ?_) (fun h9 => absurd h9 (by decide))
  refine sg_iln (pc := 18) C d_R_get_18 rfl ?_
  refine sg_sim (pc := 19) (v := -4096) C d_R_get_19 (by decide) ?_
  refine sr_iand (pc := 22) C d_R_get_22 rfl ?_
  refine sr_ifeq (pc := 23) (tgt := 32) C d_R_get_23 (by decide) (fun h23 => absurd h23 hx) (fun h23 => ?_)
  refine sg_aln (pc := 26) C d_R_get_26 rfl ?_
  refine sg_ic (pc := 27) (v := 2) C d_R_get_27 (by decide) ?_
  refine sm_callV (pc := 28) (As := [.int (nI 2)]) C I (c_R_fails l Ω) cw_R_81 iw_R_fails (C.1.2.2.2.2 _ (List.mem_cons_of_mem _ se_R_fails)) (by omega) rfl rfl rfl rfl (by decide) ⟨by decide, by decide⟩ rfl (Nat.le_of_ble_eq_true rfl) d_R_get_28 (sm_det_i ?_)
  exact sg_iret (pc := 31) C I rfl rfl d_R_get_31 ⟨rfl, sm_up_up, rfl⟩

set_option maxHeartbeats 4000000 in
set_option maxRecDepth 100000 in
theorem c_R_getX3 (l : Launch) (Ω : sm_Ω) {X : sm_X} {w : Nat → Nat → Nat} (hf : rwf X) {o m : Nat} (ho : o < 12) (hm : m < 4096) (hs : X 710 o ≠ 0) : sm_met l Ω y_R_get b_R_get 6 (some .int) 4 723 [.ref (Ω.2.1 + 703), .int (nI o), .int (nI m)] X (sm_rf w) (sm_det (some (.int (nI 0))) (sm_up X 703 0 3) (sm_rf w)) := by
  refine sm_intro (own := RX7) (L := [some (.ref (Ω.2.1 + 703)), some (.int (nI o)), some (.int (nI m)), none, none, none]) (by decide) rfl (by simp [Value.category]) (Nat.le_of_ble_eq_true rfl) rfl ?_
  intro Γ C I
  have gi := hf.1 o ho
  refine sg_aln (pc := 0) C d_R_get_0 rfl ?_
  refine sg_ic (pc := 1) (v := 0) C d_R_get_1 (by decide) ?_
  refine sg_puti (pc := 2) C pw_R_70 (by omega) rfl rfl rfl rfl d_R_get_2 ?_
  refine sg_iln (pc := 5) C d_R_get_5 rfl ?_
  refine sm_callS (pc := 6) (As := [.int (nI o)]) C I (c_R_isObject1 l Ω (by omega)) cw_R_88 sw_R_isObject rfl (by decide) ⟨by decide, by decide⟩ rfl (Nat.le_of_ble_eq_true rfl) d_R_get_6 (sm_det_i ?_)
  refine sg_ifne (pc := 9) (tgt := 18) C d_R_get_9 (by decide) (by omega) (fun h9 => ?_) (fun h9 => absurd h9 (by decide))
  refine sg_iln (pc := 18) C d_R_get_18 rfl ?_
  refine sg_sim (pc := 19) (v := -4096) C d_R_get_19 (by decide) ?_
  refine sr_iand (pc := 22) C d_R_get_22 rfl ?_
  refine sr_ifeq (pc := 23) (tgt := 32) C d_R_get_23 (by decide) (fun h23 => ?_) (fun h23 => absurd (sn_mask0 hm) h23)
  refine sg_aln (pc := 32) C d_R_get_32 rfl ?_
  refine sg_getr (pc := 33) C fw_R_32 (by omega) rfl rfl rfl d_R_get_33 ?_
  refine sg_iln (pc := 36) C d_R_get_36 rfl ?_
  refine sg_bald (pc := 37) (n := 12) C (by omega) rfl (by omega) (by decide) d_R_get_37 ?_
  rw [sm_up_x (Or.inl (by decide))]
  refine sg_ifeq (pc := 38) (tgt := 47) C d_R_get_38 (by decide) (by omega) (fun h38 => absurd h38 hs) (fun h38 => ?_)
  refine sg_aln (pc := 41) C d_R_get_41 rfl ?_
  refine sg_ic (pc := 42) (v := 3) C d_R_get_42 (by decide) ?_
  refine sm_callV (pc := 43) (As := [.int (nI 3)]) C I (c_R_fails l Ω) cw_R_81 iw_R_fails (C.1.2.2.2.2 _ (List.mem_cons_of_mem _ se_R_fails)) (by omega) rfl rfl rfl rfl (by decide) ⟨by decide, by decide⟩ rfl (Nat.le_of_ble_eq_true rfl) d_R_get_43 (sm_det_i ?_)
  exact sg_iret (pc := 46) C I rfl rfl d_R_get_46 ⟨rfl, sm_up_up, rfl⟩

set_option maxHeartbeats 4000000 in
set_option maxRecDepth 100000 in
theorem c_R_getX4 (l : Launch) (Ω : sm_Ω) {X : sm_X} {w : Nat → Nat → Nat} (hf : rwf X) {o m : Nat} (ho : o < 12) (hm : m < 4096) (hs : X 710 o = 0) (hz : X 707 o = 0) : sm_met l Ω y_R_get b_R_get 6 (some .int) 4 723 [.ref (Ω.2.1 + 703), .int (nI o), .int (nI m)] X (sm_rf w) (sm_det (some (.int (nI 0))) (sm_up X 703 0 4) (sm_rf w)) := by
  refine sm_intro (own := RX7) (L := [some (.ref (Ω.2.1 + 703)), some (.int (nI o)), some (.int (nI m)), none, none, none]) (by decide) rfl (by simp [Value.category]) (Nat.le_of_ble_eq_true rfl) rfl ?_
  intro Γ C I
  have gi := hf.1 o ho
  refine sg_aln (pc := 0) C d_R_get_0 rfl ?_
  refine sg_ic (pc := 1) (v := 0) C d_R_get_1 (by decide) ?_
  refine sg_puti (pc := 2) C pw_R_70 (by omega) rfl rfl rfl rfl d_R_get_2 ?_
  refine sg_iln (pc := 5) C d_R_get_5 rfl ?_
  refine sm_callS (pc := 6) (As := [.int (nI o)]) C I (c_R_isObject1 l Ω (by omega)) cw_R_88 sw_R_isObject rfl (by decide) ⟨by decide, by decide⟩ rfl (Nat.le_of_ble_eq_true rfl) d_R_get_6 (sm_det_i ?_)
  refine sg_ifne (pc := 9) (tgt := 18) C d_R_get_9 (by decide) (by omega) (fun h9 => ?_) (fun h9 => absurd h9 (by decide))
  refine sg_iln (pc := 18) C d_R_get_18 rfl ?_
  refine sg_sim (pc := 19) (v := -4096) C d_R_get_19 (by decide) ?_
  refine sr_iand (pc := 22) C d_R_get_22 rfl ?_
  refine sr_ifeq (pc := 23) (tgt := 32) C d_R_get_23 (by decide) (fun h23 => ?_) (fun h23 => absurd (sn_mask0 hm) h23)
  refine sg_aln (pc := 32) C d_R_get_32 rfl ?_
  refine sg_getr (pc := 33) C fw_R_32 (by omega) rfl rfl rfl d_R_get_33 ?_
  refine sg_iln (pc := 36) C d_R_get_36 rfl ?_
  refine sg_bald (pc := 37) (n := 12) C (by omega) rfl (by omega) (by decide) d_R_get_37 ?_
  rw [sm_up_x (Or.inl (by decide))]
  refine sg_ifeq (pc := 38) (tgt := 47) C d_R_get_38 (by decide) (by omega) (fun h38 => ?_) (fun h38 => absurd hs h38)
  refine sg_aln (pc := 47) C d_R_get_47 rfl ?_
  refine sg_getr (pc := 48) C fw_R_23 (by omega) rfl rfl rfl d_R_get_48 ?_
  refine sg_iln (pc := 51) C d_R_get_51 rfl ?_
  refine sg_iald (pc := 52) (n := 12) C (by omega) rfl (by omega) (by decide) d_R_get_52 ?_
  rw [sm_up_x (Or.inl (by decide))]
  refine sg_ifne (pc := 53) (tgt := 62) C d_R_get_53 (by decide) (by omega) (fun h53 => absurd hz h53) (fun h53 => ?_)
  refine sg_aln (pc := 56) C d_R_get_56 rfl ?_
  refine sg_ic (pc := 57) (v := 4) C d_R_get_57 (by decide) ?_
  refine sm_callV (pc := 58) (As := [.int (nI 4)]) C I (c_R_fails l Ω) cw_R_81 iw_R_fails (C.1.2.2.2.2 _ (List.mem_cons_of_mem _ se_R_fails)) (by omega) rfl rfl rfl rfl (by decide) ⟨by decide, by decide⟩ rfl (Nat.le_of_ble_eq_true rfl) d_R_get_58 (sm_det_i ?_)
  exact sg_iret (pc := 61) C I rfl rfl d_R_get_61 ⟨rfl, sm_up_up, rfl⟩

set_option maxHeartbeats 4000000 in
set_option maxRecDepth 100000 in
theorem c_R_getX5 (l : Launch) (Ω : sm_Ω) {X : sm_X} {w : Nat → Nat → Nat} (hf : rwf X) {o m : Nat} (ho : o < 12) (hm : m < 4096) (hs : X 710 o = 0) (hz : 0 < X 707 o) (h5 : sm_n (rgp X o m) 12 < 5) : sm_met l Ω y_R_get b_R_get 6 (some .int) 4 723 [.ref (Ω.2.1 + 703), .int (nI o), .int (nI m)] X (sm_rf w) (sm_det (some (.int (nI 0))) (sm_up X 703 0 5) (sm_rf w)) := by
  refine sm_intro (own := RX7) (L := [some (.ref (Ω.2.1 + 703)), some (.int (nI o)), some (.int (nI m)), none, none, none]) (by decide) rfl (by simp [Value.category]) (Nat.le_of_ble_eq_true rfl) rfl ?_
  intro Γ C I
  have gi := hf.1 o ho
  refine sg_aln (pc := 0) C d_R_get_0 rfl ?_
  refine sg_ic (pc := 1) (v := 0) C d_R_get_1 (by decide) ?_
  refine sg_puti (pc := 2) C pw_R_70 (by omega) rfl rfl rfl rfl d_R_get_2 ?_
  refine sg_iln (pc := 5) C d_R_get_5 rfl ?_
  refine sm_callS (pc := 6) (As := [.int (nI o)]) C I (c_R_isObject1 l Ω (by omega)) cw_R_88 sw_R_isObject rfl (by decide) ⟨by decide, by decide⟩ rfl (Nat.le_of_ble_eq_true rfl) d_R_get_6 (sm_det_i ?_)
  refine sg_ifne (pc := 9) (tgt := 18) C d_R_get_9 (by decide) (by omega) (fun h9 => ?_) (fun h9 => absurd h9 (by decide))
  refine sg_iln (pc := 18) C d_R_get_18 rfl ?_
  refine sg_sim (pc := 19) (v := -4096) C d_R_get_19 (by decide) ?_
  refine sr_iand (pc := 22) C d_R_get_22 rfl ?_
  refine sr_ifeq (pc := 23) (tgt := 32) C d_R_get_23 (by decide) (fun h23 => ?_) (fun h23 => absurd (sn_mask0 hm) h23)
  refine sg_aln (pc := 32) C d_R_get_32 rfl ?_
  refine sg_getr (pc := 33) C fw_R_32 (by omega) rfl rfl rfl d_R_get_33 ?_
  refine sg_iln (pc := 36) C d_R_get_36 rfl ?_
  refine sg_bald (pc := 37) (n := 12) C (by omega) rfl (by omega) (by decide) d_R_get_37 ?_
  rw [sm_up_x (Or.inl (by decide))]
  refine sg_ifeq (pc := 38) (tgt := 47) C d_R_get_38 (by decide) (by omega) (fun h38 => ?_) (fun h38 => absurd hs h38)
  refine sg_aln (pc := 47) C d_R_get_47 rfl ?_
  refine sg_getr (pc := 48) C fw_R_23 (by omega) rfl rfl rfl d_R_get_48 ?_
  refine sg_iln (pc := 51) C d_R_get_51 rfl ?_
  refine sg_iald (pc := 52) (n := 12) C (by omega) rfl (by omega) (by decide) d_R_get_52 ?_
  rw [sm_up_x (Or.inl (by decide))]
  refine sg_ifne (pc := 53) (tgt := 62) C d_R_get_53 (by decide) (by omega) (fun h53 => ?_) (fun h53 => absurd h53 (by omega))
  refine sg_ic (pc := 62) (v := 0) C d_R_get_62 (by decide) ?_
  refine sg_is3 (pc := 63) C d_R_get_63 ?_
  refine sg_ic (pc := 64) (v := 0) C d_R_get_64 (by decide) ?_
  refine sg_is4 (pc := 65) C d_R_get_65 ?_
  refine sg_bi (pc := 67) (v := 11) C d_R_get_67 (by decide) ?_
  refine sg_is5 (pc := 69) C d_R_get_69 ?_
  have loop : ∀ c, c ≤ 12 → sm_G Γ Ω 723 0 0 71 [some (.ref (Ω.2.1 + 703)), some (.int (nI o)), some (.int (nI m)), some (.int (nI (sm_n (rgp X o m) 12 - sm_n (rgp X o m) c))), some (.int (nI (lowP (rgp X o m) (12 - c)))), some (.int (nI c + (-1)))] [] (sm_up X 703 0 0) (sm_rf w) := by
    intro c
    induction c with
    | zero =>
      intro _
      refine sg_il (pc := 71) C d_R_get_71 rfl ?_
      refine sr_iflt (pc := 73) (tgt := 118) C d_R_get_73 (by decide) (fun h73 => ?_) (fun h73 => absurd (by decide) h73)
      rw [show sm_n (rgp X o m) 12 - sm_n (rgp X o m) 0 = sm_n (rgp X o m) 12 from Nat.sub_zero _]
      refine sg_iln (pc := 118) C d_R_get_118 rfl ?_
      refine sg_ic (pc := 119) (v := 5) C d_R_get_119 (by decide) ?_
      refine sg_icge (pc := 120) (tgt := 129) C d_R_get_120 (by decide) (by omega) (by omega) (fun h120 => absurd h120 (by omega)) (fun h120 => ?_)
      refine sg_aln (pc := 123) C d_R_get_123 rfl ?_
      refine sg_ic (pc := 124) (v := 5) C d_R_get_124 (by decide) ?_
      refine sm_callV (pc := 125) (As := [.int (nI 5)]) C I (c_R_fails l Ω) cw_R_81 iw_R_fails (C.1.2.2.2.2 _ (List.mem_cons_of_mem _ se_R_fails)) (by omega) rfl rfl rfl rfl (by decide) ⟨by decide, by decide⟩ rfl (Nat.le_of_ble_eq_true rfl) d_R_get_125 (sm_det_i ?_)
      exact sg_iret (pc := 128) C I rfl rfl d_R_get_128 ⟨rfl, sm_up_up, rfl⟩
    | succ c ih =>
      intro hc
      rw [sn_m1]
      have b1 := b2_lt (bitp m c)
      have b3 := b2_lt (rfr X c o)
      have g1 := hf.1 c (by omega)
      have hmo := sm_n_mono (rgp X o m) (show c + 1 ≤ 12 by omega)
      have en : sm_n (rgp X o m) (c + 1) = sm_n (rgp X o m) c + (if (rgp X o m) c = true then 1 else 0) := rfl
      have el : lowP (rgp X o m) (12 - c) = if (rgp X o m) c = true then c else lowP (rgp X o m) (12 - (c + 1)) := by
        rw [show 12 - c = (12 - (c + 1)) + 1 by omega]
        show (if (rgp X o m) (12 - (12 - (c + 1) + 1)) = true then 12 - (12 - (c + 1) + 1) else lowP (rgp X o m) (12 - (c + 1))) = _
        rw [show 12 - (12 - (c + 1) + 1) = c by omega]
      refine sg_il (pc := 71) C d_R_get_71 rfl ?_
      refine sr_iflt (pc := 73) (tgt := 118) C d_R_get_73 (by decide) (fun h73 => absurd h73 (nI_pos (by omega))) (fun h73 => ?_)
      refine sg_iln (pc := 76) C d_R_get_76 rfl ?_
      refine sg_il (pc := 77) C d_R_get_77 rfl ?_
      refine sm_callS (pc := 79) (As := [.int (nI m), .int (nI c)]) C I (c_R_isOffered l Ω hm (by omega)) cw_R_104 sw_R_isOffered rfl (by decide) ⟨by decide, by decide⟩ rfl (Nat.le_of_ble_eq_true rfl) d_R_get_79 (sm_det_i ?_)
      refine sg_ifeq (pc := 82) (tgt := 112) C d_R_get_82 (by decide) (by omega) (fun h82 => ?_) (fun h82 => ?_)
      · refine sg_dec5 (pc := 112) C d_R_get_112 ?_
        refine sg_goto (pc := 115) (tgt := 71) C d_R_get_115 (by decide) ?_
        have hp : (rgp X o m) c = false := by simp [rgp, b2_0 h82]
        have h := ih (by omega)
        rw [el, hp, if_neg (by decide), show sm_n (rgp X o m) 12 - sm_n (rgp X o m) c = sm_n (rgp X o m) 12 - sm_n (rgp X o m) (c + 1) by rw [en, hp]; rfl] at h
        exact h
      · refine sg_aln (pc := 85) C d_R_get_85 rfl ?_
        refine sg_getr (pc := 86) C fw_R_36 (by omega) rfl rfl rfl d_R_get_86 ?_
        refine sg_il (pc := 89) C d_R_get_89 rfl ?_
        refine sg_bald (pc := 91) (n := 12) C (by omega) rfl (by omega) (by decide) d_R_get_91 ?_
        rw [sm_up_x (Or.inl (by decide))]
        refine sg_ifne (pc := 92) (tgt := 112) C d_R_get_92 (by decide) (by omega) (fun h92 => ?_) (fun h92 => ?_)
        · refine sg_dec5 (pc := 112) C d_R_get_112 ?_
          refine sg_goto (pc := 115) (tgt := 71) C d_R_get_115 (by decide) ?_
          have hp : (rgp X o m) c = false := by simp [rgp, rlv, h92]
          have h := ih (by omega)
          rw [el, hp, if_neg (by decide), show sm_n (rgp X o m) 12 - sm_n (rgp X o m) c = sm_n (rgp X o m) 12 - sm_n (rgp X o m) (c + 1) by rw [en, hp]; rfl] at h
          exact h
        · refine sg_aln (pc := 95) C d_R_get_95 rfl ?_
          refine sg_il (pc := 96) C d_R_get_96 rfl ?_
          refine sg_iln (pc := 98) C d_R_get_98 rfl ?_
          refine sm_callV (pc := 99) (As := [.int (nI c), .int (nI o)]) C I (c_R_isFresh l Ω (rwf_t hf) (by omega) ho) cw_R_108 iw_R_isFresh (C.1.2.2.2.2 _ (List.mem_cons_of_mem _ se_R_isFresh)) (by omega) rfl rfl rfl rfl (by decide) ⟨by decide, by decide⟩ rfl (Nat.le_of_ble_eq_true rfl) d_R_get_99 (sm_det_i ?_)
          rw [rfr_t]
          refine sg_ifeq (pc := 102) (tgt := 112) C d_R_get_102 (by decide) (by omega) (fun h102 => ?_) (fun h102 => ?_)
          · refine sg_dec5 (pc := 112) C d_R_get_112 ?_
            refine sg_goto (pc := 115) (tgt := 71) C d_R_get_115 (by decide) ?_
            have hp : (rgp X o m) c = false := by simp [rgp, b2_0 h102]
            have h := ih (by omega)
            rw [el, hp, if_neg (by decide), show sm_n (rgp X o m) 12 - sm_n (rgp X o m) c = sm_n (rgp X o m) 12 - sm_n (rgp X o m) (c + 1) by rw [en, hp]; rfl] at h
            exact h
          · refine sg_inc3 (pc := 105) (n := 1) C d_R_get_105 (by decide) ?_
            refine sg_il (pc := 108) C d_R_get_108 rfl ?_
            refine sg_is4 (pc := 110) C d_R_get_110 ?_
            refine sg_dec5 (pc := 112) C d_R_get_112 ?_
            refine sg_goto (pc := 115) (tgt := 71) C d_R_get_115 (by decide) ?_
            have hp : (rgp X o m) c = true := by simp [rgp, rlv, b2_1 h82, h92, b2_1 h102]
            rw [hp, if_pos rfl] at en
            have h := ih (by omega)
            rw [el, hp, if_pos rfl, show sm_n (rgp X o m) 12 - sm_n (rgp X o m) c = sm_n (rgp X o m) 12 - sm_n (rgp X o m) (c + 1) + 1 by omega] at h
            exact h
  have h0 := loop 12 (Nat.le_refl 12)
  rw [Nat.sub_self, show nI 12 + (-1) = nI 11 from by decide] at h0
  exact h0

set_option maxHeartbeats 4000000 in
set_option maxRecDepth 100000 in
theorem c_R_get (l : Launch) (Ω : sm_Ω) {X : sm_X} {w : Nat → Nat → Nat} (hf : rwf X) {o m : Nat} (ho : o < 12) (hm : m < 4096) (hs : X 710 o = 0) (hz : 0 < X 707 o) (h5 : 5 ≤ sm_n (rgp X o m) 12) : sm_met l Ω y_R_get b_R_get 6 (some .int) 4 723 [.ref (Ω.2.1 + 703), .int (nI o), .int (nI m)] X (sm_rf w) (sm_det (some (.int (nI (X 707 o)))) (sm_uf (sm_up (sm_up X 703 0 0) 703 2 (X 707 o)) 705 (blk 0 (fun j => X 715 (240 * (12 * (lowP (rgp X o m) 12) + o) + j)) (X 705) (X 707 o))) (sm_rf w)) := by
  refine sm_intro (own := RX7) (L := [some (.ref (Ω.2.1 + 703)), some (.int (nI o)), some (.int (nI m)), none, none, none]) (by decide) rfl (by simp [Value.category]) (Nat.le_of_ble_eq_true rfl) rfl ?_
  intro Γ C I
  have gi := hf.1 o ho
  have hlo := (lowP_ok (p := (rgp X o m)) 12 (Nat.le_refl 12)).1
  refine sg_aln (pc := 0) C d_R_get_0 rfl ?_
  refine sg_ic (pc := 1) (v := 0) C d_R_get_1 (by decide) ?_
  refine sg_puti (pc := 2) C pw_R_70 (by omega) rfl rfl rfl rfl d_R_get_2 ?_
  refine sg_iln (pc := 5) C d_R_get_5 rfl ?_
  refine sm_callS (pc := 6) (As := [.int (nI o)]) C I (c_R_isObject1 l Ω (by omega)) cw_R_88 sw_R_isObject rfl (by decide) ⟨by decide, by decide⟩ rfl (Nat.le_of_ble_eq_true rfl) d_R_get_6 (sm_det_i ?_)
  refine sg_ifne (pc := 9) (tgt := 18) C d_R_get_9 (by decide) (by omega) (fun h9 => ?_) (fun h9 => absurd h9 (by decide))
  refine sg_iln (pc := 18) C d_R_get_18 rfl ?_
  refine sg_sim (pc := 19) (v := -4096) C d_R_get_19 (by decide) ?_
  refine sr_iand (pc := 22) C d_R_get_22 rfl ?_
  refine sr_ifeq (pc := 23) (tgt := 32) C d_R_get_23 (by decide) (fun h23 => ?_) (fun h23 => absurd (sn_mask0 hm) h23)
  refine sg_aln (pc := 32) C d_R_get_32 rfl ?_
  refine sg_getr (pc := 33) C fw_R_32 (by omega) rfl rfl rfl d_R_get_33 ?_
  refine sg_iln (pc := 36) C d_R_get_36 rfl ?_
  refine sg_bald (pc := 37) (n := 12) C (by omega) rfl (by omega) (by decide) d_R_get_37 ?_
  rw [sm_up_x (Or.inl (by decide))]
  refine sg_ifeq (pc := 38) (tgt := 47) C d_R_get_38 (by decide) (by omega) (fun h38 => ?_) (fun h38 => absurd hs h38)
  refine sg_aln (pc := 47) C d_R_get_47 rfl ?_
  refine sg_getr (pc := 48) C fw_R_23 (by omega) rfl rfl rfl d_R_get_48 ?_
  refine sg_iln (pc := 51) C d_R_get_51 rfl ?_
  refine sg_iald (pc := 52) (n := 12) C (by omega) rfl (by omega) (by decide) d_R_get_52 ?_
  rw [sm_up_x (Or.inl (by decide))]
  refine sg_ifne (pc := 53) (tgt := 62) C d_R_get_53 (by decide) (by omega) (fun h53 => ?_) (fun h53 => absurd h53 (by omega))
  refine sg_ic (pc := 62) (v := 0) C d_R_get_62 (by decide) ?_
  refine sg_is3 (pc := 63) C d_R_get_63 ?_
  refine sg_ic (pc := 64) (v := 0) C d_R_get_64 (by decide) ?_
  refine sg_is4 (pc := 65) C d_R_get_65 ?_
  refine sg_bi (pc := 67) (v := 11) C d_R_get_67 (by decide) ?_
  refine sg_is5 (pc := 69) C d_R_get_69 ?_
  have loop : ∀ c, c ≤ 12 → sm_G Γ Ω 723 0 0 71 [some (.ref (Ω.2.1 + 703)), some (.int (nI o)), some (.int (nI m)), some (.int (nI (sm_n (rgp X o m) 12 - sm_n (rgp X o m) c))), some (.int (nI (lowP (rgp X o m) (12 - c)))), some (.int (nI c + (-1)))] [] (sm_up X 703 0 0) (sm_rf w) := by
    intro c
    induction c with
    | zero =>
      intro _
      refine sg_il (pc := 71) C d_R_get_71 rfl ?_
      refine sr_iflt (pc := 73) (tgt := 118) C d_R_get_73 (by decide) (fun h73 => ?_) (fun h73 => absurd (by decide) h73)
      rw [show sm_n (rgp X o m) 12 - sm_n (rgp X o m) 0 = sm_n (rgp X o m) 12 from Nat.sub_zero _]
      have hle := sm_n_le (rgp X o m) 12
      refine sg_iln (pc := 118) C d_R_get_118 rfl ?_
      refine sg_ic (pc := 119) (v := 5) C d_R_get_119 (by decide) ?_
      refine sg_icge (pc := 120) (tgt := 129) C d_R_get_120 (by decide) (by omega) (by omega) (fun h120 => ?_) (fun h120 => absurd h120 (by omega))
      refine sg_aln (pc := 129) C d_R_get_129 rfl ?_
      refine sg_aln (pc := 130) C d_R_get_130 rfl ?_
      refine sg_getr (pc := 131) C fw_R_23 (by omega) rfl rfl rfl d_R_get_131 ?_
      refine sg_iln (pc := 134) C d_R_get_134 rfl ?_
      refine sg_iald (pc := 135) (n := 12) C (by omega) rfl (by omega) (by decide) d_R_get_135 ?_
      rw [sm_up_x (Or.inl (by decide))]
      refine sg_puti (pc := 136) C pw_R_111 (by omega) rfl rfl rfl rfl d_R_get_136 ?_
      refine sg_ic (pc := 139) (v := 0) C d_R_get_139 (by decide) ?_
      refine sg_is5 (pc := 140) C d_R_get_140 ?_
      have loop2 : ∀ t i, i + t = X 707 o → sm_G Γ Ω 723 0 0 142 [some (.ref (Ω.2.1 + 703)), some (.int (nI o)), some (.int (nI m)), some (.int (nI (sm_n (rgp X o m) 12))), some (.int (nI (lowP (rgp X o m) 12))), some (.int (nI i))] [] (sm_uf (sm_up (sm_up X 703 0 0) 703 2 (X 707 o)) 705 (blk 0 (fun j => X 715 (240 * (12 * (lowP (rgp X o m) 12) + o) + j)) (X 705) i)) (sm_rf w) := by
        intro t
        induction t with
        | zero =>
          intro i hi
          refine sg_il (pc := 142) C d_R_get_142 rfl ?_
          refine sg_aln (pc := 144) C d_R_get_144 rfl ?_
          refine sg_geti (pc := 145) C fw_R_111 (by omega) rfl rfl d_R_get_145 ?_
          rw [sm_uf_o (by decide), sm_up_s]
          refine sg_icge (pc := 148) (tgt := 182) C d_R_get_148 (by decide) (by omega) (by omega) (fun h148 => ?_) (fun h148 => absurd h148 (by omega))
          refine sg_aln (pc := 182) C d_R_get_182 rfl ?_
          refine sg_geti (pc := 183) C fw_R_111 (by omega) rfl rfl d_R_get_183 ?_
          rw [sm_uf_o (by decide), sm_up_s]
          exact sg_iret (pc := 186) C I rfl rfl d_R_get_186 ⟨rfl, by rw [show i = X 707 o by omega], rfl⟩
        | succ t ih2 =>
          intro i hi
          refine sg_il (pc := 142) C d_R_get_142 rfl ?_
          refine sg_aln (pc := 144) C d_R_get_144 rfl ?_
          refine sg_geti (pc := 145) C fw_R_111 (by omega) rfl rfl d_R_get_145 ?_
          rw [sm_uf_o (by decide), sm_up_s]
          refine sg_icge (pc := 148) (tgt := 182) C d_R_get_148 (by decide) (by omega) (by omega) (fun h148 => absurd h148 (by omega)) (fun h148 => ?_)
          refine sg_aln (pc := 151) C d_R_get_151 rfl ?_
          refine sg_getr (pc := 152) C fw_R_13 (by omega) rfl rfl rfl d_R_get_152 ?_
          refine sg_il (pc := 155) C d_R_get_155 rfl ?_
          refine sg_aln (pc := 157) C d_R_get_157 rfl ?_
          refine sg_getr (pc := 158) C fw_R_49 (by omega) rfl rfl rfl d_R_get_158 ?_
          refine sg_si (pc := 161) (v := 240) C d_R_get_161 (by decide) ?_
          refine sg_il (pc := 164) C d_R_get_164 rfl ?_
          refine sg_iln (pc := 166) C d_R_get_166 rfl ?_
          refine sm_callS (pc := 167) (As := [.int (nI (lowP (rgp X o m) 12)), .int (nI o)]) C I (c_R_at l Ω) cw_R_85 sw_R_at rfl (by decide) ⟨by decide, by decide⟩ rfl (Nat.le_of_ble_eq_true rfl) d_R_get_167 (sm_det_i ?_)
          refine sg_mul (pc := 170) C d_R_get_170 ?_
          refine sg_il (pc := 171) C d_R_get_171 rfl ?_
          refine sg_add (pc := 173) C d_R_get_173 ?_
          refine sg_iald (pc := 174) (n := 34560) C (by omega) rfl (by omega) (by decide) d_R_get_174 ?_
          rw [sm_uf_o (by decide), sm_up_x (Or.inl (by decide)), sm_up_x (Or.inl (by decide))]
          refine sg_iast (pc := 175) (n := 240) C (by omega) rfl (by omega) (by decide) d_R_get_175 ?_
          rw [blk_up0]
          refine sg_inc5 (pc := 176) (n := 1) C d_R_get_176 (by decide) ?_
          refine sg_goto (pc := 179) (tgt := 142) C d_R_get_179 (by decide) ?_
          exact ih2 (i + 1) (by omega)
      have h0 := loop2 (X 707 o) 0 (by omega)
      rw [blk_0, show sm_uf (sm_up (sm_up X 703 0 0) 703 2 (X 707 o)) 705 (X 705) = (sm_up (sm_up X 703 0 0) 703 2 (X 707 o)) from (sm_uf_c (fun j => ((sm_up_x (Or.inl (by decide))).trans (sm_up_x (Or.inl (by decide)))).symm)).trans sm_uf_self] at h0
      exact h0
    | succ c ih =>
      intro hc
      rw [sn_m1]
      have b1 := b2_lt (bitp m c)
      have b3 := b2_lt (rfr X c o)
      have g1 := hf.1 c (by omega)
      have hmo := sm_n_mono (rgp X o m) (show c + 1 ≤ 12 by omega)
      have en : sm_n (rgp X o m) (c + 1) = sm_n (rgp X o m) c + (if (rgp X o m) c = true then 1 else 0) := rfl
      have el : lowP (rgp X o m) (12 - c) = if (rgp X o m) c = true then c else lowP (rgp X o m) (12 - (c + 1)) := by
        rw [show 12 - c = (12 - (c + 1)) + 1 by omega]
        show (if (rgp X o m) (12 - (12 - (c + 1) + 1)) = true then 12 - (12 - (c + 1) + 1) else lowP (rgp X o m) (12 - (c + 1))) = _
        rw [show 12 - (12 - (c + 1) + 1) = c by omega]
      refine sg_il (pc := 71) C d_R_get_71 rfl ?_
      refine sr_iflt (pc := 73) (tgt := 118) C d_R_get_73 (by decide) (fun h73 => absurd h73 (nI_pos (by omega))) (fun h73 => ?_)
      refine sg_iln (pc := 76) C d_R_get_76 rfl ?_
      refine sg_il (pc := 77) C d_R_get_77 rfl ?_
      refine sm_callS (pc := 79) (As := [.int (nI m), .int (nI c)]) C I (c_R_isOffered l Ω hm (by omega)) cw_R_104 sw_R_isOffered rfl (by decide) ⟨by decide, by decide⟩ rfl (Nat.le_of_ble_eq_true rfl) d_R_get_79 (sm_det_i ?_)
      refine sg_ifeq (pc := 82) (tgt := 112) C d_R_get_82 (by decide) (by omega) (fun h82 => ?_) (fun h82 => ?_)
      · refine sg_dec5 (pc := 112) C d_R_get_112 ?_
        refine sg_goto (pc := 115) (tgt := 71) C d_R_get_115 (by decide) ?_
        have hp : (rgp X o m) c = false := by simp [rgp, b2_0 h82]
        have h := ih (by omega)
        rw [el, hp, if_neg (by decide), show sm_n (rgp X o m) 12 - sm_n (rgp X o m) c = sm_n (rgp X o m) 12 - sm_n (rgp X o m) (c + 1) by rw [en, hp]; rfl] at h
        exact h
      · refine sg_aln (pc := 85) C d_R_get_85 rfl ?_
        refine sg_getr (pc := 86) C fw_R_36 (by omega) rfl rfl rfl d_R_get_86 ?_
        refine sg_il (pc := 89) C d_R_get_89 rfl ?_
        refine sg_bald (pc := 91) (n := 12) C (by omega) rfl (by omega) (by decide) d_R_get_91 ?_
        rw [sm_up_x (Or.inl (by decide))]
        refine sg_ifne (pc := 92) (tgt := 112) C d_R_get_92 (by decide) (by omega) (fun h92 => ?_) (fun h92 => ?_)
        · refine sg_dec5 (pc := 112) C d_R_get_112 ?_
          refine sg_goto (pc := 115) (tgt := 71) C d_R_get_115 (by decide) ?_
          have hp : (rgp X o m) c = false := by simp [rgp, rlv, h92]
          have h := ih (by omega)
          rw [el, hp, if_neg (by decide), show sm_n (rgp X o m) 12 - sm_n (rgp X o m) c = sm_n (rgp X o m) 12 - sm_n (rgp X o m) (c + 1) by rw [en, hp]; rfl] at h
          exact h
        · refine sg_aln (pc := 95) C d_R_get_95 rfl ?_
          refine sg_il (pc := 96) C d_R_get_96 rfl ?_
          refine sg_iln (pc := 98) C d_R_get_98 rfl ?_
          refine sm_callV (pc := 99) (As := [.int (nI c), .int (nI o)]) C I (c_R_isFresh l Ω (rwf_t hf) (by omega) ho) cw_R_108 iw_R_isFresh (C.1.2.2.2.2 _ (List.mem_cons_of_mem _ se_R_isFresh)) (by omega) rfl rfl rfl rfl (by decide) ⟨by decide, by decide⟩ rfl (Nat.le_of_ble_eq_true rfl) d_R_get_99 (sm_det_i ?_)
          rw [rfr_t]
          refine sg_ifeq (pc := 102) (tgt := 112) C d_R_get_102 (by decide) (by omega) (fun h102 => ?_) (fun h102 => ?_)
          · refine sg_dec5 (pc := 112) C d_R_get_112 ?_
            refine sg_goto (pc := 115) (tgt := 71) C d_R_get_115 (by decide) ?_
            have hp : (rgp X o m) c = false := by simp [rgp, b2_0 h102]
            have h := ih (by omega)
            rw [el, hp, if_neg (by decide), show sm_n (rgp X o m) 12 - sm_n (rgp X o m) c = sm_n (rgp X o m) 12 - sm_n (rgp X o m) (c + 1) by rw [en, hp]; rfl] at h
            exact h
          · refine sg_inc3 (pc := 105) (n := 1) C d_R_get_105 (by decide) ?_
            refine sg_il (pc := 108) C d_R_get_108 rfl ?_
            refine sg_is4 (pc := 110) C d_R_get_110 ?_
            refine sg_dec5 (pc := 112) C d_R_get_112 ?_
            refine sg_goto (pc := 115) (tgt := 71) C d_R_get_115 (by decide) ?_
            have hp : (rgp X o m) c = true := by simp [rgp, rlv, b2_1 h82, h92, b2_1 h102]
            rw [hp, if_pos rfl] at en
            have h := ih (by omega)
            rw [el, hp, if_pos rfl, show sm_n (rgp X o m) 12 - sm_n (rgp X o m) c = sm_n (rgp X o m) 12 - sm_n (rgp X o m) (c + 1) + 1 by omega] at h
            exact h
  have h0 := loop 12 (Nat.le_refl 12)
  rw [Nat.sub_self, show nI 12 + (-1) = nI 11 from by decide] at h0
  exact h0

def rcs (Z : sm_X) (d o n : Nat) : sm_X := sm_uf (sm_up (sm_up Z 716 (12 * d + o) (Z 708 o)) 717 (12 * d + o) n) 718 (blk (240 * (12 * d + o)) (fun j => if j < n then Z 704 j else 0) (Z 718) 240)
def rsn (Z : sm_X) (d o : Nat) : sm_X := sm_up (sm_uf (sm_up (sm_up Z 713 (12 * d + o) (Z 716 (12 * d + o))) 714 (12 * d + o) (Z 717 (12 * d + o))) 715 (blk (240 * (12 * d + o)) (fun j => Z 718 (240 * (12 * d + o) + j)) (Z 715) 240)) 716 (12 * d + o) 0
theorem rcs_o {Z : sm_X} {d o n a j : Nat} (h1 : a ≠ 716) (h2 : a ≠ 717) (h3 : a ≠ 718) : rcs Z d o n a j = Z a j := by
  unfold rcs
  rw [sm_uf_o h3, sm_up_x (Or.inl h2), sm_up_x (Or.inl h1)]
theorem rsn_o {Z : sm_X} {d o a j : Nat} (h1 : a ≠ 713) (h2 : a ≠ 714) (h3 : a ≠ 715) (h4 : a ≠ 716) : rsn Z d o a j = Z a j := by
  unfold rsn
  rw [sm_up_x (Or.inl h4), sm_uf_o h3, sm_up_x (Or.inl h2), sm_up_x (Or.inl h1)]
/-- the put's first messages -/
def rq1 (T : Nat → Bool) (Z : sm_X) (o n : Nat) : Nat → sm_X
  | 0 => Z
  | k + 1 => if T k = true then rcs (rq1 T Z o n k) k o n else rq1 T Z o n k
theorem rq1_o {T : Nat → Bool} {Z : sm_X} {o n a j : Nat} (h1 : a ≠ 716) (h2 : a ≠ 717) (h3 : a ≠ 718) : ∀ k, rq1 T Z o n k a j = Z a j
  | 0 => rfl
  | k + 1 => by
    show (if T k = true then rcs (rq1 T Z o n k) k o n else rq1 T Z o n k) a j = Z a j
    split
    · rw [rcs_o h1 h2 h3]; exact rq1_o h1 h2 h3 k
    · exact rq1_o h1 h2 h3 k
def rq2 (T : Nat → Bool) (Z : sm_X) (o : Nat) : Nat → sm_X
  | 0 => Z
  | k + 1 => if T k = true then rsn (rq2 T Z o k) k o else rq2 T Z o k
theorem rq2_o {T : Nat → Bool} {Z : sm_X} {o a j : Nat} (h1 : a ≠ 713) (h2 : a ≠ 714) (h3 : a ≠ 715) (h4 : a ≠ 716) : ∀ k, rq2 T Z o k a j = Z a j
  | 0 => rfl
  | k + 1 => by
    show (if T k = true then rsn (rq2 T Z o k) k o else rq2 T Z o k) a j = Z a j
    split
    · rw [rsn_o h1 h2 h3 h4]; exact rq2_o h1 h2 h3 h4 k
    · exact rq2_o h1 h2 h3 h4 k
/-- messages told before node k, of m, b of them before the loop -/
def tld (p : Nat → Bool) (b m k : Nat) : Nat := if b + sm_n p k < m then b + sm_n p k else m
def rpT (p : Nat → Bool) (b m k : Nat) : Bool := p k && decide (b + sm_n p k < m)
def rpA (X : sm_X) (o n : Nat) : sm_X := sm_up (sm_up (sm_up (sm_up X 703 0 0) 708 o (X 708 o + 1)) 709 o n) 703 4 4294967295
theorem rpA_o {X : sm_X} {o n a j : Nat} (h1 : a ≠ 703) (h2 : a ≠ 708) (h3 : a ≠ 709) : rpA X o n a j = X a j := by
  unfold rpA
  rw [sm_up_x (Or.inl h1), sm_up_x (Or.inl h3), sm_up_x (Or.inl h2), sm_up_x (Or.inl h1)]
def rpZ (X : sm_X) (o n m : Nat) : sm_X := rq2 (rpT (rlv X) (sm_n (rlv X) 12) m) (rq1 (rpT (rlv X) 0 m) (rpA X o n) o n 12) o 12
def rpE (X : sm_X) (o n m : Nat) : sm_X := if m = 2 * sm_n (rlv X) 12 then sm_up (sm_up (sm_up (rpZ X o n m) 710 o 0) 706 o (X 708 o + 1)) 707 o n else sm_up (rpZ X o n m) 710 o 1
theorem rwf_A {X : sm_X} {o n : Nat} (hf : rwf X) (hm : X 708 o + 1 < 2 ^ 30) (hn : n ≤ 240) : rwf (sm_up (sm_up (sm_up X 703 0 0) 708 o (X 708 o + 1)) 709 o n) := by
  refine ⟨fun p hp => ?_, fun k hk => ?_⟩
  · have h := hf.1 p hp
    rw [sm_up_x (Or.inl (by decide)), sm_up_x (Or.inl (by decide)), sm_up_x (Or.inl (by decide)), sm_up_x (Or.inl (by decide)), sm_up_x (Or.inl (by decide)), sm_up_x (Or.inl (by decide)), sm_up_x (Or.inl (by decide)), sm_up_x (a := 710) (Or.inl (by decide)), sm_up_x (a := 710) (Or.inl (by decide)), sm_up_x (a := 710) (Or.inl (by decide)), sm_up_x (a := 711) (Or.inl (by decide)), sm_up_x (a := 711) (Or.inl (by decide)), sm_up_x (a := 711) (Or.inl (by decide)), sm_up_x (a := 712) (Or.inl (by decide)), sm_up_x (a := 712) (Or.inl (by decide)), sm_up_x (a := 712) (Or.inl (by decide))]
    refine ⟨h.1, h.2.1, ?_, ?_, h.2.2.2.2⟩
    · exact sm_up_lt hm (by rw [sm_up_x (Or.inl (by decide))]; exact h.2.2.1)
    · have h9 : sm_up (sm_up (sm_up X 703 0 0) 708 o (X 708 o + 1)) 709 o n 709 p < 241 := sm_up_lt (by omega) (by rw [sm_up_x (Or.inl (by decide)), sm_up_x (Or.inl (by decide))]; omega)
      omega
  · have h := hf.2 k hk
    rw [sm_up_x (Or.inl (by decide)), sm_up_x (Or.inl (by decide)), sm_up_x (Or.inl (by decide)), sm_up_x (a := 714) (Or.inl (by decide)), sm_up_x (a := 714) (Or.inl (by decide)), sm_up_x (a := 714) (Or.inl (by decide)), sm_up_x (a := 716) (Or.inl (by decide)), sm_up_x (a := 716) (Or.inl (by decide)), sm_up_x (a := 716) (Or.inl (by decide)), sm_up_x (a := 717) (Or.inl (by decide)), sm_up_x (a := 717) (Or.inl (by decide)), sm_up_x (a := 717) (Or.inl (by decide))]
    exact h
theorem sm_n_rlv {X Z : sm_X} (h : ∀ k, k < 12 → Z 711 k = X 711 k) : sm_n (rlv Z) 12 = sm_n (rlv X) 12 := sm_n_congr 12 (fun k hk => by unfold rlv; rw [h k hk])
/-- how many messages go out -/
def rmo (X : sm_X) (a m : Nat) : Prop := (X 703 4 = 4294967295 ∧ m = a) ∨ ∃ q, q < 2 ^ 31 ∧ X 703 4 = q ∧ m = if q < a then q else a

set_option maxHeartbeats 4000000 in
set_option maxRecDepth 100000 in
theorem c_R_putX1 (l : Launch) (Ω : sm_Ω) {X : sm_X} {w : Nat → Nat → Nat} {x z : Int32} (hx : x < 0 ∨ nI 12 ≤ x) : sm_met l Ω y_R_put b_R_put 7 (some .int) 4 723 [.ref (Ω.2.1 + 703), .int x, .int z] X (sm_rf w) (sm_det (some (.int (nI 0))) (sm_up X 703 0 1) (sm_rf w)) := by
  refine sm_intro (own := RX7) (L := [some (.ref (Ω.2.1 + 703)), some (.int x), some (.int z), none, none, none, none]) (by decide) rfl (by simp [Value.category]) (Nat.le_of_ble_eq_true rfl) rfl ?_
  intro Γ C I
  refine sg_aln (pc := 0) C d_R_put_0 rfl ?_
  refine sg_ic (pc := 1) (v := 0) C d_R_put_1 (by decide) ?_
  refine sg_puti (pc := 2) C pw_R_70 (by omega) rfl rfl rfl rfl d_R_put_2 ?_
  refine sg_iln (pc := 5) C d_R_put_5 rfl ?_
  refine sm_callS (pc := 6) (As := [.int x]) C I (c_R_isObject0 l Ω hx) cw_R_88 sw_R_isObject rfl (by decide) ⟨by decide, by decide⟩ rfl (Nat.le_of_ble_eq_true rfl) d_R_put_6 (sm_det_i ?_)
  refine sg_ifne (pc := 9) (tgt := 18) C d_R_put_9 (by decide) (by omega) (fun h9 => absurd rfl h9) (fun h9 => ?_)
  refine sg_aln (pc := 12) C d_R_put_12 rfl ?_
  refine sg_ic (pc := 13) (v := 1) C d_R_put_13 (by decide) ?_
  refine sm_callV (pc := 14) (As := [.int (nI 1)]) C I (c_R_fails l Ω) cw_R_81 iw_R_fails (C.1.2.2.2.2 _ (List.mem_cons_of_mem _ se_R_fails)) (by omega) rfl rfl rfl rfl (by decide) ⟨by decide, by decide⟩ rfl (Nat.le_of_ble_eq_true rfl) d_R_put_14 (sm_det_i ?_)
  exact sg_iret (pc := 17) C I rfl rfl d_R_put_17 ⟨rfl, sm_up_up, rfl⟩

set_option maxHeartbeats 4000000 in
set_option maxRecDepth 100000 in
theorem c_R_putX2 (l : Launch) (Ω : sm_Ω) {X : sm_X} {w : Nat → Nat → Nat} {o : Nat} {x : Int32} (ho : o < 12) (hx : x < 0 ∨ nI 240 < x) : sm_met l Ω y_R_put b_R_put 7 (some .int) 4 723 [.ref (Ω.2.1 + 703), .int (nI o), .int x] X (sm_rf w) (sm_det (some (.int (nI 0))) (sm_up X 703 0 2) (sm_rf w)) := by
  refine sm_intro (own := RX7) (L := [some (.ref (Ω.2.1 + 703)), some (.int (nI o)), some (.int x), none, none, none, none]) (by decide) rfl (by simp [Value.category]) (Nat.le_of_ble_eq_true rfl) rfl ?_
  intro Γ C I
  refine sg_aln (pc := 0) C d_R_put_0 rfl ?_
  refine sg_ic (pc := 1) (v := 0) C d_R_put_1 (by decide) ?_
  refine sg_puti (pc := 2) C pw_R_70 (by omega) rfl rfl rfl rfl d_R_put_2 ?_
  refine sg_iln (pc := 5) C d_R_put_5 rfl ?_
  refine sm_callS (pc := 6) (As := [.int (nI o)]) C I (c_R_isObject1 l Ω (by omega)) cw_R_88 sw_R_isObject rfl (by decide) ⟨by decide, by decide⟩ rfl (Nat.le_of_ble_eq_true rfl) d_R_put_6 (sm_det_i ?_)
  refine sg_ifne (pc := 9) (tgt := 18) C d_R_put_9 (by decide) (by omega) (fun h9 => ?_) (fun h9 => absurd h9 (by decide))
  refine sg_iln (pc := 18) C d_R_put_18 rfl ?_
  refine sg_ic (pc := 19) (v := 0) C d_R_put_19 (by decide) ?_
  refine sg_si (pc := 20) (v := 240) C d_R_put_20 (by decide) ?_
  refine sm_callS (pc := 23) (As := [.int x, .int (nI 0), .int (nI 240)]) C I (c_R_within0 l Ω (sn_hi hx)) cw_R_73 sw_R_within rfl (by decide) ⟨by decide, by decide⟩ rfl (Nat.le_of_ble_eq_true rfl) d_R_put_23 (sm_det_i ?_)
  refine sg_ifne (pc := 26) (tgt := 35) C d_R_put_26 (by decide) (by omega) (fun h26 => absurd rfl h26) (fun h26 => ?_)
  refine sg_aln (pc := 29) C d_R_put_29 rfl ?_
  refine sg_ic (pc := 30) (v := 2) C d_R_put_30 (by decide) ?_
  refine sm_callV (pc := 31) (As := [.int (nI 2)]) C I (c_R_fails l Ω) cw_R_81 iw_R_fails (C.1.2.2.2.2 _ (List.mem_cons_of_mem _ se_R_fails)) (by omega) rfl rfl rfl rfl (by decide) ⟨by decide, by decide⟩ rfl (Nat.le_of_ble_eq_true rfl) d_R_put_31 (sm_det_i ?_)
  exact sg_iret (pc := 34) C I rfl rfl d_R_put_34 ⟨rfl, sm_up_up, rfl⟩

set_option maxHeartbeats 4000000 in
set_option maxRecDepth 100000 in
theorem c_R_putX3 (l : Launch) (Ω : sm_Ω) {X : sm_X} {w : Nat → Nat → Nat} (hf : rwf X) {o n : Nat} (ho : o < 12) (hn : n ≤ 240) (hs : X 710 o ≠ 0) : sm_met l Ω y_R_put b_R_put 7 (some .int) 4 723 [.ref (Ω.2.1 + 703), .int (nI o), .int (nI n)] X (sm_rf w) (sm_det (some (.int (nI 0))) (sm_up X 703 0 3) (sm_rf w)) := by
  refine sm_intro (own := RX7) (L := [some (.ref (Ω.2.1 + 703)), some (.int (nI o)), some (.int (nI n)), none, none, none, none]) (by decide) rfl (by simp [Value.category]) (Nat.le_of_ble_eq_true rfl) rfl ?_
  intro Γ C I
  have gi := hf.1 o ho
  refine sg_aln (pc := 0) C d_R_put_0 rfl ?_
  refine sg_ic (pc := 1) (v := 0) C d_R_put_1 (by decide) ?_
  refine sg_puti (pc := 2) C pw_R_70 (by omega) rfl rfl rfl rfl d_R_put_2 ?_
  refine sg_iln (pc := 5) C d_R_put_5 rfl ?_
  refine sm_callS (pc := 6) (As := [.int (nI o)]) C I (c_R_isObject1 l Ω (by omega)) cw_R_88 sw_R_isObject rfl (by decide) ⟨by decide, by decide⟩ rfl (Nat.le_of_ble_eq_true rfl) d_R_put_6 (sm_det_i ?_)
  refine sg_ifne (pc := 9) (tgt := 18) C d_R_put_9 (by decide) (by omega) (fun h9 => ?_) (fun h9 => absurd h9 (by decide))
  refine sg_iln (pc := 18) C d_R_put_18 rfl ?_
  refine sg_ic (pc := 19) (v := 0) C d_R_put_19 (by decide) ?_
  refine sg_si (pc := 20) (v := 240) C d_R_put_20 (by decide) ?_
  refine sm_callS (pc := 23) (As := [.int (nI n), .int (nI 0), .int (nI 240)]) C I (c_R_within1 l Ω (nI_nlt (Nat.zero_le _) (by omega)) (nI_nlt (by omega) (by decide))) cw_R_73 sw_R_within rfl (by decide) ⟨by decide, by decide⟩ rfl (Nat.le_of_ble_eq_true rfl) d_R_put_23 (sm_det_i ?_)
  refine sg_ifne (pc := 26) (tgt := 35) C d_R_put_26 (by decide) (by omega) (fun h26 => ?_) (fun h26 => absurd h26 (by decide))
  refine sg_aln (pc := 35) C d_R_put_35 rfl ?_
  refine sg_getr (pc := 36) C fw_R_32 (by omega) rfl rfl rfl d_R_put_36 ?_
  refine sg_iln (pc := 39) C d_R_put_39 rfl ?_
  refine sg_bald (pc := 40) (n := 12) C (by omega) rfl (by omega) (by decide) d_R_put_40 ?_
  rw [sm_up_x (Or.inl (by decide))]
  refine sg_ifeq (pc := 41) (tgt := 50) C d_R_put_41 (by decide) (by omega) (fun h41 => absurd h41 hs) (fun h41 => ?_)
  refine sg_aln (pc := 44) C d_R_put_44 rfl ?_
  refine sg_ic (pc := 45) (v := 3) C d_R_put_45 (by decide) ?_
  refine sm_callV (pc := 46) (As := [.int (nI 3)]) C I (c_R_fails l Ω) cw_R_81 iw_R_fails (C.1.2.2.2.2 _ (List.mem_cons_of_mem _ se_R_fails)) (by omega) rfl rfl rfl rfl (by decide) ⟨by decide, by decide⟩ rfl (Nat.le_of_ble_eq_true rfl) d_R_put_46 (sm_det_i ?_)
  exact sg_iret (pc := 49) C I rfl rfl d_R_put_49 ⟨rfl, sm_up_up, rfl⟩

set_option maxHeartbeats 4000000 in
set_option maxRecDepth 100000 in
theorem c_R_putX4 (l : Launch) (Ω : sm_Ω) {X : sm_X} {w : Nat → Nat → Nat} (hf : rwf X) {o n : Nat} (ho : o < 12) (hn : n ≤ 240) (hs : X 710 o = 0) (h9 : (sm_n (rlv X) 12) < 9) : sm_met l Ω y_R_put b_R_put 7 (some .int) 4 723 [.ref (Ω.2.1 + 703), .int (nI o), .int (nI n)] X (sm_rf w) (sm_det (some (.int (nI 0))) (sm_up X 703 0 4) (sm_rf w)) := by
  refine sm_intro (own := RX7) (L := [some (.ref (Ω.2.1 + 703)), some (.int (nI o)), some (.int (nI n)), none, none, none, none]) (by decide) rfl (by simp [Value.category]) (Nat.le_of_ble_eq_true rfl) rfl ?_
  intro Γ C I
  have gi := hf.1 o ho
  refine sg_aln (pc := 0) C d_R_put_0 rfl ?_
  refine sg_ic (pc := 1) (v := 0) C d_R_put_1 (by decide) ?_
  refine sg_puti (pc := 2) C pw_R_70 (by omega) rfl rfl rfl rfl d_R_put_2 ?_
  refine sg_iln (pc := 5) C d_R_put_5 rfl ?_
  refine sm_callS (pc := 6) (As := [.int (nI o)]) C I (c_R_isObject1 l Ω (by omega)) cw_R_88 sw_R_isObject rfl (by decide) ⟨by decide, by decide⟩ rfl (Nat.le_of_ble_eq_true rfl) d_R_put_6 (sm_det_i ?_)
  refine sg_ifne (pc := 9) (tgt := 18) C d_R_put_9 (by decide) (by omega) (fun h9 => ?_) (fun h9 => absurd h9 (by decide))
  refine sg_iln (pc := 18) C d_R_put_18 rfl ?_
  refine sg_ic (pc := 19) (v := 0) C d_R_put_19 (by decide) ?_
  refine sg_si (pc := 20) (v := 240) C d_R_put_20 (by decide) ?_
  refine sm_callS (pc := 23) (As := [.int (nI n), .int (nI 0), .int (nI 240)]) C I (c_R_within1 l Ω (nI_nlt (Nat.zero_le _) (by omega)) (nI_nlt (by omega) (by decide))) cw_R_73 sw_R_within rfl (by decide) ⟨by decide, by decide⟩ rfl (Nat.le_of_ble_eq_true rfl) d_R_put_23 (sm_det_i ?_)
  refine sg_ifne (pc := 26) (tgt := 35) C d_R_put_26 (by decide) (by omega) (fun h26 => ?_) (fun h26 => absurd h26 (by decide))
  refine sg_aln (pc := 35) C d_R_put_35 rfl ?_
  refine sg_getr (pc := 36) C fw_R_32 (by omega) rfl rfl rfl d_R_put_36 ?_
  refine sg_iln (pc := 39) C d_R_put_39 rfl ?_
  refine sg_bald (pc := 40) (n := 12) C (by omega) rfl (by omega) (by decide) d_R_put_40 ?_
  rw [sm_up_x (Or.inl (by decide))]
  refine sg_ifeq (pc := 41) (tgt := 50) C d_R_put_41 (by decide) (by omega) (fun h41 => ?_) (fun h41 => absurd hs h41)
  refine sg_aln (pc := 50) C d_R_put_50 rfl ?_
  refine sm_callV (pc := 51) (As := []) C I (c_R_live l Ω (rwf_t hf)) cw_R_92 iw_R_live (C.1.2.2.2.2 _ (List.mem_cons_of_mem _ se_R_live)) (by omega) rfl rfl rfl rfl (by decide) ⟨by decide, by decide⟩ rfl (Nat.le_of_ble_eq_true rfl) d_R_put_51 (sm_det_i ?_)
  rw [sm_n_rlv (X := X) (fun k hk => sm_up_x (Or.inl (by decide)))]
  refine sg_bi (pc := 54) (v := 9) C d_R_put_54 (by decide) ?_
  refine sg_icge (pc := 56) (tgt := 65) C d_R_put_56 (by decide) (by omega) (by omega) (fun h56 => absurd h56 (by omega)) (fun h56 => ?_)
  refine sg_aln (pc := 59) C d_R_put_59 rfl ?_
  refine sg_ic (pc := 60) (v := 4) C d_R_put_60 (by decide) ?_
  refine sm_callV (pc := 61) (As := [.int (nI 4)]) C I (c_R_fails l Ω) cw_R_81 iw_R_fails (C.1.2.2.2.2 _ (List.mem_cons_of_mem _ se_R_fails)) (by omega) rfl rfl rfl rfl (by decide) ⟨by decide, by decide⟩ rfl (Nat.le_of_ble_eq_true rfl) d_R_put_61 (sm_det_i ?_)
  exact sg_iret (pc := 64) C I rfl rfl d_R_put_64 ⟨rfl, sm_up_up, rfl⟩
