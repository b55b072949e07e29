/-! The reference: fill, byteAt -/
def nA (r : Nat) : Nat := 5 * r - r * (r - 1) / 2
theorem nA_s : ∀ r, r < 5 → nA (r + 1) = nA r + (5 - r) := by decide +kernel
theorem nA_i : ∀ r, r < 5 → ∀ c, c < 5 → r ≤ c → mx_i r c = nA r + (c - r) := by decide +kernel
theorem nB_i : ∀ r, r < 5 → ∀ c, c < 8 → 5 ≤ c → mx_i r c = 15 + 3 * r + (c - 5) := by decide +kernel
theorem nA_le : ∀ r, r < 6 → nA r ≤ 15 := by decide +kernel
theorem mx_e (r : Nat) (hr : r < 8) (c : Nat) (hc : c < 8) (h : mx_i r c < 30) (a : Nat) (ha : a < 8) (b : Nat) (hb : b < 8) (e : mx_i a b = mx_i r c) : (a = r ∧ b = c) ∨ (a = c ∧ b = r) := by
  have h1 := mx_in r hr c hc
  have h2 := mx_in a ha b hb
  rw [e] at h2
  generalize sm_row (mx_i r c) = p at h1 h2
  generalize sm_col (mx_i r c) = q at h1 h2
  omega
def fI (X : sm_X) (k s N : Nat) (Z : sm_X) : Prop := (∀ a j, a ≠ 719 → Z a j = X a j) ∧ ∀ r c, r < 8 → c < 8 → Z 719 (8 * r + c) = if mx_i r c < N then rbo X k (30 * s + mx_i r c) else 0
theorem fI_s {X Z : sm_X} {k s N r c : Nat} (h : fI X k s N Z) (hr : r < 8) (hc : c < 8) (hN : mx_i r c = N) (hl : N < 30) : fI X k s (N + 1) (sm_up (sm_up Z 719 (8 * r + c) (rbo X k (30 * s + N))) 719 (8 * c + r) (rbo X k (30 * s + N))) := by
  refine ⟨fun a j ha => ?_, fun a b ha hb => ?_⟩
  · rw [sm_up_x (Or.inl ha), sm_up_x (Or.inl ha)]; exact h.1 a j ha
  · by_cases e : mx_i a b = N
    · rw [if_pos (by omega), e]
      rcases mx_e r hr c hc (by omega) a ha b hb (e.trans hN.symm) with ⟨rfl, rfl⟩ | ⟨rfl, rfl⟩
      · by_cases e2 : 8 * a + b = 8 * b + a
        · rw [← e2, sm_up_s]
        · rw [sm_up_x (Or.inr e2), sm_up_s]
      · rw [sm_up_s]
    · have h1 : 8 * a + b ≠ 8 * r + c := by
        intro q
        have q1 : a = r := by omega
        have q2 : b = c := by omega
        rw [q1, q2] at e; exact e hN
      have h2 : 8 * a + b ≠ 8 * c + r := by
        intro q
        have q1 : a = c := by omega
        have q2 : b = r := by omega
        rw [q1, q2, mx_sym c hc r hr] at e; exact e hN
      rw [sm_up_x (Or.inr h2), sm_up_x (Or.inr h1), h.2 a b ha hb]
      by_cases e3 : mx_i a b < N
      · rw [if_pos e3, if_pos (by omega)]
      · rw [if_neg e3, if_neg (by omega)]
theorem fI_e {X Z : sm_X} {k s : Nat} (h : fI X k s 30 Z) {r c : Nat} (hr : r < 8) (hc : c < 8) : Z 719 (8 * r + c) = mx (rbo X k) (8 * s + r) c := by
  rw [h.2 r c hr hc]
  unfold mx
  rw [show (8 * s + r) % 8 = r by omega, show (8 * s + r) / 8 = s by omega]
theorem rwf_9 {X Z : sm_X} (hf : rwf X) (h : ∀ a j, a ≠ 719 → Z a j = X a j) : rwf Z := by
  refine ⟨fun p hp => ?_, fun k hk => ?_⟩
  · rw [h 706 p (by decide), h 707 p (by decide), h 708 p (by decide), h 709 p (by decide), h 710 p (by decide), h 711 p (by decide), h 712 p (by decide)]
    exact hf.1 p hp
  · rw [h 713 k (by decide), h 714 k (by decide), h 716 k (by decide), h 717 k (by decide)]
    exact hf.2 k hk
theorem rbo_9 {X Z : sm_X} {k i : Nat} (h : ∀ a j, a ≠ 719 → Z a j = X a j) : rbo Z k i = rbo X k i := by
  unfold rbo
  rw [h 714 k (by decide), h 715 _ (by decide)]

set_option maxHeartbeats 4000000 in
set_option maxRecDepth 100000 in
theorem c_R_fill (l : Launch) (Ω : sm_Ω) {X : sm_X} {w : Nat → Nat → Nat} (hf : rwf X) {k s : Nat} (hk : k < 144) (hs : s < 8) : sm_met l Ω y_R_fill b_R_fill 6 none 2 723 [.ref (Ω.2.1 + 703), .int (nI k), .int (nI s)] X (sm_rf w) (fun q Z Y2 => q = none ∧ fI X k s 30 Z ∧ Y2 = sm_rf w) := by
  refine sm_intro (own := RX7) (L := [some (.ref (Ω.2.1 + 703)), some (.int (nI k)), some (.int (nI s)), none, none, none]) (by decide) rfl (by simp [Value.category]) (Nat.le_of_ble_eq_true rfl) rfl ?_
  intro Γ C I
  refine sg_ic (pc := 0) (v := 0) C d_R_fill_0 (by decide) ?_
  refine sg_is3 (pc := 1) C d_R_fill_1 ?_
  have loop0 : ∀ t i, i + t = 64 → sm_G Γ Ω 723 0 0 2 [some (.ref (Ω.2.1 + 703)), some (.int (nI k)), some (.int (nI s)), some (.int (nI i)), none, none] [] (sm_uf X 719 (blk 0 (fun _ => 0) (X 719) i)) (sm_rf w) := by
    intro t
    induction t with
    | zero =>
      intro i hi
      refine sg_iln (pc := 2) C d_R_fill_2 rfl ?_
      refine sg_bi (pc := 3) (v := 64) C d_R_fill_3 (by decide) ?_
      refine sg_icge (pc := 5) (tgt := 21) C d_R_fill_5 (by decide) (by omega) (by omega) (fun h5 => ?_) (fun h5 => absurd h5 (by omega))
      rw [show i = 64 by omega]
      refine sg_bi (pc := 21) (v := 30) C d_R_fill_21 (by decide) ?_
      refine sg_iln (pc := 23) C d_R_fill_23 rfl ?_
      refine sg_mul (pc := 24) C d_R_fill_24 ?_
      refine sg_is3 (pc := 25) C d_R_fill_25 ?_
      refine sg_ic (pc := 26) (v := 0) C d_R_fill_26 (by decide) ?_
      refine sg_is4 (pc := 27) C d_R_fill_27 ?_
      have loopA : ∀ t r (Z : sm_X) y, r + t = 5 → fI X k s (nA r) Z → sm_G Γ Ω 723 0 0 29 [some (.ref (Ω.2.1 + 703)), some (.int (nI k)), some (.int (nI s)), some (.int (nI (30 * s + (nA r)))), some (.int (nI r)), y] [] Z (sm_rf w) := by
        intro t
        induction t with
        | zero =>
          intro r Z y hr hZ
          refine sg_il (pc := 29) C d_R_fill_29 rfl ?_
          refine sg_ic (pc := 31) (v := 5) C d_R_fill_31 (by decide) ?_
          refine sg_icge (pc := 32) (tgt := 98) C d_R_fill_32 (by decide) (by omega) (by omega) (fun h32 => ?_) (fun h32 => absurd h32 (by omega))
          refine sg_ic (pc := 98) (v := 0) C d_R_fill_98 (by decide) ?_
          refine sg_is4 (pc := 99) C d_R_fill_99 ?_
          have loopB : ∀ t r (Z : sm_X) y, r + t = 5 → fI X k s (15 + 3 * r) Z → sm_G Γ Ω 723 0 0 101 [some (.ref (Ω.2.1 + 703)), some (.int (nI k)), some (.int (nI s)), some (.int (nI (30 * s + (15 + 3 * r)))), some (.int (nI r)), y] [] Z (sm_rf w) := by
            intro t
            induction t with
            | zero =>
              intro r Z y hr hZ
              refine sg_il (pc := 101) C d_R_fill_101 rfl ?_
              refine sg_ic (pc := 103) (v := 5) C d_R_fill_103 (by decide) ?_
              refine sg_icge (pc := 104) (tgt := 170) C d_R_fill_104 (by decide) (by omega) (by omega) (fun h104 => ?_) (fun h104 => absurd h104 (by omega))
              exact sg_vret (pc := 170) C I rfl d_R_fill_170 ⟨rfl, by rw [show r = 5 by omega] at hZ; exact hZ, rfl⟩
            | succ t ihB =>
              intro r Z y hr hZ
              refine sg_il (pc := 101) C d_R_fill_101 rfl ?_
              refine sg_ic (pc := 103) (v := 5) C d_R_fill_103 (by decide) ?_
              refine sg_icge (pc := 104) (tgt := 170) C d_R_fill_104 (by decide) (by omega) (by omega) (fun h104 => absurd h104 (by omega)) (fun h104 => ?_)
              refine sg_ic (pc := 107) (v := 5) C d_R_fill_107 (by decide) ?_
              refine sg_is5 (pc := 108) C d_R_fill_108 ?_
              have loopB2 : ∀ t c (Z : sm_X), c + t = 8 → 5 ≤ c → fI X k s (15 + 3 * r + (c - 5)) Z → sm_G Γ Ω 723 0 0 110 [some (.ref (Ω.2.1 + 703)), some (.int (nI k)), some (.int (nI s)), some (.int (nI (30 * s + (15 + 3 * r + (c - 5))))), some (.int (nI r)), some (.int (nI c))] [] Z (sm_rf w) := by
                intro t
                induction t with
                | zero =>
                  intro c Z hc hrc hZ
                  refine sg_il (pc := 110) C d_R_fill_110 rfl ?_
                  refine sg_bi (pc := 112) (v := 8) C d_R_fill_112 (by decide) ?_
                  refine sg_icge (pc := 114) (tgt := 164) C d_R_fill_114 (by decide) (by omega) (by omega) (fun h114 => ?_) (fun h114 => absurd h114 (by omega))
                  refine sg_inc4 (pc := 164) (n := 1) C d_R_fill_164 (by decide) ?_
                  refine sg_goto (pc := 167) (tgt := 101) C d_R_fill_167 (by decide) ?_
                  obtain rfl : c = 8 := by omega
                  have h := ihB (r + 1) Z (some (.int (nI 8))) (by omega) (by rw [show 15 + 3 * (r + 1) = 15 + 3 * r + (8 - 5) by omega]; exact hZ)
                  rw [show 15 + 3 * (r + 1) = 15 + 3 * r + (8 - 5) by omega] at h
                  exact h
                | succ t ihB2 =>
                  intro c Z hc hrc hZ
                  have hi := nB_i r (by omega) c (by omega) hrc
                  have hn2 := nA_le r (by omega)
                  have hfz := rwf_9 hf hZ.1
                  refine sg_il (pc := 110) C d_R_fill_110 rfl ?_
                  refine sg_bi (pc := 112) (v := 8) C d_R_fill_112 (by decide) ?_
                  refine sg_icge (pc := 114) (tgt := 164) C d_R_fill_114 (by decide) (by omega) (by omega) (fun h114 => absurd h114 (by omega)) (fun h114 => ?_)
                  refine sg_aln (pc := 117) C d_R_fill_117 rfl ?_
                  refine sg_getr (pc := 118) C fw_R_61 (by omega) rfl rfl rfl d_R_fill_118 ?_
                  refine sg_bi (pc := 121) (v := 8) C d_R_fill_121 (by decide) ?_
                  refine sg_il (pc := 123) C d_R_fill_123 rfl ?_
                  refine sg_mul (pc := 125) C d_R_fill_125 ?_
                  refine sg_il (pc := 126) C d_R_fill_126 rfl ?_
                  refine sg_add (pc := 128) C d_R_fill_128 ?_
                  refine sg_aln (pc := 129) C d_R_fill_129 rfl ?_
                  refine sg_iln (pc := 130) C d_R_fill_130 rfl ?_
                  refine sg_iln (pc := 131) C d_R_fill_131 rfl ?_
                  refine sm_callV (pc := 132) (As := [.int (nI k), .int (nI (30 * s + (15 + 3 * r + (c - 5))))]) C I (c_R_byteOf l Ω (hfz) hk (by omega)) cw_R_134 iw_R_byteOf (C.1.2.2.2.2 _ (List.mem_cons_of_mem _ se_R_byteOf)) (by omega) rfl rfl rfl rfl (by decide) ⟨by decide, by decide⟩ rfl (Nat.le_of_ble_eq_true rfl) d_R_fill_132 (sm_det_i ?_)
                  rw [rbo_9 hZ.1]
                  refine sg_iast (pc := 135) (n := 64) C (by omega) rfl (by omega) (by decide) d_R_fill_135 ?_
                  refine sg_aln (pc := 136) C d_R_fill_136 rfl ?_
                  refine sg_getr (pc := 137) C fw_R_61 (by omega) rfl rfl rfl d_R_fill_137 ?_
                  refine sg_bi (pc := 140) (v := 8) C d_R_fill_140 (by decide) ?_
                  refine sg_il (pc := 142) C d_R_fill_142 rfl ?_
                  refine sg_mul (pc := 144) C d_R_fill_144 ?_
                  refine sg_il (pc := 145) C d_R_fill_145 rfl ?_
                  refine sg_add (pc := 147) C d_R_fill_147 ?_
                  refine sg_aln (pc := 148) C d_R_fill_148 rfl ?_
                  refine sg_iln (pc := 149) C d_R_fill_149 rfl ?_
                  refine sg_iln (pc := 150) C d_R_fill_150 rfl ?_
                  refine sm_callV (pc := 151) (As := [.int (nI k), .int (nI (30 * s + (15 + 3 * r + (c - 5))))]) C I (c_R_byteOf l Ω (rwf_9 hfz (fun a j ha => sm_up_x (Or.inl ha))) hk (by omega)) cw_R_134 iw_R_byteOf (C.1.2.2.2.2 _ (List.mem_cons_of_mem _ se_R_byteOf)) (by omega) rfl rfl rfl rfl (by decide) ⟨by decide, by decide⟩ rfl (Nat.le_of_ble_eq_true rfl) d_R_fill_151 (sm_det_i ?_)
                  rw [rbo_9 (fun a j ha => (sm_up_x (Or.inl ha)).trans (hZ.1 a j ha))]
                  refine sg_iast (pc := 154) (n := 64) C (by omega) rfl (by omega) (by decide) d_R_fill_154 ?_
                  refine sg_inc3 (pc := 155) (n := 1) C d_R_fill_155 (by decide) ?_
                  refine sg_inc5 (pc := 158) (n := 1) C d_R_fill_158 (by decide) ?_
                  refine sg_goto (pc := 161) (tgt := 110) C d_R_fill_161 (by decide) ?_
                  have h := ihB2 (c + 1) _ (by omega) (by omega) (by rw [show 15 + 3 * r + ((c + 1) - 5) = 15 + 3 * r + (c - 5) + 1 by omega]; exact fI_s hZ (by omega) (by omega) hi (by omega))
                  rw [show 30 * s + (15 + 3 * r + ((c + 1) - 5)) = 30 * s + (15 + 3 * r + (c - 5)) + 1 by omega] at h
                  exact h
              have h0 := loopB2 (8 - 5) 5 Z (by omega) (by omega) (by rw [show 15 + 3 * r + (5 - 5) = 15 + 3 * r by omega]; exact hZ)
              rw [show 15 + 3 * r + (5 - 5) = 15 + 3 * r by omega] at h0
              exact h0
          obtain rfl : r = 5 := by omega
          exact loopB 5 0 Z y (by omega) hZ
        | succ t ihA =>
          intro r Z y hr hZ
          refine sg_il (pc := 29) C d_R_fill_29 rfl ?_
          refine sg_ic (pc := 31) (v := 5) C d_R_fill_31 (by decide) ?_
          refine sg_icge (pc := 32) (tgt := 98) C d_R_fill_32 (by decide) (by omega) (by omega) (fun h32 => absurd h32 (by omega)) (fun h32 => ?_)
          refine sg_il (pc := 35) C d_R_fill_35 rfl ?_
          refine sg_is5 (pc := 37) C d_R_fill_37 ?_
          have loopA2 : ∀ t c (Z : sm_X), c + t = 5 → r ≤ c → fI X k s (nA r + (c - r)) Z → sm_G Γ Ω 723 0 0 39 [some (.ref (Ω.2.1 + 703)), some (.int (nI k)), some (.int (nI s)), some (.int (nI (30 * s + (nA r + (c - r))))), some (.int (nI r)), some (.int (nI c))] [] Z (sm_rf w) := by
            intro t
            induction t with
            | zero =>
              intro c Z hc hrc hZ
              refine sg_il (pc := 39) C d_R_fill_39 rfl ?_
              refine sg_ic (pc := 41) (v := 5) C d_R_fill_41 (by decide) ?_
              refine sg_icge (pc := 42) (tgt := 92) C d_R_fill_42 (by decide) (by omega) (by omega) (fun h42 => ?_) (fun h42 => absurd h42 (by omega))
              refine sg_inc4 (pc := 92) (n := 1) C d_R_fill_92 (by decide) ?_
              refine sg_goto (pc := 95) (tgt := 29) C d_R_fill_95 (by decide) ?_
              obtain rfl : c = 5 := by omega
              have h := ihA (r + 1) Z (some (.int (nI 5))) (by omega) (by rw [nA_s r (by omega)]; exact hZ)
              rw [nA_s r (by omega)] at h
              exact h
            | succ t ihA2 =>
              intro c Z hc hrc hZ
              have hi := nA_i r (by omega) c (by omega) hrc
              have hn2 := nA_le r (by omega)
              have hfz := rwf_9 hf hZ.1
              refine sg_il (pc := 39) C d_R_fill_39 rfl ?_
              refine sg_ic (pc := 41) (v := 5) C d_R_fill_41 (by decide) ?_
              refine sg_icge (pc := 42) (tgt := 92) C d_R_fill_42 (by decide) (by omega) (by omega) (fun h42 => absurd h42 (by omega)) (fun h42 => ?_)
              refine sg_aln (pc := 45) C d_R_fill_45 rfl ?_
              refine sg_getr (pc := 46) C fw_R_61 (by omega) rfl rfl rfl d_R_fill_46 ?_
              refine sg_bi (pc := 49) (v := 8) C d_R_fill_49 (by decide) ?_
              refine sg_il (pc := 51) C d_R_fill_51 rfl ?_
              refine sg_mul (pc := 53) C d_R_fill_53 ?_
              refine sg_il (pc := 54) C d_R_fill_54 rfl ?_
              refine sg_add (pc := 56) C d_R_fill_56 ?_
              refine sg_aln (pc := 57) C d_R_fill_57 rfl ?_
              refine sg_iln (pc := 58) C d_R_fill_58 rfl ?_
              refine sg_iln (pc := 59) C d_R_fill_59 rfl ?_
              refine sm_callV (pc := 60) (As := [.int (nI k), .int (nI (30 * s + (nA r + (c - r))))]) C I (c_R_byteOf l Ω (hfz) hk (by omega)) cw_R_134 iw_R_byteOf (C.1.2.2.2.2 _ (List.mem_cons_of_mem _ se_R_byteOf)) (by omega) rfl rfl rfl rfl (by decide) ⟨by decide, by decide⟩ rfl (Nat.le_of_ble_eq_true rfl) d_R_fill_60 (sm_det_i ?_)
              rw [rbo_9 hZ.1]
              refine sg_iast (pc := 63) (n := 64) C (by omega) rfl (by omega) (by decide) d_R_fill_63 ?_
              refine sg_aln (pc := 64) C d_R_fill_64 rfl ?_
              refine sg_getr (pc := 65) C fw_R_61 (by omega) rfl rfl rfl d_R_fill_65 ?_
              refine sg_bi (pc := 68) (v := 8) C d_R_fill_68 (by decide) ?_
              refine sg_il (pc := 70) C d_R_fill_70 rfl ?_
              refine sg_mul (pc := 72) C d_R_fill_72 ?_
              refine sg_il (pc := 73) C d_R_fill_73 rfl ?_
              refine sg_add (pc := 75) C d_R_fill_75 ?_
              refine sg_aln (pc := 76) C d_R_fill_76 rfl ?_
              refine sg_iln (pc := 77) C d_R_fill_77 rfl ?_
              refine sg_iln (pc := 78) C d_R_fill_78 rfl ?_
              refine sm_callV (pc := 79) (As := [.int (nI k), .int (nI (30 * s + (nA r + (c - r))))]) C I (c_R_byteOf l Ω (rwf_9 hfz (fun a j ha => sm_up_x (Or.inl ha))) hk (by omega)) cw_R_134 iw_R_byteOf (C.1.2.2.2.2 _ (List.mem_cons_of_mem _ se_R_byteOf)) (by omega) rfl rfl rfl rfl (by decide) ⟨by decide, by decide⟩ rfl (Nat.le_of_ble_eq_true rfl) d_R_fill_79 (sm_det_i ?_)
              rw [rbo_9 (fun a j ha => (sm_up_x (Or.inl ha)).trans (hZ.1 a j ha))]
              refine sg_iast (pc := 82) (n := 64) C (by omega) rfl (by omega) (by decide) d_R_fill_82 ?_
              refine sg_inc3 (pc := 83) (n := 1) C d_R_fill_83 (by decide) ?_
              refine sg_inc5 (pc := 86) (n := 1) C d_R_fill_86 (by decide) ?_
              refine sg_goto (pc := 89) (tgt := 39) C d_R_fill_89 (by decide) ?_
              have h := ihA2 (c + 1) _ (by omega) (by omega) (by rw [show nA r + ((c + 1) - r) = nA r + (c - r) + 1 by omega]; exact fI_s hZ (by omega) (by omega) hi (by omega))
              rw [show 30 * s + (nA r + ((c + 1) - r)) = 30 * s + (nA r + (c - r)) + 1 by omega] at h
              exact h
          have h0 := loopA2 (5 - r) r Z (by omega) (by omega) (by rw [show nA r + (r - r) = nA r by omega]; exact hZ)
          rw [show nA r + (r - r) = nA r by omega] at h0
          exact h0
      have hZ0 : fI X k s 0 (sm_uf X 719 (blk 0 (fun _ => 0) (X 719) 64)) := ⟨fun a j ha => sm_uf_o ha, fun r c hr hc => by rw [sm_uf_s, if_neg (Nat.not_lt_zero _), show 8 * r + c = 0 + (8 * r + c) by omega]; exact blk_in (by omega)⟩
      exact loopA 5 0 _ none (by omega) hZ0
    | succ t ih0 =>
      intro i hi
      refine sg_iln (pc := 2) C d_R_fill_2 rfl ?_
      refine sg_bi (pc := 3) (v := 64) C d_R_fill_3 (by decide) ?_
      refine sg_icge (pc := 5) (tgt := 21) C d_R_fill_5 (by decide) (by omega) (by omega) (fun h5 => absurd h5 (by omega)) (fun h5 => ?_)
      refine sg_aln (pc := 8) C d_R_fill_8 rfl ?_
      refine sg_getr (pc := 9) C fw_R_61 (by omega) rfl rfl rfl d_R_fill_9 ?_
      refine sg_iln (pc := 12) C d_R_fill_12 rfl ?_
      refine sg_ic (pc := 13) (v := 0) C d_R_fill_13 (by decide) ?_
      refine sg_iast (pc := 14) (n := 64) C (by omega) rfl (by omega) (by decide) d_R_fill_14 ?_
      rw [blk_up0 (f := fun _ => 0)]
      refine sg_inc3 (pc := 15) (n := 1) C d_R_fill_15 (by decide) ?_
      refine sg_goto (pc := 18) (tgt := 2) C d_R_fill_18 (by decide) ?_
      exact ih0 (i + 1) (by omega)
  have h0 := loop0 64 0 (by omega)
  rw [blk_0, sm_uf_self] at h0
  exact h0

set_option maxHeartbeats 4000000 in
set_option maxRecDepth 100000 in
theorem c_R_byteAtX1 (l : Launch) (Ω : sm_Ω) {X V : sm_X} {w : Nat → Nat → Nat} (hV : V = sm_up X 703 0 0) {x z u : Int32} (hx : x < 0 ∨ nI 12 ≤ x) : sm_met l Ω y_R_byteAt b_R_byteAt 6 (some .int) 4 723 [.ref (Ω.2.1 + 703), .int x, .int z, .int u] X (sm_rf w) (sm_det (some (.int (nI 0))) (sm_up X 703 0 1) (sm_rf w)) := by
  refine sm_intro (own := RX7) (L := [some (.ref (Ω.2.1 + 703)), some (.int x), some (.int z), some (.int u), none, none]) (by decide) rfl (by simp [Value.category]) (Nat.le_of_ble_eq_true rfl) rfl ?_
  intro Γ C I
  refine sg_aln (pc := 0) C d_R_byteAt_0 rfl ?_
  refine sg_ic (pc := 1) (v := 0) C d_R_byteAt_1 (by decide) ?_
  refine sg_puti (pc := 2) C pw_R_70 (by omega) rfl rfl rfl rfl d_R_byteAt_2 ?_
  rw [← hV]
  refine sg_iln (pc := 5) C d_R_byteAt_5 rfl ?_
  refine sm_callS (pc := 6) (As := [.int x]) C I (c_R_isNode0 l Ω hx) cw_R_114 sw_R_isNode rfl (by decide) ⟨by decide, by decide⟩ rfl (Nat.le_of_ble_eq_true rfl) d_R_byteAt_6 (sm_det_i ?_)
  refine sg_ifeq (pc := 9) (tgt := 45) C d_R_byteAt_9 (by decide) (by omega) (fun h9 => ?_) (fun h9 => absurd rfl h9)
  refine sg_aln (pc := 45) C d_R_byteAt_45 rfl ?_
  refine sg_ic (pc := 46) (v := 1) C d_R_byteAt_46 (by decide) ?_
  refine sm_callV (pc := 47) (As := [.int (nI 1)]) C I (c_R_fails l Ω) cw_R_81 iw_R_fails (C.1.2.2.2.2 _ (List.mem_cons_of_mem _ se_R_fails)) (by omega) rfl rfl rfl rfl (by decide) ⟨by decide, by decide⟩ rfl (Nat.le_of_ble_eq_true rfl) d_R_byteAt_47 (sm_det_i ?_)
  exact sg_iret (pc := 50) C I rfl rfl d_R_byteAt_50 ⟨rfl, by rw [hV]; exact sm_up_up, rfl⟩

set_option maxHeartbeats 4000000 in
set_option maxRecDepth 100000 in
theorem c_R_byteAtX2 (l : Launch) (Ω : sm_Ω) {X V : sm_X} {w : Nat → Nat → Nat} (hV : V = sm_up X 703 0 0) {d : Nat} {x u : Int32} (hd : d < 12) (hx : x < 0 ∨ nI 12 ≤ x) : sm_met l Ω y_R_byteAt b_R_byteAt 6 (some .int) 4 723 [.ref (Ω.2.1 + 703), .int (nI d), .int x, .int u] X (sm_rf w) (sm_det (some (.int (nI 0))) (sm_up X 703 0 1) (sm_rf w)) := by
  refine sm_intro (own := RX7) (L := [some (.ref (Ω.2.1 + 703)), some (.int (nI d)), some (.int x), some (.int u), none, none]) (by decide) rfl (by simp [Value.category]) (Nat.le_of_ble_eq_true rfl) rfl ?_
  intro Γ C I
  refine sg_aln (pc := 0) C d_R_byteAt_0 rfl ?_
  refine sg_ic (pc := 1) (v := 0) C d_R_byteAt_1 (by decide) ?_
  refine sg_puti (pc := 2) C pw_R_70 (by omega) rfl rfl rfl rfl d_R_byteAt_2 ?_
  rw [← hV]
  refine sg_iln (pc := 5) C d_R_byteAt_5 rfl ?_
  refine sm_callS (pc := 6) (As := [.int (nI d)]) C I (c_R_isNode1 l Ω (by omega)) cw_R_114 sw_R_isNode rfl (by decide) ⟨by decide, by decide⟩ rfl (Nat.le_of_ble_eq_true rfl) d_R_byteAt_6 (sm_det_i ?_)
  refine sg_ifeq (pc := 9) (tgt := 45) C d_R_byteAt_9 (by decide) (by omega) (fun h9 => absurd h9 (by decide)) (fun h9 => ?_)
  refine sg_iln (pc := 12) C d_R_byteAt_12 rfl ?_
  refine sm_callS (pc := 13) (As := [.int x]) C I (c_R_isObject0 l Ω hx) cw_R_88 sw_R_isObject rfl (by decide) ⟨by decide, by decide⟩ rfl (Nat.le_of_ble_eq_true rfl) d_R_byteAt_13 (sm_det_i ?_)
  refine sg_ifeq (pc := 16) (tgt := 45) C d_R_byteAt_16 (by decide) (by omega) (fun h16 => ?_) (fun h16 => absurd rfl h16)
  refine sg_aln (pc := 45) C d_R_byteAt_45 rfl ?_
  refine sg_ic (pc := 46) (v := 1) C d_R_byteAt_46 (by decide) ?_
  refine sm_callV (pc := 47) (As := [.int (nI 1)]) C I (c_R_fails l Ω) cw_R_81 iw_R_fails (C.1.2.2.2.2 _ (List.mem_cons_of_mem _ se_R_fails)) (by omega) rfl rfl rfl rfl (by decide) ⟨by decide, by decide⟩ rfl (Nat.le_of_ble_eq_true rfl) d_R_byteAt_47 (sm_det_i ?_)
  exact sg_iret (pc := 50) C I rfl rfl d_R_byteAt_50 ⟨rfl, by rw [hV]; exact sm_up_up, rfl⟩

set_option maxHeartbeats 4000000 in
set_option maxRecDepth 100000 in
theorem c_R_byteAtX3 (l : Launch) (Ω : sm_Ω) {X V : sm_X} {w : Nat → Nat → Nat} (hV : V = sm_up X 703 0 0) (hf : rwf V) {d o : Nat} {x : Int32} (hd : d < 12) (ho : o < 12) (hx : x < 0 ∨ nI (8 * (((V 714 (12 * d + o)) + 29) / 30)) ≤ x) : sm_met l Ω y_R_byteAt b_R_byteAt 6 (some .int) 4 723 [.ref (Ω.2.1 + 703), .int (nI d), .int (nI o), .int x] X (sm_rf w) (sm_det (some (.int (nI 0))) (sm_up X 703 0 1) (sm_rf w)) := by
  refine sm_intro (own := RX7) (L := [some (.ref (Ω.2.1 + 703)), some (.int (nI d)), some (.int (nI o)), some (.int x), none, none]) (by decide) rfl (by simp [Value.category]) (Nat.le_of_ble_eq_true rfl) rfl ?_
  intro Γ C I
  have g2 := hf.2 (12 * d + o) (by omega)
  refine sg_aln (pc := 0) C d_R_byteAt_0 rfl ?_
  refine sg_ic (pc := 1) (v := 0) C d_R_byteAt_1 (by decide) ?_
  refine sg_puti (pc := 2) C pw_R_70 (by omega) rfl rfl rfl rfl d_R_byteAt_2 ?_
  rw [← hV]
  refine sg_iln (pc := 5) C d_R_byteAt_5 rfl ?_
  refine sm_callS (pc := 6) (As := [.int (nI d)]) C I (c_R_isNode1 l Ω (by omega)) cw_R_114 sw_R_isNode rfl (by decide) ⟨by decide, by decide⟩ rfl (Nat.le_of_ble_eq_true rfl) d_R_byteAt_6 (sm_det_i ?_)
  refine sg_ifeq (pc := 9) (tgt := 45) C d_R_byteAt_9 (by decide) (by omega) (fun h9 => absurd h9 (by decide)) (fun h9 => ?_)
  refine sg_iln (pc := 12) C d_R_byteAt_12 rfl ?_
  refine sm_callS (pc := 13) (As := [.int (nI o)]) C I (c_R_isObject1 l Ω (by omega)) cw_R_88 sw_R_isObject rfl (by decide) ⟨by decide, by decide⟩ rfl (Nat.le_of_ble_eq_true rfl) d_R_byteAt_13 (sm_det_i ?_)
  refine sg_ifeq (pc := 16) (tgt := 45) C d_R_byteAt_16 (by decide) (by omega) (fun h16 => absurd h16 (by decide)) (fun h16 => ?_)
  refine sg_iln (pc := 19) C d_R_byteAt_19 rfl ?_
  refine sg_ic (pc := 20) (v := 0) C d_R_byteAt_20 (by decide) ?_
  refine sg_bi (pc := 21) (v := 8) C d_R_byteAt_21 (by decide) ?_
  refine sg_aln (pc := 23) C d_R_byteAt_23 rfl ?_
  refine sg_getr (pc := 24) C fw_R_45 (by omega) rfl rfl rfl d_R_byteAt_24 ?_
  refine sg_iln (pc := 27) C d_R_byteAt_27 rfl ?_
  refine sg_iln (pc := 28) C d_R_byteAt_28 rfl ?_
  refine sm_callS (pc := 29) (As := [.int (nI d), .int (nI o)]) C I (c_R_at l Ω) cw_R_85 sw_R_at rfl (by decide) ⟨by decide, by decide⟩ rfl (Nat.le_of_ble_eq_true rfl) d_R_byteAt_29 (sm_det_i ?_)
  refine sg_iald (pc := 32) (n := 144) C (by omega) rfl (by omega) (by decide) d_R_byteAt_32 ?_
  refine sm_callS (pc := 33) (As := [.int (nI (V 714 (12 * d + o)))]) C I (c_R_stripes l Ω (by omega)) cw_R_127 sw_R_stripes rfl (by decide) ⟨by decide, by decide⟩ rfl (Nat.le_of_ble_eq_true rfl) d_R_byteAt_33 (sm_det_i ?_)
  refine sg_mul (pc := 36) C d_R_byteAt_36 ?_
  refine sg_ic (pc := 37) (v := 1) C d_R_byteAt_37 (by decide) ?_
  refine sr_isub (pc := 38) C d_R_byteAt_38 rfl ?_
  refine sm_callS (pc := 39) (As := [.int x, .int (nI 0), .int (nI (8 * (((V 714 (12 * d + o)) + 29) / 30)) - nI 1)]) C I (c_R_within0 l Ω (sn_r1 (by omega) hx)) cw_R_73 sw_R_within rfl (by decide) ⟨by decide, by decide⟩ rfl (Nat.le_of_ble_eq_true rfl) d_R_byteAt_39 (sm_det_i ?_)
  refine sg_ifne (pc := 42) (tgt := 51) C d_R_byteAt_42 (by decide) (by omega) (fun h42 => absurd rfl h42) (fun h42 => ?_)
  refine sg_aln (pc := 45) C d_R_byteAt_45 rfl ?_
  refine sg_ic (pc := 46) (v := 1) C d_R_byteAt_46 (by decide) ?_
  refine sm_callV (pc := 47) (As := [.int (nI 1)]) C I (c_R_fails l Ω) cw_R_81 iw_R_fails (C.1.2.2.2.2 _ (List.mem_cons_of_mem _ se_R_fails)) (by omega) rfl rfl rfl rfl (by decide) ⟨by decide, by decide⟩ rfl (Nat.le_of_ble_eq_true rfl) d_R_byteAt_47 (sm_det_i ?_)
  exact sg_iret (pc := 50) C I rfl rfl d_R_byteAt_50 ⟨rfl, by rw [hV]; exact sm_up_up, rfl⟩

set_option maxHeartbeats 4000000 in
set_option maxRecDepth 100000 in
theorem c_R_byteAt (l : Launch) (Ω : sm_Ω) {X V : sm_X} {w : Nat → Nat → Nat} (hV : V = sm_up X 703 0 0) (hf : rwf V) {d o i : Nat} (hd : d < 12) (ho : o < 12) (hi : i < (8 * (((V 714 (12 * d + o)) + 29) / 30))) (hb : ∀ j, (rbo V (12 * d + o)) j < 256) : sm_met l Ω y_R_byteAt b_R_byteAt 6 (some .int) 4 723 [.ref (Ω.2.1 + 703), .int (nI d), .int (nI o), .int (nI i)] X (sm_rf w) (fun q Z Y2 => q = some (.int (nI (mx_b (rbo V (12 * d + o)) (d + 1) i))) ∧ (∀ a j, a ≠ 719 → Z a j = V a j) ∧ Y2 = sm_rf w) := by
  refine sm_intro (own := RX7) (L := [some (.ref (Ω.2.1 + 703)), some (.int (nI d)), some (.int (nI o)), some (.int (nI i)), none, none]) (by decide) rfl (by simp [Value.category]) (Nat.le_of_ble_eq_true rfl) rfl ?_
  intro Γ C I
  have g2 := hf.2 (12 * d + o) (by omega)
  refine sg_aln (pc := 0) C d_R_byteAt_0 rfl ?_
  refine sg_ic (pc := 1) (v := 0) C d_R_byteAt_1 (by decide) ?_
  refine sg_puti (pc := 2) C pw_R_70 (by omega) rfl rfl rfl rfl d_R_byteAt_2 ?_
  rw [← hV]
  refine sg_iln (pc := 5) C d_R_byteAt_5 rfl ?_
  refine sm_callS (pc := 6) (As := [.int (nI d)]) C I (c_R_isNode1 l Ω (by omega)) cw_R_114 sw_R_isNode rfl (by decide) ⟨by decide, by decide⟩ rfl (Nat.le_of_ble_eq_true rfl) d_R_byteAt_6 (sm_det_i ?_)
  refine sg_ifeq (pc := 9) (tgt := 45) C d_R_byteAt_9 (by decide) (by omega) (fun h9 => absurd h9 (by decide)) (fun h9 => ?_)
  refine sg_iln (pc := 12) C d_R_byteAt_12 rfl ?_
  refine sm_callS (pc := 13) (As := [.int (nI o)]) C I (c_R_isObject1 l Ω (by omega)) cw_R_88 sw_R_isObject rfl (by decide) ⟨by decide, by decide⟩ rfl (Nat.le_of_ble_eq_true rfl) d_R_byteAt_13 (sm_det_i ?_)
  refine sg_ifeq (pc := 16) (tgt := 45) C d_R_byteAt_16 (by decide) (by omega) (fun h16 => absurd h16 (by decide)) (fun h16 => ?_)
  refine sg_iln (pc := 19) C d_R_byteAt_19 rfl ?_
  refine sg_ic (pc := 20) (v := 0) C d_R_byteAt_20 (by decide) ?_
  refine sg_bi (pc := 21) (v := 8) C d_R_byteAt_21 (by decide) ?_
  refine sg_aln (pc := 23) C d_R_byteAt_23 rfl ?_
  refine sg_getr (pc := 24) C fw_R_45 (by omega) rfl rfl rfl d_R_byteAt_24 ?_
  refine sg_iln (pc := 27) C d_R_byteAt_27 rfl ?_
  refine sg_iln (pc := 28) C d_R_byteAt_28 rfl ?_
  refine sm_callS (pc := 29) (As := [.int (nI d), .int (nI o)]) C I (c_R_at l Ω) cw_R_85 sw_R_at rfl (by decide) ⟨by decide, by decide⟩ rfl (Nat.le_of_ble_eq_true rfl) d_R_byteAt_29 (sm_det_i ?_)
  refine sg_iald (pc := 32) (n := 144) C (by omega) rfl (by omega) (by decide) d_R_byteAt_32 ?_
  refine sm_callS (pc := 33) (As := [.int (nI (V 714 (12 * d + o)))]) C I (c_R_stripes l Ω (by omega)) cw_R_127 sw_R_stripes rfl (by decide) ⟨by decide, by decide⟩ rfl (Nat.le_of_ble_eq_true rfl) d_R_byteAt_33 (sm_det_i ?_)
  refine sg_mul (pc := 36) C d_R_byteAt_36 ?_
  refine sg_ic (pc := 37) (v := 1) C d_R_byteAt_37 (by decide) ?_
  refine sg_sub (pc := 38) C d_R_byteAt_38 (by omega) ?_
  refine sm_callS (pc := 39) (As := [.int (nI i), .int (nI 0), .int (nI ((8 * (((V 714 (12 * d + o)) + 29) / 30)) - 1))]) C I (c_R_within1 l Ω (nI_nlt (Nat.zero_le _) (by omega)) (nI_nlt (by omega) (by omega))) cw_R_73 sw_R_within rfl (by decide) ⟨by decide, by decide⟩ rfl (Nat.le_of_ble_eq_true rfl) d_R_byteAt_39 (sm_det_i ?_)
  refine sg_ifne (pc := 42) (tgt := 51) C d_R_byteAt_42 (by decide) (by omega) (fun h42 => ?_) (fun h42 => absurd h42 (by decide))
  refine sg_aln (pc := 51) C d_R_byteAt_51 rfl ?_
  refine sg_iln (pc := 52) C d_R_byteAt_52 rfl ?_
  refine sg_iln (pc := 53) C d_R_byteAt_53 rfl ?_
  refine sm_callS (pc := 54) (As := [.int (nI d), .int (nI o)]) C I (c_R_at l Ω) cw_R_85 sw_R_at rfl (by decide) ⟨by decide, by decide⟩ rfl (Nat.le_of_ble_eq_true rfl) d_R_byteAt_54 (sm_det_i ?_)
  refine sg_iln (pc := 57) C d_R_byteAt_57 rfl ?_
  refine sg_bi (pc := 58) (v := 8) C d_R_byteAt_58 (by decide) ?_
  refine sg_div (pc := 60) C d_R_byteAt_60 (by omega) (by decide) (by decide) ?_
  refine sm_callV (pc := 61) (As := [.int (nI (12 * d + o)), .int (nI (i / 8))]) C I (c_R_fill l Ω hf (by omega) (by omega)) cw_R_137 iw_R_fill (C.1.2.2.2.2 _ (List.mem_cons_of_mem _ se_R_fill)) (by omega) rfl rfl rfl rfl (by decide) ⟨by decide, by decide⟩ rfl (Nat.le_of_ble_eq_true rfl) d_R_byteAt_61 (fun v1 Z Y2 hp1 => ?_)
  obtain ⟨rfl, hZ, rfl⟩ := hp1
  change sm_G Γ Ω 723 0 0 (61 + 3) _ [] Z (sm_rf w)
  refine sg_ic (pc := 64) (v := 0) C d_R_byteAt_64 (by decide) ?_
  refine sg_is4 (pc := 65) C d_R_byteAt_65 ?_
  refine sg_ic (pc := 67) (v := 0) C d_R_byteAt_67 (by decide) ?_
  refine sg_is5 (pc := 68) C d_R_byteAt_68 ?_
  have loop : ∀ t r, r + t = 8 → sm_G Γ Ω 723 0 0 70 [some (.ref (Ω.2.1 + 703)), some (.int (nI d)), some (.int (nI o)), some (.int (nI i)), some (.int (nI (gf_s (mx (rbo V (12 * d + o)) i) (d + 1) r))), some (.int (nI r))] [] Z (sm_rf w) := by
    intro t
    induction t with
    | zero =>
      intro r hr
      refine sg_il (pc := 70) C d_R_byteAt_70 rfl ?_
      refine sg_bi (pc := 72) (v := 8) C d_R_byteAt_72 (by decide) ?_
      refine sg_icge (pc := 74) (tgt := 114) C d_R_byteAt_74 (by decide) (by omega) (by omega) (fun h74 => ?_) (fun h74 => absurd h74 (by omega))
      refine sg_il (pc := 114) C d_R_byteAt_114 rfl ?_
      exact sg_iret (pc := 116) C I rfl rfl d_R_byteAt_116 ⟨by rw [show r = 8 by omega, gf_s_h (fun j => mx_lt hb i j)]; rfl, hZ.1, rfl⟩
    | succ t ih =>
      intro r hr
      have eM : Z 719 (8 * r + i % 8) = mx (rbo V (12 * d + o)) i r := by
        rw [fI_e hZ (by omega) (by omega), mx_s (by omega) (by omega), show 8 * (i / 8) + i % 8 = i by omega]
      have hml := mx_lt hb i r
      refine sg_il (pc := 70) C d_R_byteAt_70 rfl ?_
      refine sg_bi (pc := 72) (v := 8) C d_R_byteAt_72 (by decide) ?_
      refine sg_icge (pc := 74) (tgt := 114) C d_R_byteAt_74 (by decide) (by omega) (by omega) (fun h74 => absurd h74 (by omega)) (fun h74 => ?_)
      refine sg_il (pc := 77) C d_R_byteAt_77 rfl ?_
      refine sg_iln (pc := 79) C d_R_byteAt_79 rfl ?_
      refine sg_ic (pc := 80) (v := 1) C d_R_byteAt_80 (by decide) ?_
      refine sg_add (pc := 81) C d_R_byteAt_81 ?_
      refine sg_il (pc := 82) C d_R_byteAt_82 rfl ?_
      refine sm_callS (pc := 84) (As := [.int (nI (d + 1)), .int (nI r)]) C I (c_R_power l Ω (by omega) (by omega)) cw_R_140 sw_R_power rfl (by decide) ⟨by decide, by decide⟩ rfl (Nat.le_of_ble_eq_true rfl) d_R_byteAt_84 (sm_det_i ?_)
      refine sg_aln (pc := 87) C d_R_byteAt_87 rfl ?_
      refine sg_getr (pc := 88) C fw_R_61 (by omega) rfl rfl rfl d_R_byteAt_88 ?_
      refine sg_bi (pc := 91) (v := 8) C d_R_byteAt_91 (by decide) ?_
      refine sg_il (pc := 93) C d_R_byteAt_93 rfl ?_
      refine sg_mul (pc := 95) C d_R_byteAt_95 ?_
      refine sg_iln (pc := 96) C d_R_byteAt_96 rfl ?_
      refine sg_bi (pc := 97) (v := 8) C d_R_byteAt_97 (by decide) ?_
      refine sg_rem (pc := 99) C d_R_byteAt_99 (by omega) (by decide) (by decide) ?_
      refine sg_add (pc := 100) C d_R_byteAt_100 ?_
      refine sg_iald (pc := 101) (n := 64) C (by omega) rfl (by omega) (by decide) d_R_byteAt_101 ?_
      rw [eM]
      refine sm_callS (pc := 102) (As := [.int (nI (gf_pw (d + 1) r)), .int (nI (mx (rbo V (12 * d + o)) i r))]) C I (c_R_times l Ω (gf_pw_lt _ _) hml) cw_R_77 sw_R_times rfl (by decide) ⟨by decide, by decide⟩ rfl (Nat.le_of_ble_eq_true rfl) d_R_byteAt_102 (sm_det_i ?_)
      refine sg_xor (pc := 105) C d_R_byteAt_105 ?_
      refine sg_is4 (pc := 106) C d_R_byteAt_106 ?_
      refine sg_inc5 (pc := 108) (n := 1) C d_R_byteAt_108 (by decide) ?_
      refine sg_goto (pc := 111) (tgt := 70) C d_R_byteAt_111 (by decide) ?_
      exact ih (r + 1) (by omega)
  exact loop 8 0 (by omega)
