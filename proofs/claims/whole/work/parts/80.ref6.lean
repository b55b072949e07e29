/-! The reference: rebuild -/
def rRS (X : sm_X) (n m : Nat) : Nat → Nat → Nat
  | 0, q => X 712 q
  | k + 1, q => rRS X n m k q + (if rwt X n k = true ∧ 0 < X 707 k ∧ chs (rRS X n m k) (rch X n k m) q = true then (X 707 k + 29) / 30 else 0)
def rRT (X : sm_X) (n : Nat) : Nat → Nat
  | 0 => 0
  | k + 1 => rRT X n k + (if rwt X n k = true then 8 * ((X 707 k + 29) / 30) else 0)
def rRI (X : sm_X) (n m k : Nat) (Z : sm_X) : Prop :=
  (∀ a j, a ≠ 712 → a ≠ 720 → a ≠ 721 → a ≠ 713 → a ≠ 714 → a ≠ 715 → Z a j = X a j) ∧ (∀ q, q < 12 → Z 712 q = rRS X n m k q) ∧
  (∀ d o, o < 12 → d ≠ n ∨ k ≤ o ∨ rwt X n o = false → Z 713 (12 * d + o) = X 713 (12 * d + o) ∧ Z 714 (12 * d + o) = X 714 (12 * d + o) ∧ ∀ i, i < 240 → Z 715 (240 * (12 * d + o) + i) = X 715 (240 * (12 * d + o) + i)) ∧
  ∀ p, p < k → rwt X n p = true → Z 713 (12 * n + p) = X 706 p ∧ Z 714 (12 * n + p) = X 707 p ∧ (0 < X 707 p → ∀ i, i < 240 → Z 715 (240 * (12 * n + p) + i) = X 715 (240 * (12 * cN (rRS X n m p) (rch X n p m) 7 + p) + i))
theorem cQ_in {s : Nat → Nat} {p : Nat → Bool} {q : Nat} : ∀ k, cQ s p k q = true → p q = true
  | 0, h => h
  | k + 1, h => by
    have h1 : (cQ s p k q && decide (q ≠ bs s (cQ s p k) 12 - 1)) = true := h
    rw [Bool.and_eq_true] at h1
    exact cQ_in k h1.1
theorem bitp_12 {m d : Nat} (hm : m < 4096) (hd : 12 ≤ d) : bitp m d = false := by
  unfold bitp
  refine decide_eq_false (fun h => ?_)
  have h2 : m / 2 ^ d = 0 := Nat.div_eq_of_lt (Nat.lt_of_lt_of_le hm (Nat.pow_le_pow_right (by decide : 0 < 2) hd : 2 ^ 12 ≤ 2 ^ d))
  rw [h2] at h
  exact absurd h (by decide)
section
variable {X Z : sm_X} {n m k : Nat}
theorem rRI_rch (h : rRI X n m k Z) (hm : m < 4096) {o : Nat} (ho : o < 12) : rch Z n o m = rch X n o m := by
  funext d
  unfold rch
  by_cases e : d = n
  · rw [decide_eq_false (fun z => z e), Bool.false_and, Bool.false_and]
  · by_cases e2 : d < 12
    · unfold rlv rfr
      rw [h.1 711 d (by decide) (by decide) (by decide) (by decide) (by decide) (by decide), h.1 706 o (by decide) (by decide) (by decide) (by decide) (by decide) (by decide), (h.2.2.1 d o ho (Or.inl e)).1]
    · rw [bitp_12 hm (by omega), Bool.false_and, Bool.false_and]
theorem rRI_rwt (h : rRI X n m k Z) {o : Nat} (ho : o < 12) (hk : k ≤ o) : rwt Z n o = rwt X n o := by
  unfold rwt rfr
  rw [h.1 710 o (by decide) (by decide) (by decide) (by decide) (by decide) (by decide), h.1 706 o (by decide) (by decide) (by decide) (by decide) (by decide) (by decide), (h.2.2.1 n o ho (Or.inr (Or.inl hk))).1]
theorem rRS_le (hf : rwf X) : ∀ k, k ≤ 12 → ∀ q, rRS X n m k q ≤ X 712 q + 8 * k
  | 0, _, q => Nat.le_refl _
  | k + 1, hk, q => by
    have ih := rRS_le hf k (by omega) q
    have := (hf.1 k (by omega)).2.1
    show rRS X n m k q + (if rwt X n k = true ∧ 0 < X 707 k ∧ chs (rRS X n m k) (rch X n k m) q = true then (X 707 k + 29) / 30 else 0) ≤ _
    split <;> omega
theorem rRT_le (hf : rwf X) : ∀ k, k ≤ 12 → rRT X n k ≤ 64 * k
  | 0, _ => Nat.le_refl _
  | k + 1, hk => by
    have ih := rRT_le hf k (by omega)
    have := (hf.1 k (by omega)).2.1
    show rRT X n k + (if rwt X n k = true then 8 * ((X 707 k + 29) / 30) else 0) ≤ _
    split <;> omega
theorem rRI_rwf (h : rRI X n m k Z) (hf : rwf X) (hn : n < 12) (hk : k ≤ 12) (hs : ∀ q, q < 12 → X 712 q + 96 < 2 ^ 30) : rwf Z := by
  have hz : ∀ a j, a ≠ 712 → a ≠ 720 → a ≠ 721 → a ≠ 713 → a ≠ 714 → a ≠ 715 → Z a j = X a j := h.1
  refine ⟨fun p hp => ?_, fun c hc => ?_⟩
  · have g := hf.1 p hp
    have h2 := rRS_le (n := n) (m := m) hf k hk p
    have h3 := hs p hp
    rw [hz 706 p (by decide) (by decide) (by decide) (by decide) (by decide) (by decide), hz 707 p (by decide) (by decide) (by decide) (by decide) (by decide) (by decide), hz 708 p (by decide) (by decide) (by decide) (by decide) (by decide) (by decide), hz 709 p (by decide) (by decide) (by decide) (by decide) (by decide) (by decide), hz 710 p (by decide) (by decide) (by decide) (by decide) (by decide) (by decide), hz 711 p (by decide) (by decide) (by decide) (by decide) (by decide) (by decide), h.2.1 p hp]
    exact ⟨g.1, g.2.1, g.2.2.1, g.2.2.2.1, g.2.2.2.2.1, g.2.2.2.2.2.1, by omega⟩
  · have g := hf.2 c hc
    rw [hz 716 c (by decide) (by decide) (by decide) (by decide) (by decide) (by decide), hz 717 c (by decide) (by decide) (by decide) (by decide) (by decide) (by decide)]
    have ec : c = 12 * (c / 12) + c % 12 := by omega
    by_cases e : c / 12 = n ∧ c % 12 < k ∧ rwt X n (c % 12) = true
    · have g2 := h.2.2.2 (c % 12) e.2.1 e.2.2
      have g3 := hf.1 (c % 12) (by omega)
      rw [← e.1, ← ec] at g2
      rw [g2.1, g2.2.1]
      exact ⟨g3.1, g3.2.1, g.2.2⟩
    · have g2 := h.2.2.1 (c / 12) (c % 12) (by omega) (by
        by_cases e1 : c / 12 = n
        · by_cases e2 : c % 12 < k
          · exact Or.inr (Or.inr (Bool.eq_false_iff.mpr (fun z => e ⟨e1, e2, z⟩)))
          · exact Or.inr (Or.inl (by omega))
        · exact Or.inl e1)
      rw [← ec] at g2
      rw [g2.1, g2.2.1]
      exact g
theorem rRI_f (h : rRI X n m k Z) (hk : rwt X n k = false) : rRI X n m (k + 1) Z := by
  refine ⟨h.1, fun q hq => ?_, fun d o ho hd => h.2.2.1 d o ho ?_, fun p hp hw => ?_⟩
  · show _ = rRS X n m k q + (if rwt X n k = true ∧ 0 < X 707 k ∧ chs (rRS X n m k) (rch X n k m) q = true then (X 707 k + 29) / 30 else 0)
    rw [if_neg (by rw [hk]; simp)]
    exact h.2.1 q hq
  · rcases hd with hd | hd | hd
    · exact Or.inl hd
    · exact Or.inr (Or.inl (by omega))
    · exact Or.inr (Or.inr hd)
  · by_cases e : p = k
    · subst e; rw [hk] at hw; exact absurd hw (by decide)
    · exact h.2.2.2 p (by omega) hw
/-- the two writes that end an object's rebuilding -/
theorem rRI_w {Z2 : sm_X} (hk : rwt X n k = true) (h1 : ∀ a j, a ≠ 712 → a ≠ 720 → a ≠ 721 → a ≠ 713 → a ≠ 714 → a ≠ 715 → Z2 a j = X a j) (h2 : ∀ q, q < 12 → Z2 712 q = rRS X n m (k + 1) q)
    (h3 : ∀ d o, o < 12 → ¬ (d = n ∧ o = k) → Z2 713 (12 * d + o) = Z 713 (12 * d + o) ∧ Z2 714 (12 * d + o) = Z 714 (12 * d + o) ∧ ∀ i, i < 240 → Z2 715 (240 * (12 * d + o) + i) = Z 715 (240 * (12 * d + o) + i))
    (h4 : 0 < X 707 k → ∀ i, i < 240 → Z2 715 (240 * (12 * n + k) + i) = X 715 (240 * (12 * cN (rRS X n m k) (rch X n k m) 7 + k) + i)) (hk2 : k < 12)
    (h : rRI X n m k Z) : rRI X n m (k + 1) (sm_up (sm_up Z2 713 (12 * n + k) (X 706 k)) 714 (12 * n + k) (X 707 k)) := by
  refine ⟨fun a j q1 q2 q3 q4 q5 q6 => ?_, fun q hq => ?_, fun d o ho hd => ?_, fun p hp hw => ?_⟩
  · rw [sm_up_x (Or.inl q5), sm_up_x (Or.inl q4)]; exact h1 a j q1 q2 q3 q4 q5 q6
  · rw [sm_up_x (Or.inl (by decide)), sm_up_x (Or.inl (by decide))]; exact h2 q hq
  · have hne : ¬ (d = n ∧ o = k) := by
      rintro ⟨rfl, rfl⟩
      rcases hd with hd | hd | hd
      · exact hd rfl
      · omega
      · rw [hk] at hd; exact absurd hd (by decide)
    have g := h3 d o ho hne
    have g2 := h.2.2.1 d o ho (hd.imp id (fun z => z.imp (fun y => by omega) id))
    have ne : 12 * d + o ≠ 12 * n + k := by omega
    refine ⟨(sm_up_x (Or.inr ne)).trans ((sm_up_x (Or.inr ne)).trans (g.1.trans g2.1)), (sm_up_x (Or.inr ne)).trans ((sm_up_x (Or.inr ne)).trans (g.2.1.trans g2.2.1)), fun i hi => (sm_up_x (Or.inl (by decide))).trans ((sm_up_x (Or.inl (by decide))).trans ((g.2.2 i hi).trans (g2.2.2 i hi)))⟩
  · by_cases e : p = k
    · subst e
      refine ⟨(sm_up_x (Or.inl (by decide))).trans sm_up_s, sm_up_s, fun hz i hi => (sm_up_x (Or.inl (by decide))).trans ((sm_up_x (Or.inl (by decide))).trans (h4 hz i hi))⟩
    · have g := h3 n p (by omega) (fun z => e z.2)
      have g2 := h.2.2.2 p (by omega) hw
      have ne : 12 * n + p ≠ 12 * n + k := by omega
      refine ⟨(sm_up_x (Or.inr ne)).trans ((sm_up_x (Or.inr ne)).trans (g.1.trans g2.1)), (sm_up_x (Or.inr ne)).trans ((sm_up_x (Or.inr ne)).trans (g.2.1.trans g2.2.1)), fun hz i hi => (sm_up_x (Or.inl (by decide))).trans ((sm_up_x (Or.inl (by decide))).trans ((g.2.2 i hi).trans (g2.2.2 hz i hi)))⟩
theorem rRI_0 (h : rRI X n m k Z) (hk2 : k < 12) (hk : rwt X n k = true) (hz : X 707 k = 0) : rRI X n m (k + 1) (sm_up (sm_up Z 713 (12 * n + k) (X 706 k)) 714 (12 * n + k) (X 707 k)) := by
  refine rRI_w hk h.1 (fun q hq => ?_) (fun d o _ _ => ⟨rfl, rfl, fun _ _ => rfl⟩) (fun hp => absurd hp (by omega)) hk2 h
  show _ = rRS X n m k q + (if rwt X n k = true ∧ 0 < X 707 k ∧ chs (rRS X n m k) (rch X n k m) q = true then (X 707 k + 29) / 30 else 0)
  rw [if_neg (by omega)]
  exact h.2.1 q hq
theorem rRI_1 {Z2 : sm_X} (h : rRI X n m k Z) (hk2 : k < 12) (hk : rwt X n k = true) (hz : 0 < X 707 k) (h8 : 8 ≤ sm_n (rch X n k m) 12) (hB : saB Z (rch X n k m) ((X 707 k + 29) / 30) 8 Z2) {c : Nat} (hc : c = cN (rRS X n m k) (rch X n k m) 7) :
    rRI X n m (k + 1) (sm_up (sm_up (sm_uf Z2 715 (blk (240 * (12 * n + k)) (fun i => Z2 715 (240 * (12 * c + k) + i)) (Z2 715) 240)) 713 (12 * n + k) (X 706 k)) 714 (12 * n + k) (X 707 k)) := by
  have cs : ∀ i, cN (Z 712) (rch X n k m) i = cN (rRS X n m k) (rch X n k m) i := fun i => cN_congr (fun q hq => h.2.1 q hq) i
  have ok := cN_ok (s := rRS X n m k) h8 (show 7 < 8 by decide)
  have hcn : c ≠ n := by
    have h9 := cQ_in 7 ok.2.2
    rw [← hc] at h9
    unfold rch at h9
    rw [Bool.and_eq_true] at h9
    exact of_decide_eq_true h9.1
  refine rRI_w (Z := Z) hk (fun a j q1 q2 q3 q4 q5 q6 => ?_) (fun q hq => ?_) (fun d o ho hd => ⟨?_, ?_, fun i hi => ?_⟩) (fun _ i hi => ?_) hk2 h
  · rw [sm_uf_o q6, hB.1 a j q1 q2 q3]; exact h.1 a j q1 q2 q3 q4 q5 q6
  · rw [sm_uf_o (by decide), (hB.2 q hq).2.2.2, h.2.1 q hq]
    show rRS X n m k q + _ = rRS X n m k q + (if rwt X n k = true ∧ 0 < X 707 k ∧ chs (rRS X n m k) (rch X n k m) q = true then (X 707 k + 29) / 30 else 0)
    have e : sm_any (fun i => decide (cN (Z 712) (rch X n k m) i = q)) 8 = chs (rRS X n m k) (rch X n k m) q := by
      unfold chs
      congr 1
      funext i
      rw [cs i]
    rw [e]
    by_cases e2 : chs (rRS X n m k) (rch X n k m) q = true
    · rw [if_pos e2, if_pos ⟨hk, hz, e2⟩]
    · rw [if_neg e2, if_neg (fun z => e2 z.2.2)]
  · rw [sm_uf_o (by decide)]; exact hB.1 _ _ (by decide) (by decide) (by decide)
  · rw [sm_uf_o (by decide)]; exact hB.1 _ _ (by decide) (by decide) (by decide)
  · rw [sm_uf_s, blk_out (by omega)]; exact hB.1 _ _ (by decide) (by decide) (by decide)
  · rw [sm_uf_s, blk_in hi, hB.1 _ _ (by decide) (by decide) (by decide), (h.2.2.1 c k hk2 (Or.inl hcn)).2.2 i hi, hc]
end

set_option maxHeartbeats 4000000 in
set_option maxRecDepth 100000 in
theorem c_R_rebuildX1 (l : Launch) (Ω : sm_Ω) {X V : sm_X} {w : Nat → Nat → Nat} (hV : V = sm_up X 703 0 0) {x z : Int32} (hx : x < 0 ∨ nI 12 ≤ x) : sm_met l Ω y_R_rebuild b_R_rebuild 8 (some .int) 5 723 [.ref (Ω.2.1 + 703), .int x, .int z] X (sm_rf w) (sm_det (some (.int (nI 0))) (sm_up X 703 0 1) (sm_rf w)) := by
  refine sm_intro (own := RX7) (L := [some (.ref (Ω.2.1 + 703)), some (.int x), some (.int z), none, none, none, none, none]) (by decide) rfl (by simp [Value.category]) (Nat.le_of_ble_eq_true rfl) rfl ?_
  intro Γ C I
  refine sg_aln (pc := 0) C d_R_rebuild_0 rfl ?_
  refine sg_ic (pc := 1) (v := 0) C d_R_rebuild_1 (by decide) ?_
  refine sg_puti (pc := 2) C pw_R_70 (by omega) rfl rfl rfl rfl d_R_rebuild_2 ?_
  rw [← hV]
  refine sg_iln (pc := 5) C d_R_rebuild_5 rfl ?_
  refine sm_callS (pc := 6) (As := [.int x]) C I (c_R_isNode0 l Ω hx) cw_R_114 sw_R_isNode rfl (by decide) ⟨by decide, by decide⟩ rfl (Nat.le_of_ble_eq_true rfl) d_R_rebuild_6 (sm_det_i ?_)
  refine sg_ifne (pc := 9) (tgt := 18) C d_R_rebuild_9 (by decide) (by omega) (fun h9 => absurd rfl h9) (fun h9 => ?_)
  refine sg_aln (pc := 12) C d_R_rebuild_12 rfl ?_
  refine sg_ic (pc := 13) (v := 1) C d_R_rebuild_13 (by decide) ?_
  refine sm_callV (pc := 14) (As := [.int (nI 1)]) C I (c_R_fails l Ω) cw_R_81 iw_R_fails (C.1.2.2.2.2 _ (List.mem_cons_of_mem _ se_R_fails)) (by omega) rfl rfl rfl rfl (by decide) ⟨by decide, by decide⟩ rfl (Nat.le_of_ble_eq_true rfl) d_R_rebuild_14 (sm_det_i ?_)
  exact sg_iret (pc := 17) C I rfl rfl d_R_rebuild_17 ⟨rfl, by rw [hV]; exact sm_up_up, rfl⟩

set_option maxHeartbeats 4000000 in
set_option maxRecDepth 100000 in
theorem c_R_rebuildX2 (l : Launch) (Ω : sm_Ω) {X V : sm_X} {w : Nat → Nat → Nat} (hV : V = sm_up X 703 0 0) {n : Nat} {x : Int32} (hn : n < 12) (hx : ¬ x &&& (-4096) = 0) : sm_met l Ω y_R_rebuild b_R_rebuild 8 (some .int) 5 723 [.ref (Ω.2.1 + 703), .int (nI n), .int x] X (sm_rf w) (sm_det (some (.int (nI 0))) (sm_up X 703 0 2) (sm_rf w)) := by
  refine sm_intro (own := RX7) (L := [some (.ref (Ω.2.1 + 703)), some (.int (nI n)), some (.int x), none, none, none, none, none]) (by decide) rfl (by simp [Value.category]) (Nat.le_of_ble_eq_true rfl) rfl ?_
  intro Γ C I
  refine sg_aln (pc := 0) C d_R_rebuild_0 rfl ?_
  refine sg_ic (pc := 1) (v := 0) C d_R_rebuild_1 (by decide) ?_
  refine sg_puti (pc := 2) C pw_R_70 (by omega) rfl rfl rfl rfl d_R_rebuild_2 ?_
  rw [← hV]
  refine sg_iln (pc := 5) C d_R_rebuild_5 rfl ?_
  refine sm_callS (pc := 6) (As := [.int (nI n)]) C I (c_R_isNode1 l Ω (by omega)) cw_R_114 sw_R_isNode rfl (by decide) ⟨by decide, by decide⟩ rfl (Nat.le_of_ble_eq_true rfl) d_R_rebuild_6 (sm_det_i ?_)
  refine sg_ifne (pc := 9) (tgt := 18) C d_R_rebuild_9 (by decide) (by omega) (fun h9 => ?_) (fun h9 => absurd h9 (by decide))
  refine sg_iln (pc := 18) C d_R_rebuild_18 rfl ?_
  refine sg_sim (pc := 19) (v := -4096) C d_R_rebuild_19 (by decide) ?_
  refine sr_iand (pc := 22) C d_R_rebuild_22 rfl ?_
  refine sr_ifeq (pc := 23) (tgt := 32) C d_R_rebuild_23 (by decide) (fun h23 => absurd h23 hx) (fun h23 => ?_)
  refine sg_aln (pc := 26) C d_R_rebuild_26 rfl ?_
  refine sg_ic (pc := 27) (v := 2) C d_R_rebuild_27 (by decide) ?_
  refine sm_callV (pc := 28) (As := [.int (nI 2)]) C I (c_R_fails l Ω) cw_R_81 iw_R_fails (C.1.2.2.2.2 _ (List.mem_cons_of_mem _ se_R_fails)) (by omega) rfl rfl rfl rfl (by decide) ⟨by decide, by decide⟩ rfl (Nat.le_of_ble_eq_true rfl) d_R_rebuild_28 (sm_det_i ?_)
  exact sg_iret (pc := 31) C I rfl rfl d_R_rebuild_31 ⟨rfl, by rw [hV]; exact sm_up_up, rfl⟩

set_option maxHeartbeats 4000000 in
set_option maxRecDepth 100000 in
theorem c_R_rebuildX3 (l : Launch) (Ω : sm_Ω) {X V : sm_X} {w : Nat → Nat → Nat} (hV : V = sm_up X 703 0 0) (hf : rwf V) {n m : Nat} (hn : n < 12) (hm : m < 4096) (hlv : V 711 n ≠ 0) : sm_met l Ω y_R_rebuild b_R_rebuild 8 (some .int) 5 723 [.ref (Ω.2.1 + 703), .int (nI n), .int (nI m)] X (sm_rf w) (sm_det (some (.int (nI 0))) (sm_up X 703 0 3) (sm_rf w)) := by
  refine sm_intro (own := RX7) (L := [some (.ref (Ω.2.1 + 703)), some (.int (nI n)), some (.int (nI m)), none, none, none, none, none]) (by decide) rfl (by simp [Value.category]) (Nat.le_of_ble_eq_true rfl) rfl ?_
  intro Γ C I
  have gi := hf.1 n hn
  refine sg_aln (pc := 0) C d_R_rebuild_0 rfl ?_
  refine sg_ic (pc := 1) (v := 0) C d_R_rebuild_1 (by decide) ?_
  refine sg_puti (pc := 2) C pw_R_70 (by omega) rfl rfl rfl rfl d_R_rebuild_2 ?_
  rw [← hV]
  refine sg_iln (pc := 5) C d_R_rebuild_5 rfl ?_
  refine sm_callS (pc := 6) (As := [.int (nI n)]) C I (c_R_isNode1 l Ω (by omega)) cw_R_114 sw_R_isNode rfl (by decide) ⟨by decide, by decide⟩ rfl (Nat.le_of_ble_eq_true rfl) d_R_rebuild_6 (sm_det_i ?_)
  refine sg_ifne (pc := 9) (tgt := 18) C d_R_rebuild_9 (by decide) (by omega) (fun h9 => ?_) (fun h9 => absurd h9 (by decide))
  refine sg_iln (pc := 18) C d_R_rebuild_18 rfl ?_
  refine sg_sim (pc := 19) (v := -4096) C d_R_rebuild_19 (by decide) ?_
  refine sr_iand (pc := 22) C d_R_rebuild_22 rfl ?_
  refine sr_ifeq (pc := 23) (tgt := 32) C d_R_rebuild_23 (by decide) (fun h23 => ?_) (fun h23 => absurd (sn_mask0 hm) h23)
  refine sg_aln (pc := 32) C d_R_rebuild_32 rfl ?_
  refine sg_getr (pc := 33) C fw_R_36 (by omega) rfl rfl rfl d_R_rebuild_33 ?_
  refine sg_iln (pc := 36) C d_R_rebuild_36 rfl ?_
  refine sg_bald (pc := 37) (n := 12) C (by omega) rfl (by omega) (by decide) d_R_rebuild_37 ?_
  refine sg_ifeq (pc := 38) (tgt := 47) C d_R_rebuild_38 (by decide) (by omega) (fun h38 => absurd h38 hlv) (fun h38 => ?_)
  refine sg_aln (pc := 41) C d_R_rebuild_41 rfl ?_
  refine sg_ic (pc := 42) (v := 3) C d_R_rebuild_42 (by decide) ?_
  refine sm_callV (pc := 43) (As := [.int (nI 3)]) C I (c_R_fails l Ω) cw_R_81 iw_R_fails (C.1.2.2.2.2 _ (List.mem_cons_of_mem _ se_R_fails)) (by omega) rfl rfl rfl rfl (by decide) ⟨by decide, by decide⟩ rfl (Nat.le_of_ble_eq_true rfl) d_R_rebuild_43 (sm_det_i ?_)
  exact sg_iret (pc := 46) C I rfl rfl d_R_rebuild_46 ⟨rfl, by rw [hV]; exact sm_up_up, rfl⟩

set_option maxHeartbeats 4000000 in
set_option maxRecDepth 100000 in
theorem c_R_rebuildX4 (l : Launch) (Ω : sm_Ω) {X V : sm_X} {w : Nat → Nat → Nat} (hV : V = sm_up X 703 0 0) (hf : rwf V) {n m : Nat} (hn : n < 12) (hm : m < 4096) (hlv : V 711 n = 0) (hbad : ∃ k, k < 12 ∧ rwt V n k = true ∧ 0 < V 707 k ∧ sm_n (rch V n k m) 12 < 8) : sm_met l Ω y_R_rebuild b_R_rebuild 8 (some .int) 5 723 [.ref (Ω.2.1 + 703), .int (nI n), .int (nI m)] X (sm_rf w) (sm_det (some (.int (nI 0))) (sm_up X 703 0 4) (sm_rf w)) := by
  refine sm_intro (own := RX7) (L := [some (.ref (Ω.2.1 + 703)), some (.int (nI n)), some (.int (nI m)), none, none, none, none, none]) (by decide) rfl (by simp [Value.category]) (Nat.le_of_ble_eq_true rfl) rfl ?_
  intro Γ C I
  have gi := hf.1 n hn
  refine sg_aln (pc := 0) C d_R_rebuild_0 rfl ?_
  refine sg_ic (pc := 1) (v := 0) C d_R_rebuild_1 (by decide) ?_
  refine sg_puti (pc := 2) C pw_R_70 (by omega) rfl rfl rfl rfl d_R_rebuild_2 ?_
  rw [← hV]
  refine sg_iln (pc := 5) C d_R_rebuild_5 rfl ?_
  refine sm_callS (pc := 6) (As := [.int (nI n)]) C I (c_R_isNode1 l Ω (by omega)) cw_R_114 sw_R_isNode rfl (by decide) ⟨by decide, by decide⟩ rfl (Nat.le_of_ble_eq_true rfl) d_R_rebuild_6 (sm_det_i ?_)
  refine sg_ifne (pc := 9) (tgt := 18) C d_R_rebuild_9 (by decide) (by omega) (fun h9 => ?_) (fun h9 => absurd h9 (by decide))
  refine sg_iln (pc := 18) C d_R_rebuild_18 rfl ?_
  refine sg_sim (pc := 19) (v := -4096) C d_R_rebuild_19 (by decide) ?_
  refine sr_iand (pc := 22) C d_R_rebuild_22 rfl ?_
  refine sr_ifeq (pc := 23) (tgt := 32) C d_R_rebuild_23 (by decide) (fun h23 => ?_) (fun h23 => absurd (sn_mask0 hm) h23)
  refine sg_aln (pc := 32) C d_R_rebuild_32 rfl ?_
  refine sg_getr (pc := 33) C fw_R_36 (by omega) rfl rfl rfl d_R_rebuild_33 ?_
  refine sg_iln (pc := 36) C d_R_rebuild_36 rfl ?_
  refine sg_bald (pc := 37) (n := 12) C (by omega) rfl (by omega) (by decide) d_R_rebuild_37 ?_
  refine sg_ifeq (pc := 38) (tgt := 47) C d_R_rebuild_38 (by decide) (by omega) (fun h38 => ?_) (fun h38 => absurd hlv h38)
  refine sg_ic (pc := 47) (v := 0) C d_R_rebuild_47 (by decide) ?_
  refine sg_is3 (pc := 48) C d_R_rebuild_48 ?_
  have loop1 : ∀ t k, k + t = 12 → (∀ j, j < k → ¬ (rwt V n j = true ∧ 0 < V 707 j ∧ sm_n (rch V n j m) 12 < 8)) → sm_G Γ Ω 723 0 0 49 [some (.ref (Ω.2.1 + 703)), some (.int (nI n)), some (.int (nI m)), some (.int (nI k)), none, none, none, none] [] V (sm_rf w) := by
    intro t
    induction t with
    | zero =>
      intro k hk hall
      exact (hbad.elim (fun j hj => absurd hj.2 (hall j (by omega))))
    | succ t ih1 =>
      intro k hk hall
      have g1 := hf.1 k (by omega)
      have b1 := b2_lt (rwt V n k)
      have b2' := b2_lt (decide (8 ≤ sm_n (rch V n k m) 12))
      refine sg_iln (pc := 49) C d_R_rebuild_49 rfl ?_
      refine sg_bi (pc := 50) (v := 12) C d_R_rebuild_50 (by decide) ?_
      refine sg_icge (pc := 52) (tgt := 95) C d_R_rebuild_52 (by decide) (by omega) (by omega) (fun h52 => absurd h52 (by omega)) (fun h52 => ?_)
      refine sg_aln (pc := 55) C d_R_rebuild_55 rfl ?_
      refine sg_iln (pc := 56) C d_R_rebuild_56 rfl ?_
      refine sg_iln (pc := 57) C d_R_rebuild_57 rfl ?_
      refine sm_callV (pc := 58) (As := [.int (nI n), .int (nI k)]) C I (c_R_isWanted l Ω hf hn (by omega)) cw_R_121 iw_R_isWanted (C.1.2.2.2.2 _ (List.mem_cons_of_mem _ se_R_isWanted)) (by omega) rfl rfl rfl rfl (by decide) ⟨by decide, by decide⟩ rfl (Nat.le_of_ble_eq_true rfl) d_R_rebuild_58 (sm_det_i ?_)
      refine sg_ifeq (pc := 61) (tgt := 89) C d_R_rebuild_61 (by decide) (by omega) (fun h61 => ?_) (fun h61 => ?_)
      · refine sg_inc3 (pc := 89) (n := 1) C d_R_rebuild_89 (by decide) ?_
        refine sg_goto (pc := 92) (tgt := 49) C d_R_rebuild_92 (by decide) ?_
        exact ih1 (k + 1) (by omega) (fun j hj => (by omega : j < k ∨ j = k).elim (hall j) (fun e => by subst e; exact fun q => absurd q.1 (by rw [b2_0 h61]; decide)))
      · refine sg_aln (pc := 64) C d_R_rebuild_64 rfl ?_
        refine sg_getr (pc := 65) C fw_R_23 (by omega) rfl rfl rfl d_R_rebuild_65 ?_
        refine sg_iln (pc := 68) C d_R_rebuild_68 rfl ?_
        refine sg_iald (pc := 69) (n := 12) C (by omega) rfl (by omega) (by decide) d_R_rebuild_69 ?_
        refine sg_ifle (pc := 70) (tgt := 89) C d_R_rebuild_70 (by decide) (by omega) (fun h70 => ?_) (fun h70 => ?_)
        · refine sg_inc3 (pc := 89) (n := 1) C d_R_rebuild_89 (by decide) ?_
          refine sg_goto (pc := 92) (tgt := 49) C d_R_rebuild_92 (by decide) ?_
          exact ih1 (k + 1) (by omega) (fun j hj => (by omega : j < k ∨ j = k).elim (hall j) (fun e => by subst e; exact fun q => absurd q.2.1 (by omega)))
        · refine sg_aln (pc := 73) C d_R_rebuild_73 rfl ?_
          refine sg_iln (pc := 74) C d_R_rebuild_74 rfl ?_
          refine sg_iln (pc := 75) C d_R_rebuild_75 rfl ?_
          refine sg_iln (pc := 76) C d_R_rebuild_76 rfl ?_
          refine sm_callV (pc := 77) (As := [.int (nI n), .int (nI k), .int (nI m)]) C I (c_R_hasHelpers l Ω hf hn (by omega) hm) cw_R_124 iw_R_hasHelpers (C.1.2.2.2.2 _ (List.mem_cons_of_mem _ se_R_hasHelpers)) (by omega) rfl rfl rfl rfl (by decide) ⟨by decide, by decide⟩ rfl (Nat.le_of_ble_eq_true rfl) d_R_rebuild_77 (sm_det_i ?_)
          refine sg_ifne (pc := 80) (tgt := 89) C d_R_rebuild_80 (by decide) (by omega) (fun h80 => ?_) (fun h80 => ?_)
          · refine sg_inc3 (pc := 89) (n := 1) C d_R_rebuild_89 (by decide) ?_
            refine sg_goto (pc := 92) (tgt := 49) C d_R_rebuild_92 (by decide) ?_
            exact ih1 (k + 1) (by omega) (fun j hj => (by omega : j < k ∨ j = k).elim (hall j) (fun e => by subst e; exact fun q => absurd q.2.2 (by have := of_decide_eq_true (b2_1 h80); omega)))
          · refine sg_aln (pc := 83) C d_R_rebuild_83 rfl ?_
            refine sg_ic (pc := 84) (v := 4) C d_R_rebuild_84 (by decide) ?_
            refine sm_callV (pc := 85) (As := [.int (nI 4)]) C I (c_R_fails l Ω) cw_R_81 iw_R_fails (C.1.2.2.2.2 _ (List.mem_cons_of_mem _ se_R_fails)) (by omega) rfl rfl rfl rfl (by decide) ⟨by decide, by decide⟩ rfl (Nat.le_of_ble_eq_true rfl) d_R_rebuild_85 (sm_det_i ?_)
            exact sg_iret (pc := 88) C I rfl rfl d_R_rebuild_88 ⟨rfl, by rw [hV]; exact sm_up_up, rfl⟩
  exact loop1 12 0 (by omega) (fun j hj => absurd hj (Nat.not_lt_zero j))

set_option maxHeartbeats 4000000 in
set_option maxRecDepth 100000 in
theorem c_R_rebuild (l : Launch) (Ω : sm_Ω) {X V : sm_X} {w : Nat → Nat → Nat} (hV : V = sm_up X 703 0 0) (hf : rwf V) {n m : Nat} (hn : n < 12) (hm : m < 4096) (hlv : V 711 n = 0) (hs : ∀ q, q < 12 → V 712 q + 96 < 2 ^ 30) (hchk : ∀ k, k < 12 → rwt V n k = true → 0 < V 707 k → 8 ≤ sm_n (rch V n k m) 12) : sm_met l Ω y_R_rebuild b_R_rebuild 8 (some .int) 5 723 [.ref (Ω.2.1 + 703), .int (nI n), .int (nI m)] X (sm_rf w) (fun r Z Y2 => r = some (.int (nI (rRT V n 12))) ∧ rRI V n m 12 Z ∧ Y2 = sm_rf w) := by
  refine sm_intro (own := RX7) (L := [some (.ref (Ω.2.1 + 703)), some (.int (nI n)), some (.int (nI m)), none, none, none, none, none]) (by decide) rfl (by simp [Value.category]) (Nat.le_of_ble_eq_true rfl) rfl ?_
  intro Γ C I
  have gi := hf.1 n hn
  refine sg_aln (pc := 0) C d_R_rebuild_0 rfl ?_
  refine sg_ic (pc := 1) (v := 0) C d_R_rebuild_1 (by decide) ?_
  refine sg_puti (pc := 2) C pw_R_70 (by omega) rfl rfl rfl rfl d_R_rebuild_2 ?_
  rw [← hV]
  refine sg_iln (pc := 5) C d_R_rebuild_5 rfl ?_
  refine sm_callS (pc := 6) (As := [.int (nI n)]) C I (c_R_isNode1 l Ω (by omega)) cw_R_114 sw_R_isNode rfl (by decide) ⟨by decide, by decide⟩ rfl (Nat.le_of_ble_eq_true rfl) d_R_rebuild_6 (sm_det_i ?_)
  refine sg_ifne (pc := 9) (tgt := 18) C d_R_rebuild_9 (by decide) (by omega) (fun h9 => ?_) (fun h9 => absurd h9 (by decide))
  refine sg_iln (pc := 18) C d_R_rebuild_18 rfl ?_
  refine sg_sim (pc := 19) (v := -4096) C d_R_rebuild_19 (by decide) ?_
  refine sr_iand (pc := 22) C d_R_rebuild_22 rfl ?_
  refine sr_ifeq (pc := 23) (tgt := 32) C d_R_rebuild_23 (by decide) (fun h23 => ?_) (fun h23 => absurd (sn_mask0 hm) h23)
  refine sg_aln (pc := 32) C d_R_rebuild_32 rfl ?_
  refine sg_getr (pc := 33) C fw_R_36 (by omega) rfl rfl rfl d_R_rebuild_33 ?_
  refine sg_iln (pc := 36) C d_R_rebuild_36 rfl ?_
  refine sg_bald (pc := 37) (n := 12) C (by omega) rfl (by omega) (by decide) d_R_rebuild_37 ?_
  refine sg_ifeq (pc := 38) (tgt := 47) C d_R_rebuild_38 (by decide) (by omega) (fun h38 => ?_) (fun h38 => absurd hlv h38)
  refine sg_ic (pc := 47) (v := 0) C d_R_rebuild_47 (by decide) ?_
  refine sg_is3 (pc := 48) C d_R_rebuild_48 ?_
  have loop1 : ∀ t k, k + t = 12 → sm_G Γ Ω 723 0 0 49 [some (.ref (Ω.2.1 + 703)), some (.int (nI n)), some (.int (nI m)), some (.int (nI k)), none, none, none, none] [] V (sm_rf w) := by
    intro t
    induction t with
    | zero =>
      intro k hk
      refine sg_iln (pc := 49) C d_R_rebuild_49 rfl ?_
      refine sg_bi (pc := 50) (v := 12) C d_R_rebuild_50 (by decide) ?_
      refine sg_icge (pc := 52) (tgt := 95) C d_R_rebuild_52 (by decide) (by omega) (by omega) (fun h52 => ?_) (fun h52 => absurd h52 (by omega))
      refine sg_ic (pc := 95) (v := 0) C d_R_rebuild_95 (by decide) ?_
      refine sg_is3 (pc := 96) C d_R_rebuild_96 ?_
      refine sg_ic (pc := 97) (v := 0) C d_R_rebuild_97 (by decide) ?_
      refine sg_is4 (pc := 98) C d_R_rebuild_98 ?_
      have loop2 : ∀ t k (Z : sm_X) y5 y6 y7, k + t = 12 → rRI V n m k Z → sm_G Γ Ω 723 0 0 100 [some (.ref (Ω.2.1 + 703)), some (.int (nI n)), some (.int (nI m)), some (.int (nI (rRT V n k))), some (.int (nI k)), y5, y6, y7] [] Z (sm_rf w) := by
        intro t
        induction t with
        | zero =>
          intro k Z y5 y6 y7 hk hI
          refine sg_il (pc := 100) C d_R_rebuild_100 rfl ?_
          refine sg_bi (pc := 102) (v := 12) C d_R_rebuild_102 (by decide) ?_
          refine sg_icge (pc := 104) (tgt := 250) C d_R_rebuild_104 (by decide) (by omega) (by omega) (fun h104 => ?_) (fun h104 => absurd h104 (by omega))
          refine sg_iln (pc := 250) C d_R_rebuild_250 rfl ?_
          exact sg_iret (pc := 251) C I rfl rfl d_R_rebuild_251 ⟨by rw [show k = 12 by omega], by rw [show k = 12 by omega] at hI; exact hI, rfl⟩
        | succ t ih2 =>
          intro k Z y5 y6 y7 hk hI
          have b1 := b2_lt (rwt V n k)
          have g1 := hf.1 k (by omega)
          have hfz := rRI_rwf hI hf hn (by omega) hs
          have htl := rRT_le (n := n) hf k (by omega)
          have hrc := rRI_rch hI hm (show k < 12 by omega)
          have eT : rRT V n (k + 1) = rRT V n k + (if rwt V n k = true then 8 * ((V 707 k + 29) / 30) else 0) := rfl
          refine sg_il (pc := 100) C d_R_rebuild_100 rfl ?_
          refine sg_bi (pc := 102) (v := 12) C d_R_rebuild_102 (by decide) ?_
          refine sg_icge (pc := 104) (tgt := 250) C d_R_rebuild_104 (by decide) (by omega) (by omega) (fun h104 => absurd h104 (by omega)) (fun h104 => ?_)
          refine sg_aln (pc := 107) C d_R_rebuild_107 rfl ?_
          refine sg_iln (pc := 108) C d_R_rebuild_108 rfl ?_
          refine sg_il (pc := 109) C d_R_rebuild_109 rfl ?_
          refine sm_callV (pc := 111) (As := [.int (nI n), .int (nI k)]) C I (c_R_isWanted l Ω hfz hn (by omega)) cw_R_121 iw_R_isWanted (C.1.2.2.2.2 _ (List.mem_cons_of_mem _ se_R_isWanted)) (by omega) rfl rfl rfl rfl (by decide) ⟨by decide, by decide⟩ rfl (Nat.le_of_ble_eq_true rfl) d_R_rebuild_111 (sm_det_i ?_)
          rw [rRI_rwt hI (by omega) (Nat.le_refl k)]
          refine sg_ifeq (pc := 114) (tgt := 244) C d_R_rebuild_114 (by decide) (by omega) (fun h114 => ?_) (fun h114 => ?_)
          · refine sg_inc4 (pc := 244) (n := 1) C d_R_rebuild_244 (by decide) ?_
            refine sg_goto (pc := 247) (tgt := 100) C d_R_rebuild_247 (by decide) ?_
            have h := ih2 (k + 1) Z y5 y6 y7 (by omega) (rRI_f hI (b2_0 h114))
            rw [eT, if_neg (by rw [b2_0 h114]; decide), Nat.add_zero] at h
            exact h
          · refine sg_aln (pc := 117) C d_R_rebuild_117 rfl ?_
            refine sg_getr (pc := 118) C fw_R_23 (by omega) rfl rfl rfl d_R_rebuild_118 ?_
            refine sg_il (pc := 121) C d_R_rebuild_121 rfl ?_
            refine sg_iald (pc := 123) (n := 12) C (by omega) rfl (by omega) (by decide) d_R_rebuild_123 ?_
            rw [hI.1 707 k (by decide) (by decide) (by decide) (by decide) (by decide) (by decide)]
            refine sm_callS (pc := 124) (As := [.int (nI (V 707 k))]) C I (c_R_stripes l Ω (by omega)) cw_R_127 sw_R_stripes rfl (by decide) ⟨by decide, by decide⟩ rfl (Nat.le_of_ble_eq_true rfl) d_R_rebuild_124 (sm_det_i ?_)
            refine sg_is5 (pc := 127) C d_R_rebuild_127 ?_
            refine sg_il (pc := 129) C d_R_rebuild_129 rfl ?_
            refine sg_ifle (pc := 131) (tgt := 208) C d_R_rebuild_131 (by decide) (by omega) (fun h131 => ?_) (fun h131 => ?_)
            · refine sg_aln (pc := 208) C d_R_rebuild_208 rfl ?_
              refine sg_getr (pc := 209) C fw_R_42 (by omega) rfl rfl rfl d_R_rebuild_209 ?_
              refine sg_iln (pc := 212) C d_R_rebuild_212 rfl ?_
              refine sg_il (pc := 213) C d_R_rebuild_213 rfl ?_
              refine sm_callS (pc := 215) (As := [.int (nI n), .int (nI k)]) C I (c_R_at l Ω) cw_R_85 sw_R_at rfl (by decide) ⟨by decide, by decide⟩ rfl (Nat.le_of_ble_eq_true rfl) d_R_rebuild_215 (sm_det_i ?_)
              refine sg_aln (pc := 218) C d_R_rebuild_218 rfl ?_
              refine sg_getr (pc := 219) C fw_R_20 (by omega) rfl rfl rfl d_R_rebuild_219 ?_
              refine sg_il (pc := 222) C d_R_rebuild_222 rfl ?_
              refine sg_iald (pc := 224) (n := 12) C (by omega) rfl (by omega) (by decide) d_R_rebuild_224 ?_
              first
                | rw [sm_uf_o (by decide), hB.1 706 k (by decide) (by decide) (by decide), hI.1 706 k (by decide) (by decide) (by decide) (by decide) (by decide) (by decide)]
                | rw [hI.1 706 k (by decide) (by decide) (by decide) (by decide) (by decide) (by decide)]
              refine sg_iast (pc := 225) (n := 144) C (by omega) rfl (by omega) (by decide) d_R_rebuild_225 ?_
              refine sg_aln (pc := 226) C d_R_rebuild_226 rfl ?_
              refine sg_getr (pc := 227) C fw_R_45 (by omega) rfl rfl rfl d_R_rebuild_227 ?_
              refine sg_iln (pc := 230) C d_R_rebuild_230 rfl ?_
              refine sg_il (pc := 231) C d_R_rebuild_231 rfl ?_
              refine sm_callS (pc := 233) (As := [.int (nI n), .int (nI k)]) C I (c_R_at l Ω) cw_R_85 sw_R_at rfl (by decide) ⟨by decide, by decide⟩ rfl (Nat.le_of_ble_eq_true rfl) d_R_rebuild_233 (sm_det_i ?_)
              refine sg_aln (pc := 236) C d_R_rebuild_236 rfl ?_
              refine sg_getr (pc := 237) C fw_R_23 (by omega) rfl rfl rfl d_R_rebuild_237 ?_
              refine sg_il (pc := 240) C d_R_rebuild_240 rfl ?_
              refine sg_iald (pc := 242) (n := 12) C (by omega) rfl (by omega) (by decide) d_R_rebuild_242 ?_
              first
                | rw [sm_up_x (Or.inl (by decide)), sm_uf_o (by decide), hB.1 707 k (by decide) (by decide) (by decide), hI.1 707 k (by decide) (by decide) (by decide) (by decide) (by decide) (by decide)]
                | rw [sm_up_x (Or.inl (by decide)), hI.1 707 k (by decide) (by decide) (by decide) (by decide) (by decide) (by decide)]
              refine sg_iast (pc := 243) (n := 144) C (by omega) rfl (by omega) (by decide) d_R_rebuild_243 ?_
              refine sg_inc4 (pc := 244) (n := 1) C d_R_rebuild_244 (by decide) ?_
              refine sg_goto (pc := 247) (tgt := 100) C d_R_rebuild_247 (by decide) ?_
              have h := ih2 (k + 1) _ (some (.int (nI ((V 707 k + 29) / 30)))) y6 y7 (by omega) (rRI_0 hI (by omega) (b2_1 h114) (by omega))
              rw [eT, if_pos (b2_1 h114), show 8 * ((V 707 k + 29) / 30) = 0 by omega] at h
              exact h
            · have h8 := hchk k (by omega) (b2_1 h114)
              refine sg_aln (pc := 134) C d_R_rebuild_134 rfl ?_
              refine sg_iln (pc := 135) C d_R_rebuild_135 rfl ?_
              refine sg_il (pc := 136) C d_R_rebuild_136 rfl ?_
              refine sg_iln (pc := 138) C d_R_rebuild_138 rfl ?_
              refine sg_il (pc := 139) C d_R_rebuild_139 rfl ?_
              refine sm_callV (pc := 141) (As := [.int (nI n), .int (nI k), .int (nI m), .int (nI ((V 707 k + 29) / 30))]) C I (c_R_sendAll l Ω (X := Z) hfz hn (by omega) hm (by omega) (fun q hq => by have := hs q hq; have := rRS_le (n := n) (m := m) hf k (by omega) q; rw [hI.2.1 q hq]; omega) (by rw [hrc]; exact h8 (by omega))) cw_R_130 iw_R_sendAll (C.1.2.2.2.2 _ (List.mem_cons_of_mem _ se_R_sendAll)) (by omega) rfl rfl rfl rfl (by decide) ⟨by decide, by decide⟩ rfl (Nat.le_of_ble_eq_true rfl) d_R_rebuild_141 (fun v1 Z2 Y2 hp1 => ?_)
              obtain ⟨rfl, hB, rfl⟩ := hp1
              rw [hrc] at hB
              obtain ⟨c, hc0⟩ : ∃ c, c = cN (Z 712) (rch Z n k m) 7 := ⟨_, rfl⟩
              have hc : c = cN (rRS V n m k) (rch V n k m) 7 := by
                rw [hc0, hrc]
                exact cN_congr (fun q hq => hI.2.1 q hq) 7
              have ok := cN_ok (s := rRS V n m k) (h8 (by omega)) (show 7 < 8 by decide)
              have hcn : c ≠ n := by
                have h9 := cQ_in 7 ok.2.2
                rw [← hc] at h9
                unfold rch at h9
                rw [Bool.and_eq_true] at h9
                exact of_decide_eq_true h9.1
              rw [← hc] at ok
              rw [← hc0]
              change sm_G Γ Ω 723 0 0 (141 + 3) _ (.int (nI c) :: []) Z2 (sm_rf w)
              refine sg_is6 (pc := 144) C d_R_rebuild_144 ?_
              refine sg_ic (pc := 146) (v := 0) C d_R_rebuild_146 (by decide) ?_
              refine sg_is7 (pc := 147) C d_R_rebuild_147 ?_
              have loop3 : ∀ t i, i + t = 240 → sm_G Γ Ω 723 0 0 149 [some (.ref (Ω.2.1 + 703)), some (.int (nI n)), some (.int (nI m)), some (.int (nI (rRT V n k))), some (.int (nI k)), some (.int (nI ((V 707 k + 29) / 30))), some (.int (nI c)), some (.int (nI i))] [] (sm_uf Z2 715 (blk (240 * (12 * n + k)) (fun i => Z2 715 (240 * (12 * c + k) + i)) (Z2 715) i)) (sm_rf w) := by
                intro t
                induction t with
                | zero =>
                  intro i hi
                  refine sg_il (pc := 149) C d_R_rebuild_149 rfl ?_
                  refine sg_si (pc := 151) (v := 240) C d_R_rebuild_151 (by decide) ?_
                  refine sg_icge (pc := 154) (tgt := 200) C d_R_rebuild_154 (by decide) (by omega) (by omega) (fun h154 => ?_) (fun h154 => absurd h154 (by omega))
                  rw [show i = 240 by omega]
                  refine sg_iln (pc := 200) C d_R_rebuild_200 rfl ?_
                  refine sg_bi (pc := 201) (v := 8) C d_R_rebuild_201 (by decide) ?_
                  refine sg_il (pc := 203) C d_R_rebuild_203 rfl ?_
                  refine sg_mul (pc := 205) C d_R_rebuild_205 ?_
                  refine sg_add (pc := 206) C d_R_rebuild_206 ?_
                  refine sg_is3 (pc := 207) C d_R_rebuild_207 ?_
                  refine sg_aln (pc := 208) C d_R_rebuild_208 rfl ?_
                  refine sg_getr (pc := 209) C fw_R_42 (by omega) rfl rfl rfl d_R_rebuild_209 ?_
                  refine sg_iln (pc := 212) C d_R_rebuild_212 rfl ?_
                  refine sg_il (pc := 213) C d_R_rebuild_213 rfl ?_
                  refine sm_callS (pc := 215) (As := [.int (nI n), .int (nI k)]) C I (c_R_at l Ω) cw_R_85 sw_R_at rfl (by decide) ⟨by decide, by decide⟩ rfl (Nat.le_of_ble_eq_true rfl) d_R_rebuild_215 (sm_det_i ?_)
                  refine sg_aln (pc := 218) C d_R_rebuild_218 rfl ?_
                  refine sg_getr (pc := 219) C fw_R_20 (by omega) rfl rfl rfl d_R_rebuild_219 ?_
                  refine sg_il (pc := 222) C d_R_rebuild_222 rfl ?_
                  refine sg_iald (pc := 224) (n := 12) C (by omega) rfl (by omega) (by decide) d_R_rebuild_224 ?_
                  first
                    | rw [sm_uf_o (by decide), hB.1 706 k (by decide) (by decide) (by decide), hI.1 706 k (by decide) (by decide) (by decide) (by decide) (by decide) (by decide)]
                    | rw [hI.1 706 k (by decide) (by decide) (by decide) (by decide) (by decide) (by decide)]
                  refine sg_iast (pc := 225) (n := 144) C (by omega) rfl (by omega) (by decide) d_R_rebuild_225 ?_
                  refine sg_aln (pc := 226) C d_R_rebuild_226 rfl ?_
                  refine sg_getr (pc := 227) C fw_R_45 (by omega) rfl rfl rfl d_R_rebuild_227 ?_
                  refine sg_iln (pc := 230) C d_R_rebuild_230 rfl ?_
                  refine sg_il (pc := 231) C d_R_rebuild_231 rfl ?_
                  refine sm_callS (pc := 233) (As := [.int (nI n), .int (nI k)]) C I (c_R_at l Ω) cw_R_85 sw_R_at rfl (by decide) ⟨by decide, by decide⟩ rfl (Nat.le_of_ble_eq_true rfl) d_R_rebuild_233 (sm_det_i ?_)
                  refine sg_aln (pc := 236) C d_R_rebuild_236 rfl ?_
                  refine sg_getr (pc := 237) C fw_R_23 (by omega) rfl rfl rfl d_R_rebuild_237 ?_
                  refine sg_il (pc := 240) C d_R_rebuild_240 rfl ?_
                  refine sg_iald (pc := 242) (n := 12) C (by omega) rfl (by omega) (by decide) d_R_rebuild_242 ?_
                  first
                    | rw [sm_up_x (Or.inl (by decide)), sm_uf_o (by decide), hB.1 707 k (by decide) (by decide) (by decide), hI.1 707 k (by decide) (by decide) (by decide) (by decide) (by decide) (by decide)]
                    | rw [sm_up_x (Or.inl (by decide)), hI.1 707 k (by decide) (by decide) (by decide) (by decide) (by decide) (by decide)]
                  refine sg_iast (pc := 243) (n := 144) C (by omega) rfl (by omega) (by decide) d_R_rebuild_243 ?_
                  refine sg_inc4 (pc := 244) (n := 1) C d_R_rebuild_244 (by decide) ?_
                  refine sg_goto (pc := 247) (tgt := 100) C d_R_rebuild_247 (by decide) ?_
                  have h := ih2 (k + 1) _ (some (.int (nI ((V 707 k + 29) / 30)))) (some (.int (nI c))) (some (.int (nI 240))) (by omega) (rRI_1 hI (by omega) (b2_1 h114) (by omega) (h8 (by omega)) hB hc)
                  rw [eT, if_pos (b2_1 h114)] at h
                  exact h
                | succ t ih3 =>
                  intro i hi
                  refine sg_il (pc := 149) C d_R_rebuild_149 rfl ?_
                  refine sg_si (pc := 151) (v := 240) C d_R_rebuild_151 (by decide) ?_
                  refine sg_icge (pc := 154) (tgt := 200) C d_R_rebuild_154 (by decide) (by omega) (by omega) (fun h154 => absurd h154 (by omega)) (fun h154 => ?_)
                  refine sg_aln (pc := 157) C d_R_rebuild_157 rfl ?_
                  refine sg_getr (pc := 158) C fw_R_49 (by omega) rfl rfl rfl d_R_rebuild_158 ?_
                  refine sg_si (pc := 161) (v := 240) C d_R_rebuild_161 (by decide) ?_
                  refine sg_iln (pc := 164) C d_R_rebuild_164 rfl ?_
                  refine sg_il (pc := 165) C d_R_rebuild_165 rfl ?_
                  refine sm_callS (pc := 167) (As := [.int (nI n), .int (nI k)]) C I (c_R_at l Ω) cw_R_85 sw_R_at rfl (by decide) ⟨by decide, by decide⟩ rfl (Nat.le_of_ble_eq_true rfl) d_R_rebuild_167 (sm_det_i ?_)
                  refine sg_mul (pc := 170) C d_R_rebuild_170 ?_
                  refine sg_il (pc := 171) C d_R_rebuild_171 rfl ?_
                  refine sg_add (pc := 173) C d_R_rebuild_173 ?_
                  refine sg_aln (pc := 174) C d_R_rebuild_174 rfl ?_
                  refine sg_getr (pc := 175) C fw_R_49 (by omega) rfl rfl rfl d_R_rebuild_175 ?_
                  refine sg_si (pc := 178) (v := 240) C d_R_rebuild_178 (by decide) ?_
                  refine sg_il (pc := 181) C d_R_rebuild_181 rfl ?_
                  refine sg_il (pc := 183) C d_R_rebuild_183 rfl ?_
                  refine sm_callS (pc := 185) (As := [.int (nI c), .int (nI k)]) C I (c_R_at l Ω) cw_R_85 sw_R_at rfl (by decide) ⟨by decide, by decide⟩ rfl (Nat.le_of_ble_eq_true rfl) d_R_rebuild_185 (sm_det_i ?_)
                  refine sg_mul (pc := 188) C d_R_rebuild_188 ?_
                  refine sg_il (pc := 189) C d_R_rebuild_189 rfl ?_
                  refine sg_add (pc := 191) C d_R_rebuild_191 ?_
                  refine sg_iald (pc := 192) (n := 34560) C (by omega) rfl (by omega) (by decide) d_R_rebuild_192 ?_
                  rw [sm_uf_s, blk_out (by omega), show Z2 715 (240 * (12 * c + k) + i) = (fun i => Z2 715 (240 * (12 * c + k) + i)) i from rfl]
                  refine sg_iast (pc := 193) (n := 34560) C (by omega) rfl (by omega) (by decide) d_R_rebuild_193 ?_
                  rw [blk_up]
                  refine sg_inc7 (pc := 194) (n := 1) C d_R_rebuild_194 (by decide) ?_
                  refine sg_goto (pc := 197) (tgt := 149) C d_R_rebuild_197 (by decide) ?_
                  exact ih3 (i + 1) (by omega)
              have h0 := loop3 240 0 (by omega)
              rw [blk_0, sm_uf_self] at h0
              exact h0
      exact loop2 12 0 V none none none (by omega) ⟨fun _ _ _ _ _ _ _ _ => rfl, fun _ _ => rfl, fun _ _ _ _ => ⟨rfl, rfl, fun _ _ => rfl⟩, fun p hp _ => absurd hp (Nat.not_lt_zero p)⟩
    | succ t ih1 =>
      intro k hk
      have g1 := hf.1 k (by omega)
      have b1 := b2_lt (rwt V n k)
      have b2' := b2_lt (decide (8 ≤ sm_n (rch V n k m) 12))
      refine sg_iln (pc := 49) C d_R_rebuild_49 rfl ?_
      refine sg_bi (pc := 50) (v := 12) C d_R_rebuild_50 (by decide) ?_
      refine sg_icge (pc := 52) (tgt := 95) C d_R_rebuild_52 (by decide) (by omega) (by omega) (fun h52 => absurd h52 (by omega)) (fun h52 => ?_)
      refine sg_aln (pc := 55) C d_R_rebuild_55 rfl ?_
      refine sg_iln (pc := 56) C d_R_rebuild_56 rfl ?_
      refine sg_iln (pc := 57) C d_R_rebuild_57 rfl ?_
      refine sm_callV (pc := 58) (As := [.int (nI n), .int (nI k)]) C I (c_R_isWanted l Ω hf hn (by omega)) cw_R_121 iw_R_isWanted (C.1.2.2.2.2 _ (List.mem_cons_of_mem _ se_R_isWanted)) (by omega) rfl rfl rfl rfl (by decide) ⟨by decide, by decide⟩ rfl (Nat.le_of_ble_eq_true rfl) d_R_rebuild_58 (sm_det_i ?_)
      refine sg_ifeq (pc := 61) (tgt := 89) C d_R_rebuild_61 (by decide) (by omega) (fun h61 => ?_) (fun h61 => ?_)
      · refine sg_inc3 (pc := 89) (n := 1) C d_R_rebuild_89 (by decide) ?_
        refine sg_goto (pc := 92) (tgt := 49) C d_R_rebuild_92 (by decide) ?_
        exact ih1 (k + 1) (by omega)
      · refine sg_aln (pc := 64) C d_R_rebuild_64 rfl ?_
        refine sg_getr (pc := 65) C fw_R_23 (by omega) rfl rfl rfl d_R_rebuild_65 ?_
        refine sg_iln (pc := 68) C d_R_rebuild_68 rfl ?_
        refine sg_iald (pc := 69) (n := 12) C (by omega) rfl (by omega) (by decide) d_R_rebuild_69 ?_
        refine sg_ifle (pc := 70) (tgt := 89) C d_R_rebuild_70 (by decide) (by omega) (fun h70 => ?_) (fun h70 => ?_)
        · refine sg_inc3 (pc := 89) (n := 1) C d_R_rebuild_89 (by decide) ?_
          refine sg_goto (pc := 92) (tgt := 49) C d_R_rebuild_92 (by decide) ?_
          exact ih1 (k + 1) (by omega)
        · refine sg_aln (pc := 73) C d_R_rebuild_73 rfl ?_
          refine sg_iln (pc := 74) C d_R_rebuild_74 rfl ?_
          refine sg_iln (pc := 75) C d_R_rebuild_75 rfl ?_
          refine sg_iln (pc := 76) C d_R_rebuild_76 rfl ?_
          refine sm_callV (pc := 77) (As := [.int (nI n), .int (nI k), .int (nI m)]) C I (c_R_hasHelpers l Ω hf hn (by omega) hm) cw_R_124 iw_R_hasHelpers (C.1.2.2.2.2 _ (List.mem_cons_of_mem _ se_R_hasHelpers)) (by omega) rfl rfl rfl rfl (by decide) ⟨by decide, by decide⟩ rfl (Nat.le_of_ble_eq_true rfl) d_R_rebuild_77 (sm_det_i ?_)
          refine sg_ifne (pc := 80) (tgt := 89) C d_R_rebuild_80 (by decide) (by omega) (fun h80 => ?_) (fun h80 => absurd (hchk k (by omega) (b2_1 h61) (by omega)) (of_decide_eq_false (b2_0 h80)))
          refine sg_inc3 (pc := 89) (n := 1) C d_R_rebuild_89 (by decide) ?_
          refine sg_goto (pc := 92) (tgt := 49) C d_R_rebuild_92 (by decide) ?_
          exact ih1 (k + 1) (by omega)
  exact loop1 12 0 (by omega)
