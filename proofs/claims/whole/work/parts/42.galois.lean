/-! Galois: the tables hold; products, quotients, values, interpolation -/
def gal (X : sm_X) : Prop := (∀ k, k < 255 → X 2 k = gf_p k) ∧ ∀ a, a < 256 → X 3 a = gf_e a
theorem sn_sa {a b c : Nat} (h : b ≤ c) : nI a - nI b + nI c = nI (a + c - b) := by
  rw [← pk_sub (by omega : b ≤ a + c), ← nI_add, Int32.sub_eq_add_neg, Int32.sub_eq_add_neg, Int32.add_assoc, Int32.add_comm (-nI b), ← Int32.add_assoc]

set_option maxHeartbeats 4000000 in
set_option maxRecDepth 100000 in
theorem c_G_times (l : Launch) (Ω : sm_Ω) {X : sm_X} {w : Nat → Nat → Nat} {a b : Nat} (hG : gal X) (ha : a < 256) (hb : b < 256) : sm_met l Ω y_G_times b_G_times 3 (some .int) 1 723 [.ref (Ω.2.1 + 1), .int (nI a), .int (nI b)] X (sm_rf w) (sm_det (some (.int (nI (gf_t a b)))) X (sm_rf w)) := by
  refine sm_intro (own := RX0) (L := [some (.ref (Ω.2.1 + 1)), some (.int (nI a)), some (.int (nI b))]) (by decide) rfl (by simp [Value.category]) (Nat.le_of_ble_eq_true rfl) rfl ?_
  intro Γ C I
  have e1 := hG.2 a ha
  have e2 := hG.2 b hb
  have b1 := gf_e_lt ha
  have b2 := gf_e_lt hb
  refine sg_iln (pc := 0) C d_G_times_0 rfl ?_
  refine sg_ifeq (pc := 1) (tgt := 8) C d_G_times_1 (by decide) (by omega) (fun h1 => ?_) (fun h1 => ?_)
  · refine sg_ic (pc := 8) (v := 0) C d_G_times_8 (by decide) ?_
    exact sg_iret (pc := 9) C I rfl rfl d_G_times_9 ⟨by first | rw [h1, gf_t_0l] | rw [h5, gf_t_0r], rfl, rfl⟩
  · refine sg_iln (pc := 4) C d_G_times_4 rfl ?_
    refine sg_ifne (pc := 5) (tgt := 10) C d_G_times_5 (by decide) (by omega) (fun h5 => ?_) (fun h5 => ?_)
    · refine sg_aln (pc := 10) C d_G_times_10 rfl ?_
      refine sg_getr (pc := 11) C fw_G_11 (by omega) rfl rfl rfl d_G_times_11 ?_
      refine sg_aln (pc := 14) C d_G_times_14 rfl ?_
      refine sg_getr (pc := 15) C fw_G_15 (by omega) rfl rfl rfl d_G_times_15 ?_
      refine sg_iln (pc := 18) C d_G_times_18 rfl ?_
      refine sg_iald (pc := 19) (n := 256) C (by omega) rfl (by omega) (by decide) d_G_times_19 ?_
      refine sg_aln (pc := 20) C d_G_times_20 rfl ?_
      refine sg_getr (pc := 21) C fw_G_15 (by omega) rfl rfl rfl d_G_times_21 ?_
      refine sg_iln (pc := 24) C d_G_times_24 rfl ?_
      refine sg_iald (pc := 25) (n := 256) C (by omega) rfl (by omega) (by decide) d_G_times_25 ?_
      refine sg_add (pc := 26) C d_G_times_26 ?_
      refine sg_si (pc := 27) (v := 255) C d_G_times_27 (by decide) ?_
      refine sg_rem (pc := 30) C d_G_times_30 (by omega) (by decide) (by decide) ?_
      refine sg_iald (pc := 31) (n := 255) C (by omega) rfl (by omega) (by decide) d_G_times_31 ?_
      exact sg_iret (pc := 32) C I rfl rfl d_G_times_32 ⟨by rw [hG.1 _ (by omega), e1, e2, gf_t, if_neg (fun h => h.elim h1 h5)], rfl, rfl⟩
    · refine sg_ic (pc := 8) (v := 0) C d_G_times_8 (by decide) ?_
      exact sg_iret (pc := 9) C I rfl rfl d_G_times_9 ⟨by first | rw [h1, gf_t_0l] | rw [h5, gf_t_0r], rfl, rfl⟩

set_option maxHeartbeats 4000000 in
set_option maxRecDepth 100000 in
theorem c_G_over (l : Launch) (Ω : sm_Ω) {X : sm_X} {w : Nat → Nat → Nat} {a b : Nat} (hG : gal X) (ha : a < 256) (hb : b < 256) : sm_met l Ω y_G_over b_G_over 3 (some .int) 1 723 [.ref (Ω.2.1 + 1), .int (nI b), .int (nI a)] X (sm_rf w) (sm_det (some (.int (nI (gf_d b a)))) X (sm_rf w)) := by
  refine sm_intro (own := RX0) (L := [some (.ref (Ω.2.1 + 1)), some (.int (nI b)), some (.int (nI a))]) (by decide) rfl (by simp [Value.category]) (Nat.le_of_ble_eq_true rfl) rfl ?_
  intro Γ C I
  have e1 := hG.2 a ha
  have e2 := hG.2 b hb
  have b1 := gf_e_lt ha
  have b2 := gf_e_lt hb
  refine sg_iln (pc := 0) C d_G_over_0 rfl ?_
  refine sg_ifeq (pc := 1) (tgt := 8) C d_G_over_1 (by decide) (by omega) (fun h1 => ?_) (fun h1 => ?_)
  · refine sg_ic (pc := 8) (v := 0) C d_G_over_8 (by decide) ?_
    exact sg_iret (pc := 9) C I rfl rfl d_G_over_9 ⟨by first | rw [h1, gf_d, if_pos (Or.inl rfl)] | rw [h5, gf_d, if_pos (Or.inr rfl)], rfl, rfl⟩
  · refine sg_iln (pc := 4) C d_G_over_4 rfl ?_
    refine sg_ifne (pc := 5) (tgt := 10) C d_G_over_5 (by decide) (by omega) (fun h5 => ?_) (fun h5 => ?_)
    · refine sg_aln (pc := 10) C d_G_over_10 rfl ?_
      refine sg_getr (pc := 11) C fw_G_11 (by omega) rfl rfl rfl d_G_over_11 ?_
      refine sg_aln (pc := 14) C d_G_over_14 rfl ?_
      refine sg_getr (pc := 15) C fw_G_15 (by omega) rfl rfl rfl d_G_over_15 ?_
      refine sg_iln (pc := 18) C d_G_over_18 rfl ?_
      refine sg_iald (pc := 19) (n := 256) C (by omega) rfl (by omega) (by decide) d_G_over_19 ?_
      refine sg_aln (pc := 20) C d_G_over_20 rfl ?_
      refine sg_getr (pc := 21) C fw_G_15 (by omega) rfl rfl rfl d_G_over_21 ?_
      refine sg_iln (pc := 24) C d_G_over_24 rfl ?_
      refine sg_iald (pc := 25) (n := 256) C (by omega) rfl (by omega) (by decide) d_G_over_25 ?_
      refine sr_isub (pc := 26) C d_G_over_26 rfl ?_
      refine sg_si (pc := 27) (v := 255) C d_G_over_27 (by decide) ?_
      refine sr_iadd (pc := 30) C d_G_over_30 (sn_sa (by omega)) ?_
      refine sg_si (pc := 31) (v := 255) C d_G_over_31 (by decide) ?_
      refine sg_rem (pc := 34) C d_G_over_34 (by omega) (by decide) (by decide) ?_
      refine sg_iald (pc := 35) (n := 255) C (by omega) rfl (by omega) (by decide) d_G_over_35 ?_
      exact sg_iret (pc := 36) C I rfl rfl d_G_over_36 ⟨by rw [hG.1 _ (by omega), e1, e2, gf_d, if_neg (fun h => h.elim h1 h5)], rfl, rfl⟩
    · refine sg_ic (pc := 8) (v := 0) C d_G_over_8 (by decide) ?_
      exact sg_iret (pc := 9) C I rfl rfl d_G_over_9 ⟨by first | rw [h1, gf_d, if_pos (Or.inl rfl)] | rw [h5, gf_d, if_pos (Or.inr rfl)], rfl, rfl⟩

theorem gf_h_lt2 {c : Nat → Nat} {x k m : Nat} (h : ∀ j, k ≤ j → j < k + m → c j < 256) : gf_h c x k m < 256 := by
  cases m with
  | zero => show (0 : Nat) < 256; decide
  | succ m => exact gf_xor_lt (gf_t_lt _ _) (h k (Nat.le_refl k) (by omega))

set_option maxHeartbeats 4000000 in
set_option maxRecDepth 100000 in
theorem c_G_valueAt (l : Launch) (Ω : sm_Ω) {X : sm_X} {w : Nat → Nat → Nat} {p i n fr : Nat} (hG : gal X) (hp : p < 256) (hi : i < 723) (hs : sm_sh i = .inr (n, 0)) (hn : n < 2 ^ 31) (hf : fr + 8 ≤ n) (hv : ∀ j, j < 8 → X i (fr + j) < 256) : sm_met l Ω y_G_valueAt b_G_valueAt 6 (some .int) 2 723 [.ref (Ω.2.1 + 1), .int (nI p), .ref (Ω.2.1 + i), .int (nI fr)] X (sm_rf w) (sm_det (some (.int (nI (gf_h (fun j => X i (fr + j)) p 0 8)))) X (sm_rf w)) := by
  refine sm_intro (own := RX0) (L := [some (.ref (Ω.2.1 + 1)), some (.int (nI p)), some (.ref (Ω.2.1 + i)), some (.int (nI fr)), none, none]) (by decide) rfl (by simp [Value.category]) (Nat.le_of_ble_eq_true rfl) rfl ?_
  intro Γ C I
  refine sg_ic (pc := 0) (v := 0) C d_G_valueAt_0 (by decide) ?_
  refine sg_is4 (pc := 1) C d_G_valueAt_1 ?_
  refine sg_bi (pc := 3) (v := 7) C d_G_valueAt_3 (by decide) ?_
  refine sg_is5 (pc := 5) C d_G_valueAt_5 ?_
  have loop : ∀ k, k ≤ 8 → sm_G Γ Ω 723 0 0 7 [some (.ref (Ω.2.1 + 1)), some (.int (nI p)), some (.ref (Ω.2.1 + i)), some (.int (nI fr)), some (.int (nI (gf_h (fun j => X i (fr + j)) p k (8 - k)))), some (.int (nI k + (-1)))] [] X (sm_rf w) := by
    intro k
    induction k with
    | zero =>
      intro _
      refine sg_il (pc := 7) C d_G_valueAt_7 rfl ?_
      refine sr_iflt (pc := 9) (tgt := 34) C d_G_valueAt_9 (by decide) (fun h9 => ?_) (fun h9 => absurd (by decide) h9)
      refine sg_il (pc := 34) C d_G_valueAt_34 rfl ?_
      exact sg_iret (pc := 36) C I rfl rfl d_G_valueAt_36 ⟨rfl, rfl, rfl⟩
    | succ k ih =>
      intro hk
      rw [sn_m1]
      have hb : gf_h (fun j => X i (fr + j)) p (k + 1) (8 - (k + 1)) < 256 := gf_h_lt2 (fun j h1 h2 => hv j (by omega))
      refine sg_il (pc := 7) C d_G_valueAt_7 rfl ?_
      refine sr_iflt (pc := 9) (tgt := 34) C d_G_valueAt_9 (by decide) (fun h9 => absurd h9 (nI_pos (by omega))) (fun h9 => ?_)
      refine sg_aln (pc := 12) C d_G_valueAt_12 rfl ?_
      refine sg_il (pc := 13) C d_G_valueAt_13 rfl ?_
      refine sg_iln (pc := 15) C d_G_valueAt_15 rfl ?_
      refine sm_callV (pc := 16) (As := [.int (nI (gf_h (fun j => X i (fr + j)) p (k + 1) (8 - (k + 1)))), .int (nI p)]) C I (c_G_times l Ω hG hb hp) cw_G_18 iw_G_times (C.1.2.2.2.2 _ (List.mem_cons_of_mem _ se_G_times)) (by omega) rfl rfl rfl rfl (by decide) ⟨by decide, by decide⟩ rfl (Nat.le_of_ble_eq_true rfl) d_G_valueAt_16 (sm_det_i ?_)
      refine sg_aln (pc := 19) C d_G_valueAt_19 rfl ?_
      refine sg_iln (pc := 20) C d_G_valueAt_20 rfl ?_
      refine sg_il (pc := 21) C d_G_valueAt_21 rfl ?_
      refine sg_add (pc := 23) C d_G_valueAt_23 ?_
      refine sg_iald (pc := 24) (n := n) C hi hs (by omega) hn d_G_valueAt_24 ?_
      refine sg_xor (pc := 25) C d_G_valueAt_25 ?_
      refine sg_is4 (pc := 26) C d_G_valueAt_26 ?_
      refine sg_dec5 (pc := 28) C d_G_valueAt_28 ?_
      refine sg_goto (pc := 31) (tgt := 7) C d_G_valueAt_31 (by decide) ?_
      have h := ih (by omega)
      rw [show 8 - k = 8 - (k + 1) + 1 by omega] at h
      exact h
  have h0 := loop 8 (Nat.le_refl 8)
  rw [show nI 8 + (-1) = nI 7 from by decide] at h0
  exact h0

/-! interpolation: the arrays between two turns -/
def ip_f (m : Nat) (P : Nat → Nat) (s r : Nat) (v : Nat → Nat) : Nat → Nat := fun k => if s + r + 1 ≤ k ∧ k < m then gf_d (v k ^^^ v (k - 1)) (P k ^^^ P (k - (s + 1))) else v k
theorem ip_f_n {m s r k : Nat} {P v : Nat → Nat} (h : ¬ (s + r + 1 ≤ k ∧ k < m)) : ip_f m P s r v k = v k := if_neg h
theorem ip_f_0 {m s : Nat} {P v : Nat → Nat} : ip_f m P s 0 (gf_q1 m P s v) = gf_q1 m P (s + 1) v := rfl
theorem ip_f_all {m s r : Nat} {P v : Nat → Nat} (h : s + r + 1 = m) : ip_f m P s r v = v := funext fun k => ip_f_n (by omega)
theorem ip_f_step {m s r : Nat} {P v : Nat → Nat} (h : s + (r + 1) < m) : (fun k => if k = s + (r + 1) then gf_d (v (s + (r + 1)) ^^^ v (s + (r + 1) - 1)) (P (s + (r + 1)) ^^^ P (s + (r + 1) - (s + 1))) else ip_f m P s (r + 1) v k) = ip_f m P s r v := by
  funext k
  by_cases hk : k = s + (r + 1)
  · subst hk
    rw [if_pos rfl]
    unfold ip_f
    rw [if_pos ⟨by omega, h⟩]
  · rw [if_neg hk]
    unfold ip_f
    by_cases h2 : s + r + 1 ≤ k ∧ k < m
    · rw [if_pos h2, if_pos ⟨by omega, h2.2⟩]
    · rw [if_neg h2, if_neg (fun q => h2 ⟨by omega, q.2⟩)]
theorem gf_q1_lt {m : Nat} {P v : Nat → Nat} (hv : ∀ k, k < m → v k < 256) : ∀ s k, k < m → gf_q1 m P s v k < 256
  | 0, k, h => hv k h
  | s + 1, k, h => by
    show gf_p1 m P (s + 1) (gf_q1 m P s v) k < 256
    unfold gf_p1
    split
    · exact gf_d_lt _ _
    · exact gf_q1_lt hv s k h
def ip_g (P : Nat → Nat) (c i : Nat) (u : Nat → Nat) : Nat → Nat := fun k => if c ≤ k ∧ k < i then u k ^^^ gf_t (u (k + 1)) (P c) else u k
theorem ip_g_n {c i k : Nat} {P u : Nat → Nat} (h : ¬ (c ≤ k ∧ k < i)) : ip_g P c i u k = u k := if_neg h
theorem ip_g_0 {c : Nat} {P u : Nat → Nat} : ip_g P c c u = u := funext fun k => ip_g_n (by omega)
theorem ip_g_step {c i : Nat} {P u : Nat → Nat} (h : c ≤ i) : (fun k => if k = i then u i ^^^ gf_t (u (i + 1)) (P c) else ip_g P c i u k) = ip_g P c (i + 1) u := by
  funext k
  by_cases hk : k = i
  · subst hk
    rw [if_pos rfl]
    unfold ip_g
    rw [if_pos ⟨h, by omega⟩]
  · rw [if_neg hk]
    unfold ip_g
    by_cases h2 : c ≤ k ∧ k < i
    · rw [if_pos h2, if_pos ⟨h2.1, by omega⟩]
    · rw [if_neg h2, if_neg (fun q => h2 ⟨q.1, by omega⟩)]
theorem ip_g_end {m c i : Nat} {P u : Nat → Nat} (h : i + 1 = m) : ip_g P c i u = gf_p2 m P c u := by
  funext k
  unfold ip_g gf_p2
  by_cases h2 : c ≤ k ∧ k < i
  · rw [if_pos h2, if_pos ⟨h2.1, by omega⟩]
  · rw [if_neg h2, if_neg (fun q => h2 ⟨q.1, by omega⟩)]
theorem gf_p2_lt {m c : Nat} {P u : Nat → Nat} (hu : ∀ k, k < m → u k < 256) : ∀ k, k < m → gf_p2 m P c u k < 256 := by
  intro k hk
  unfold gf_p2
  split
  · exact gf_xor_lt (hu k hk) (gf_t_lt _ _)
  · exact hu k hk

theorem gal_uf {X : sm_X} {j : Nat} {f : Nat → Nat} (hG : gal X) (h2 : j ≠ 2) (h3 : j ≠ 3) : gal (sm_uf X j f) := ⟨fun k hk => (sm_uf_o (Ne.symm h2)).trans (hG.1 k hk), fun a ha => (sm_uf_o (Ne.symm h3)).trans (hG.2 a ha)⟩

set_option maxHeartbeats 4000000 in
set_option maxRecDepth 100000 in
theorem c_G_interpolate (l : Launch) (Ω : sm_Ω) {X : sm_X} {w : Nat → Nat → Nat} {i j m ni nj : Nat} (hG : gal X) (hi : i < 723) (hsi : sm_sh i = .inr (ni, 0)) (hni : ni < 2 ^ 31) (hj : j < 723) (hsj : sm_sh j = .inr (nj, 0)) (hnj : nj < 2 ^ 31) (hij : i ≠ j) (h2 : j ≠ 2) (h3 : j ≠ 3) (hm : 2 ≤ m) (hmi : m ≤ ni) (hmj : m ≤ nj) (hp : ∀ k, k < m → X i k < 256) (hv : ∀ k, k < m → X j k < 256) : sm_met l Ω y_G_interpolate b_G_interpolate 6 none 2 723 [.ref (Ω.2.1 + 1), .ref (Ω.2.1 + i), .ref (Ω.2.1 + j), .int (nI m)] X (sm_rf w) (sm_det none (sm_uf X j (gf_q2 m (X i) (m - 1) (gf_q1 m (X i) (m - 1) (X j)))) (sm_rf w)) := by
  refine sm_intro (own := RX0) (L := [some (.ref (Ω.2.1 + 1)), some (.ref (Ω.2.1 + i)), some (.ref (Ω.2.1 + j)), some (.int (nI m)), none, none]) (by decide) rfl (by simp [Value.category]) (Nat.le_of_ble_eq_true rfl) rfl ?_
  intro Γ C I
  refine sg_ic (pc := 0) (v := 1) C d_G_interpolate_0 (by decide) ?_
  refine sg_is4 (pc := 1) C d_G_interpolate_1 ?_
  have loop1 : ∀ t s0 z, s0 + 1 + t = m → sm_G Γ Ω 723 0 0 3 [some (.ref (Ω.2.1 + 1)), some (.ref (Ω.2.1 + i)), some (.ref (Ω.2.1 + j)), some (.int (nI m)), some (.int (nI (s0 + 1))), z] [] (sm_uf X j (gf_q1 m (X i) s0 (X j))) (sm_rf w) := by
    intro t
    induction t with
    | zero =>
      intro s0 z ht
      refine sg_il (pc := 3) C d_G_interpolate_3 rfl ?_
      refine sg_iln (pc := 5) C d_G_interpolate_5 rfl ?_
      refine sg_icge (pc := 6) (tgt := 64) C d_G_interpolate_6 (by decide) (by omega) (by omega) (fun h6 => ?_) (fun h6 => absurd h6 (by omega))
      refine sg_iln (pc := 64) C d_G_interpolate_64 rfl ?_
      refine sg_ic (pc := 65) (v := 2) C d_G_interpolate_65 (by decide) ?_
      refine sg_sub (pc := 66) C d_G_interpolate_66 (by omega) ?_
      refine sg_is4 (pc := 67) C d_G_interpolate_67 ?_
      have loop3 : ∀ c (u : Nat → Nat) z, c + 1 ≤ m → (∀ k, k < m → u k < 256) → gf_q2 m (X i) c u = gf_q2 m (X i) (m - 1) (gf_q1 m (X i) (m - 1) (X j)) → sm_G Γ Ω 723 0 0 69 [some (.ref (Ω.2.1 + 1)), some (.ref (Ω.2.1 + i)), some (.ref (Ω.2.1 + j)), some (.int (nI m)), some (.int (nI c + (-1))), z] [] (sm_uf X j u) (sm_rf w) := by
        intro c
        induction c with
        | zero =>
          intro u z hc hu hq
          refine sg_il (pc := 69) C d_G_interpolate_69 rfl ?_
          refine sr_iflt (pc := 71) (tgt := 119) C d_G_interpolate_71 (by decide) (fun h71 => ?_) (fun h71 => absurd (by decide) h71)
          exact sg_vret (pc := 119) C I rfl d_G_interpolate_119 ⟨rfl, by rw [← hq]; rfl, rfl⟩
        | succ c ih3 =>
          intro u z hc hu hq
          rw [sn_m1]
          refine sg_il (pc := 69) C d_G_interpolate_69 rfl ?_
          refine sr_iflt (pc := 71) (tgt := 119) C d_G_interpolate_71 (by decide) (fun h71 => absurd h71 (nI_pos (by omega))) (fun h71 => ?_)
          refine sg_il (pc := 74) C d_G_interpolate_74 rfl ?_
          refine sg_is5 (pc := 76) C d_G_interpolate_76 ?_
          have loop4 : ∀ r k, k + r + 1 = m → c ≤ k → sm_G Γ Ω 723 0 0 78 [some (.ref (Ω.2.1 + 1)), some (.ref (Ω.2.1 + i)), some (.ref (Ω.2.1 + j)), some (.int (nI m)), some (.int (nI c)), some (.int (nI k))] [] (sm_uf X j (ip_g (X i) c k u)) (sm_rf w) := by
            intro r
            induction r with
            | zero =>
              intro k hk hck
              refine sg_il (pc := 78) C d_G_interpolate_78 rfl ?_
              refine sg_iln (pc := 80) C d_G_interpolate_80 rfl ?_
              refine sg_ic (pc := 81) (v := 1) C d_G_interpolate_81 (by decide) ?_
              refine sg_sub (pc := 82) C d_G_interpolate_82 (by omega) ?_
              refine sg_icge (pc := 83) (tgt := 113) C d_G_interpolate_83 (by decide) (by omega) (by omega) (fun h83 => ?_) (fun h83 => absurd h83 (by omega))
              refine sg_dec4 (pc := 113) C d_G_interpolate_113 ?_
              refine sg_goto (pc := 116) (tgt := 69) C d_G_interpolate_116 (by decide) ?_
              rw [ip_g_end (m := m) (by omega)]
              exact ih3 _ _ (by omega) (gf_p2_lt hu) hq
            | succ r ih4 =>
              intro k hk hck
              have g1 := hu k (by omega)
              have g2 := hu (k + 1) (by omega)
              have g3 := hp c (by omega)
              refine sg_il (pc := 78) C d_G_interpolate_78 rfl ?_
              refine sg_iln (pc := 80) C d_G_interpolate_80 rfl ?_
              refine sg_ic (pc := 81) (v := 1) C d_G_interpolate_81 (by decide) ?_
              refine sg_sub (pc := 82) C d_G_interpolate_82 (by omega) ?_
              refine sg_icge (pc := 83) (tgt := 113) C d_G_interpolate_83 (by decide) (by omega) (by omega) (fun h83 => absurd h83 (by omega)) (fun h83 => ?_)
              refine sg_aln (pc := 86) C d_G_interpolate_86 rfl ?_
              refine sg_il (pc := 87) C d_G_interpolate_87 rfl ?_
              refine sg_dup2 (pc := 89) C d_G_interpolate_89 rfl rfl ?_
              refine sg_iald (pc := 90) (n := nj) C hj hsj (by omega) hnj d_G_interpolate_90 ?_
              refine sg_aln (pc := 91) C d_G_interpolate_91 rfl ?_
              refine sg_aln (pc := 92) C d_G_interpolate_92 rfl ?_
              refine sg_il (pc := 93) C d_G_interpolate_93 rfl ?_
              refine sg_ic (pc := 95) (v := 1) C d_G_interpolate_95 (by decide) ?_
              refine sg_add (pc := 96) C d_G_interpolate_96 ?_
              refine sg_iald (pc := 97) (n := nj) C hj hsj (by omega) hnj d_G_interpolate_97 ?_
              refine sg_aln (pc := 98) C d_G_interpolate_98 rfl ?_
              refine sg_il (pc := 99) C d_G_interpolate_99 rfl ?_
              refine sg_iald (pc := 101) (n := ni) C hi hsi (by omega) hni d_G_interpolate_101 ?_
              rw [show sm_uf X j (ip_g (X i) c k u) j k = u k from sm_uf_s.trans (ip_g_n (by omega)), show sm_uf X j (ip_g (X i) c k u) j (k + 1) = u (k + 1) from sm_uf_s.trans (ip_g_n (by omega)), show sm_uf X j (ip_g (X i) c k u) i c = X i c from sm_uf_o hij]
              refine sm_callV (pc := 102) (As := [.int (nI (u (k + 1))), .int (nI (X i c))]) C I (c_G_times l Ω (a := u (k + 1)) (b := X i c) (gal_uf hG h2 h3) g2 g3) cw_G_18 iw_G_times (C.1.2.2.2.2 _ (List.mem_cons_of_mem _ se_G_times)) (by omega) rfl rfl rfl rfl (by decide) ⟨by decide, by decide⟩ rfl (Nat.le_of_ble_eq_true rfl) d_G_interpolate_102 (sm_det_i ?_)
              refine sg_xor (pc := 105) C d_G_interpolate_105 ?_
              refine sg_iast (pc := 106) (n := nj) C hj hsj (by omega) hnj d_G_interpolate_106 ?_
              rw [sm_uf_up, ip_g_step hck]
              refine sg_inc5 (pc := 107) (n := 1) C d_G_interpolate_107 (by decide) ?_
              refine sg_goto (pc := 110) (tgt := 78) C d_G_interpolate_110 (by decide) ?_
              exact ih4 (k + 1) (by omega) (by omega)
          have h0 := loop4 (m - 1 - c) c (by omega) (Nat.le_refl c)
          rw [ip_g_0] at h0
          exact h0
      have h0 := loop3 (m - 1) (gf_q1 m (X i) (m - 1) (X j)) z (by omega) (gf_q1_lt hv (m - 1)) rfl
      rw [show nI (m - 1) + (-1) = nI (m - 2) by rw [show m - 1 = m - 2 + 1 by omega]; exact sn_m1 _] at h0
      have hs0 : s0 = m - 1 := by omega
      subst hs0
      exact h0
    | succ t ih1 =>
      intro s0 z ht
      refine sg_il (pc := 3) C d_G_interpolate_3 rfl ?_
      refine sg_iln (pc := 5) C d_G_interpolate_5 rfl ?_
      refine sg_icge (pc := 6) (tgt := 64) C d_G_interpolate_6 (by decide) (by omega) (by omega) (fun h6 => absurd h6 (by omega)) (fun h6 => ?_)
      refine sg_iln (pc := 9) C d_G_interpolate_9 rfl ?_
      refine sg_ic (pc := 10) (v := 1) C d_G_interpolate_10 (by decide) ?_
      refine sg_sub (pc := 11) C d_G_interpolate_11 (by omega) ?_
      refine sg_is5 (pc := 12) C d_G_interpolate_12 ?_
      have loop2 : ∀ r, s0 + r + 1 ≤ m → sm_G Γ Ω 723 0 0 14 [some (.ref (Ω.2.1 + 1)), some (.ref (Ω.2.1 + i)), some (.ref (Ω.2.1 + j)), some (.int (nI m)), some (.int (nI (s0 + 1))), some (.int (nI (s0 + r)))] [] (sm_uf X j (ip_f m (X i) s0 r (gf_q1 m (X i) s0 (X j)))) (sm_rf w) := by
        intro r
        induction r with
        | zero =>
          intro hr
          refine sg_il (pc := 14) C d_G_interpolate_14 rfl ?_
          refine sg_il (pc := 16) C d_G_interpolate_16 rfl ?_
          refine sg_iclt (pc := 18) (tgt := 58) C d_G_interpolate_18 (by decide) (by omega) (by omega) (fun h18 => ?_) (fun h18 => absurd h18 (by omega))
          refine sg_inc4 (pc := 58) (n := 1) C d_G_interpolate_58 (by decide) ?_
          refine sg_goto (pc := 61) (tgt := 3) C d_G_interpolate_61 (by decide) ?_
          rw [ip_f_0]
          exact ih1 (s0 + 1) _ (by omega)
        | succ r ih2 =>
          intro hr
          have g1 := gf_q1_lt (P := X i) hv s0 (s0 + (r + 1)) (by omega)
          have g2 := gf_q1_lt (P := X i) hv s0 (s0 + (r + 1) - 1) (by omega)
          have g3 := hp (s0 + (r + 1)) (by omega)
          have g4 := hp (s0 + (r + 1) - (s0 + 1)) (by omega)
          refine sg_il (pc := 14) C d_G_interpolate_14 rfl ?_
          refine sg_il (pc := 16) C d_G_interpolate_16 rfl ?_
          refine sg_iclt (pc := 18) (tgt := 58) C d_G_interpolate_18 (by decide) (by omega) (by omega) (fun h18 => absurd h18 (by omega)) (fun h18 => ?_)
          refine sg_aln (pc := 21) C d_G_interpolate_21 rfl ?_
          refine sg_il (pc := 22) C d_G_interpolate_22 rfl ?_
          refine sg_aln (pc := 24) C d_G_interpolate_24 rfl ?_
          refine sg_aln (pc := 25) C d_G_interpolate_25 rfl ?_
          refine sg_il (pc := 26) C d_G_interpolate_26 rfl ?_
          refine sg_iald (pc := 28) (n := nj) C hj hsj (by omega) hnj d_G_interpolate_28 ?_
          refine sg_aln (pc := 29) C d_G_interpolate_29 rfl ?_
          refine sg_il (pc := 30) C d_G_interpolate_30 rfl ?_
          refine sg_ic (pc := 32) (v := 1) C d_G_interpolate_32 (by decide) ?_
          refine sg_sub (pc := 33) C d_G_interpolate_33 (by omega) ?_
          refine sg_iald (pc := 34) (n := nj) C hj hsj (by omega) hnj d_G_interpolate_34 ?_
          refine sg_xor (pc := 35) C d_G_interpolate_35 ?_
          refine sg_aln (pc := 36) C d_G_interpolate_36 rfl ?_
          refine sg_il (pc := 37) C d_G_interpolate_37 rfl ?_
          refine sg_iald (pc := 39) (n := ni) C hi hsi (by omega) hni d_G_interpolate_39 ?_
          refine sg_aln (pc := 40) C d_G_interpolate_40 rfl ?_
          refine sg_il (pc := 41) C d_G_interpolate_41 rfl ?_
          refine sg_il (pc := 43) C d_G_interpolate_43 rfl ?_
          refine sg_sub (pc := 45) C d_G_interpolate_45 (by omega) ?_
          refine sg_iald (pc := 46) (n := ni) C hi hsi (by omega) hni d_G_interpolate_46 ?_
          refine sg_xor (pc := 47) C d_G_interpolate_47 ?_
          rw [show sm_uf X j (ip_f m (X i) s0 (r + 1) (gf_q1 m (X i) s0 (X j))) j (s0 + (r + 1)) = (gf_q1 m (X i) s0 (X j)) (s0 + (r + 1)) from sm_uf_s.trans (ip_f_n (by omega)), show sm_uf X j (ip_f m (X i) s0 (r + 1) (gf_q1 m (X i) s0 (X j))) j (s0 + (r + 1) - 1) = (gf_q1 m (X i) s0 (X j)) ((s0 + (r + 1)) - 1) from sm_uf_s.trans (ip_f_n (by omega)), show sm_uf X j (ip_f m (X i) s0 (r + 1) (gf_q1 m (X i) s0 (X j))) i (s0 + (r + 1)) = X i (s0 + (r + 1)) from sm_uf_o hij, show sm_uf X j (ip_f m (X i) s0 (r + 1) (gf_q1 m (X i) s0 (X j))) i ((s0 + (r + 1)) - (s0 + 1)) = X i ((s0 + (r + 1)) - (s0 + 1)) from sm_uf_o hij]
          refine sm_callV (pc := 48) (As := [.int (nI ((gf_q1 m (X i) s0 (X j)) (s0 + (r + 1)) ^^^ (gf_q1 m (X i) s0 (X j)) ((s0 + (r + 1)) - 1))), .int (nI (X i (s0 + (r + 1)) ^^^ X i ((s0 + (r + 1)) - (s0 + 1))))]) C I (c_G_over l Ω (a := X i (s0 + (r + 1)) ^^^ X i ((s0 + (r + 1)) - (s0 + 1))) (b := (gf_q1 m (X i) s0 (X j)) (s0 + (r + 1)) ^^^ (gf_q1 m (X i) s0 (X j)) ((s0 + (r + 1)) - 1)) (gal_uf hG h2 h3) (gf_xor_lt g3 g4) (gf_xor_lt g1 g2)) cw_G_22 iw_G_over (C.1.2.2.2.2 _ (List.mem_cons_of_mem _ se_G_over)) (by omega) rfl rfl rfl rfl (by decide) ⟨by decide, by decide⟩ rfl (Nat.le_of_ble_eq_true rfl) d_G_interpolate_48 (sm_det_i ?_)
          refine sg_iast (pc := 51) (n := nj) C hj hsj (by omega) hnj d_G_interpolate_51 ?_
          rw [sm_uf_up, ip_f_step (by omega)]
          refine sg_dec5 (pc := 52) C d_G_interpolate_52 ?_
          refine sg_goto (pc := 55) (tgt := 14) C d_G_interpolate_55 (by decide) ?_
          rw [show s0 + (r + 1) = s0 + r + 1 by omega, sn_m1]
          exact ih2 (by omega)
      have h0 := loop2 (m - 1 - s0) (by omega)
      rw [show s0 + (m - 1 - s0) = m - 1 by omega, ip_f_all (by omega)] at h0
      exact h0
  have h0 := loop1 (m - 1) 0 none (by omega)
  rw [show gf_q1 m (X i) 0 (X j) = X j from rfl, sm_uf_self] at h0
  exact h0
