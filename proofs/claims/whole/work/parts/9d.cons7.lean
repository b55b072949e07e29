/-! Constructors: contracts -/
def gE (k v : Nat) : Nat := if v ≠ 0 ∧ v < 256 ∧ gf_e v < k then gf_e v else 0
def gXk (X : sm_X) (k : Nat) : sm_X := sm_uf (sm_uf X 2 (fun j => if j < k then gf_p j else 0)) 3 (gE k)
theorem gX_0 {X : sm_X} (h2 : ∀ j, X 2 j = 0) (h3 : ∀ j, X 3 j = 0) : gXk X 0 = X := by
  have e1 : (fun j => if j < 0 then gf_p j else 0) = fun _ => 0 := funext fun j => if_neg (by omega)
  have e2 : gE 0 = fun _ => 0 := funext fun v => if_neg (by omega)
  unfold gXk
  rw [e1, e2, sm_uf_0 h2, sm_uf_0 h3]
theorem gX_s {X : sm_X} {k : Nat} (hk : k < 255) : sm_up (sm_up (gXk X k) 2 k (gf_p k)) 3 (gf_p k) k = gXk X (k + 1) := by
  funext a j
  by_cases h3 : a = 3
  · subst h3
    by_cases hj : j = gf_p k
    · subst hj
      rw [sm_up_s]
      unfold gXk
      rw [sm_uf_s]
      unfold gE
      rw [gf_e_p, Nat.mod_eq_of_lt hk, if_pos ⟨(gf_p_ok k).2, (gf_p_ok k).1, by omega⟩]
    · rw [sm_up_n hj, sm_up_x (Or.inl (by omega))]
      unfold gXk
      rw [sm_uf_s, sm_uf_s]
      unfold gE
      by_cases hc : j ≠ 0 ∧ j < 256 ∧ gf_e j < k
      · rw [if_pos hc, if_pos ⟨hc.1, hc.2.1, by omega⟩]
      · rw [if_neg hc, if_neg]
        rintro ⟨q1, q2, q3⟩
        have : gf_e j ≠ k := fun e => hj (by rw [← e, gf_p_e q2 q1])
        exact hc ⟨q1, q2, by omega⟩
  · rw [sm_up_x (Or.inl h3)]
    unfold gXk
    by_cases h2 : a = 2
    · subst h2
      rw [sm_uf_o (c := 3) (by decide), sm_uf_s]
      by_cases hj : j = k
      · subst hj
        rw [sm_up_s, if_pos (by omega)]
      · rw [sm_up_n hj, sm_uf_o (c := 3) (by decide), sm_uf_s]
        by_cases hc : j < k
        · rw [if_pos hc, if_pos (by omega)]
        · rw [if_neg hc, if_neg (by omega)]
    · rw [sm_up_x (Or.inl h2), sm_uf_o h3, sm_uf_o h2, sm_uf_o h3, sm_uf_o h2]
theorem gX_g {X : sm_X} : gal (gXk X 255) := by
  refine ⟨fun k hk => ?_, fun a ha => ?_⟩
  · unfold gXk
    rw [sm_uf_o (by decide), sm_uf_s, if_pos hk]
  · unfold gXk
    rw [sm_uf_s]
    unfold gE
    by_cases h : a = 0
    · subst h
      rw [if_neg (by omega)]
      decide
    · rw [if_pos ⟨h, ha, gf_e_lt ha⟩]
theorem gX_o {X : sm_X} {k a j : Nat} (h2 : a ≠ 2) (h3 : a ≠ 3) : gXk X k a j = X a j := by
  unfold gXk
  rw [sm_uf_o h3, sm_uf_o h2]

set_option maxHeartbeats 4000000 in
set_option maxRecDepth 100000 in
theorem c_G_init (l : Launch) (Ω : sm_Ω) {X : sm_X} (hX : ∀ a j, X a j = 0) : sm_con l Ω y_G_init b_G_init 3 1 (2) 2 511 [.ref (Ω.2.1 + 1)] X (yc (fun a j => a < 0)) (fun v X2 Y2 => v = none ∧ gal X2 ∧ (∀ a j, a ≠ 2 → a ≠ 3 → X2 a j = 0) ∧ Y2 = yc (fun a j => 1 ≤ a ∧ a < 4)) := by
  refine sm_introK (own := RX0) (L := [some (.ref (Ω.2.1 + 1)), none, none]) (by decide) rfl (by simp [Value.category]) (Nat.le_of_ble_eq_true rfl) rfl ?_
  intro Γ C I hz hO hnm
  have hr1 : (sm_rm Γ).cells = 2 := by rw [I.2.1]
  have hr2 : (sm_rm Γ).slots = 511 := by rw [I.2.1]
  refine sg_aln (pc := 0) C d_G_init_0 rfl ?_
  refine sg_oinit (pc := 1) C ol_G_3 oi_in oi_code rfl (by rw [I.2.1]; exact Nat.le_of_ble_eq_true rfl) (by rw [I.2.1]; exact Nat.le_of_ble_eq_true rfl) d_G_init_1 ?_
  refine sg_aln (pc := 4) C d_G_init_4 rfl ?_
  refine sg_si (pc := 5) (v := 255) C d_G_init_5 (by decide) ?_
  refine sg_cewi (pc := 8) (n := 255) C (by omega) (by decide) rfl (fun j => hX _ j) ha_int (by omega) (by omega) d_G_init_8 ?_
  refine sm_Gn (M' := 3) (cs' := 1) (sl' := 255) (by omega) (by omega) (by omega) ?_
  refine sg_putFr (pc := 10) C hnm pF_G_11 (by omega) rfl rfl rfl rfl (P' := fun a j => a = 1 ∧ j < 1) rfl (fun a j => by (try dsimp only); omega) d_G_init_10 ?_
  refine sg_aln (pc := 13) C d_G_init_13 rfl ?_
  refine sg_si (pc := 14) (v := 256) C d_G_init_14 (by decide) ?_
  refine sg_cewi (pc := 17) (n := 256) C (by omega) (by decide) rfl (fun j => hX _ j) ha_int (by omega) (by omega) d_G_init_17 ?_
  refine sm_Gn (M' := 4) (cs' := 2) (sl' := 511) (by omega) (by omega) (by omega) ?_
  refine sg_putFr (pc := 19) C hnm pF_G_15 (by omega) rfl rfl rfl rfl (P' := fun a j => a = 1 ∧ j < 2) rfl (fun a j => by (try dsimp only); omega) d_G_init_19 ?_
  refine sg_ic (pc := 22) (v := 1) C d_G_init_22 (by decide) ?_
  refine sg_is1 (pc := 23) C d_G_init_23 ?_
  refine sg_ic (pc := 24) (v := 0) C d_G_init_24 (by decide) ?_
  refine sg_is2 (pc := 25) C d_G_init_25 ?_
  have loop : ∀ t k, k + t = 255 → sm_G Γ Ω 4 2 511 26 [some (.ref (Ω.2.1 + 1)), some (.int (nI (gf_p k))), some (.int (nI k))] [] (gXk X k) (yc (fun a j => a = 1 ∧ j < 2)) := by
    intro t
    induction t with
    | zero =>
      intro k hk
      have hp := gf_p_ok k
      refine sg_iln (pc := 26) C d_G_init_26 rfl ?_
      refine sg_si (pc := 27) (v := 255) C d_G_init_27 (by decide) ?_
      refine sg_icge (pc := 30) (tgt := 70) C d_G_init_30 (by decide) (by omega) (by omega) (fun h30 => ?_) (fun h30 => absurd h30 (by omega))
      have ek : k = 255 := by omega
      subst ek
      refine sm_Gy (P' := fun a j => 1 ≤ a ∧ a < 4) (fun a j h1 h2 => ?_) ?_
      · rcases (by (try dsimp only at h2); omega : (a = 1 ∧ 2 ≤ j) ∨ a = 2 ∨ a = 3) with ⟨rfl, h3⟩ | h3
        · exact Or.inl (rf_n2 h3).1
        · exact Or.inl (rf_n1 (by omega))
      refine sm_Gn (M' := 2 + 2) (cs' := 2) (sl' := 511) (by omega) (by omega) (by omega) ?_
      exact sg_vret (pc := 70) C I rfl d_G_init_70 ⟨rfl, gX_g, fun a j h2 h3 => by rw [gX_o h2 h3, hX], rfl⟩
    | succ t ih =>
      intro k hk
      have hp := gf_p_ok k
      refine sg_iln (pc := 26) C d_G_init_26 rfl ?_
      refine sg_si (pc := 27) (v := 255) C d_G_init_27 (by decide) ?_
      refine sg_icge (pc := 30) (tgt := 70) C d_G_init_30 (by decide) (by omega) (by omega) (fun h30 => absurd h30 (by omega)) (fun h30 => ?_)
      refine sg_aln (pc := 33) C d_G_init_33 rfl ?_
      refine sg_getr (pc := 34) C fw_G_11 (by omega) rfl rfl (yc_r rfl (by (try dsimp only); omega)) d_G_init_34 ?_
      refine sg_iln (pc := 37) C d_G_init_37 rfl ?_
      refine sg_iln (pc := 38) C d_G_init_38 rfl ?_
      refine sg_iast (pc := 39) (n := 255) C (by omega) rfl (by omega) (by decide) d_G_init_39 ?_
      refine sg_aln (pc := 40) C d_G_init_40 rfl ?_
      refine sg_getr (pc := 41) C fw_G_15 (by omega) rfl rfl (yc_r rfl (by (try dsimp only); omega)) d_G_init_41 ?_
      refine sg_iln (pc := 44) C d_G_init_44 rfl ?_
      refine sg_iln (pc := 45) C d_G_init_45 rfl ?_
      refine sg_iast (pc := 46) (n := 256) C (by omega) rfl (by omega) (by decide) d_G_init_46 ?_
      rw [gX_s (by omega)]
      refine sg_iln (pc := 47) C d_G_init_47 rfl ?_
      refine sg_ic (pc := 48) (v := 1) C d_G_init_48 (by decide) ?_
      refine sr_ishl (pc := 49) C d_G_init_49 (pk_shlN _ 1 (by decide) (by omega)) ?_
      refine sg_is1 (pc := 50) C d_G_init_50 ?_
      refine sg_iln (pc := 51) C d_G_init_51 rfl ?_
      refine sg_si (pc := 52) (v := 255) C d_G_init_52 (by decide) ?_
      refine sg_icle (pc := 55) (tgt := 64) C d_G_init_55 (by decide) (by omega) (by omega) (fun h55 => ?_) (fun h55 => ?_)
      · refine sg_inc2 (pc := 64) (n := 1) C d_G_init_64 (by decide) ?_
        refine sg_goto (pc := 67) (tgt := 26) C d_G_init_67 (by decide) ?_
        have h := ih (k + 1) (by omega)
        rw [show gf_p (k + 1) = gf_x (gf_p k) from rfl, rt_a h55] at h
        exact h
      · refine sg_iln (pc := 58) C d_G_init_58 rfl ?_
        refine sg_si (pc := 59) (v := 285) C d_G_init_59 (by decide) ?_
        refine sg_xor (pc := 62) C d_G_init_62 ?_
        refine sg_is1 (pc := 63) C d_G_init_63 ?_
        refine sg_inc2 (pc := 64) (n := 1) C d_G_init_64 (by decide) ?_
        refine sg_goto (pc := 67) (tgt := 26) C d_G_init_67 (by decide) ?_
        have h := ih (k + 1) (by omega)
        rw [show gf_p (k + 1) = gf_x (gf_p k) from rfl, rt_b h55] at h
        exact h
  have h0 := loop 255 0 (by omega)
  rw [gX_0 (fun j => hX 2 j) (fun j => hX 3 j)] at h0
  exact h0

set_option maxHeartbeats 4000000 in
set_option maxRecDepth 100000 in
theorem c_M_init (l : Launch) (Ω : sm_Ω) {X : sm_X} (hX : ∀ a j, 4 ≤ a → X a j = 0) : sm_con l Ω y_M_init b_M_init 1 1 (5) 66 581 [.ref (Ω.2.1 + 4)] X (yc (fun a j => (a = 0 ∧ j < 1) ∨ (1 ≤ a ∧ a < 4))) (sm_det none X (yc (fun a j => (a = 0 ∧ j < 1) ∨ (1 ≤ a ∧ a < 71)))) := by
  refine sm_introK (own := RX2) (L := [some (.ref (Ω.2.1 + 4))]) (by decide) rfl (by simp [Value.category]) (Nat.le_of_ble_eq_true rfl) rfl ?_
  intro Γ C I hz hO hnm
  have hr1 : (sm_rm Γ).cells = 66 := by rw [I.2.1]
  have hr2 : (sm_rm Γ).slots = 581 := by rw [I.2.1]
  refine sg_aln (pc := 0) C d_M_init_0 rfl ?_
  refine sg_oinit (pc := 1) C ol_M_3 oi_in oi_code rfl (by rw [I.2.1]; exact Nat.le_of_ble_eq_true rfl) (by rw [I.2.1]; exact Nat.le_of_ble_eq_true rfl) d_M_init_1 ?_
  refine sg_aln (pc := 4) C d_M_init_4 rfl ?_
  refine sg_bi (pc := 5) (v := 64) C d_M_init_5 (by decide) ?_
  refine sg_bi (pc := 7) (v := 8) C d_M_init_7 (by decide) ?_
  refine sg_mna (pc := 9) (N := 64) (K := 8) C (by omega) (by decide) (by decide) rfl (fun i hi => by rw [show 5 + 1 + i = 6 + i by omega]; exact sh_R hi) cl_M_9 hO.2.2.2.2.2.2.2 ha_int (by omega) (by omega) d_M_init_9 ?_
  rw [mnX_0 (fun a j ha => hX a j (by omega)), yc_mn (P' := fun a j => (a = 0 ∧ j < 1) ∨ (1 ≤ a ∧ a < 4) ∨ (a = 5 ∧ j < 64)) (fun a j => by (try dsimp only); omega) (fun j => by (try dsimp only); omega)]
  refine sm_Gn (M' := 70) (cs' := 65) (sl' := 576) (by omega) (by omega) (by omega) ?_
  refine sg_putFr (pc := 13) C hnm pF_M_11 (by omega) rfl rfl rfl rfl (P' := fun a j => (a = 0 ∧ j < 1) ∨ (1 ≤ a ∧ a < 4) ∨ (a = 5 ∧ j < 64) ∨ (a = 4 ∧ j < 1)) rfl (fun a j => by (try dsimp only); omega) d_M_init_13 ?_
  refine sg_aln (pc := 16) C d_M_init_16 rfl ?_
  refine sg_ic (pc := 17) (v := 5) C d_M_init_17 (by decide) ?_
  refine sg_cewi (pc := 18) (n := 5) C (by omega) (by decide) rfl (fun j => hX _ j (by omega)) ha_int (by omega) (by omega) d_M_init_18 ?_
  refine sm_Gn (M' := 71) (cs' := 66) (sl' := 581) (by omega) (by omega) (by omega) ?_
  refine sg_putFr (pc := 20) C hnm pF_M_16 (by omega) rfl rfl rfl rfl (P' := fun a j => (a = 0 ∧ j < 1) ∨ (1 ≤ a ∧ a < 4) ∨ (a = 5 ∧ j < 64) ∨ (a = 4 ∧ j < 2)) rfl (fun a j => by (try dsimp only); omega) d_M_init_20 ?_
  refine sm_Gy (P' := fun a j => (a = 0 ∧ j < 1) ∨ (1 ≤ a ∧ a < 71)) (fun a j h1 h2 => ?_) ?_
  · rcases (by (try dsimp only at h2); omega : (a = 4 ∧ 2 ≤ j) ∨ (a = 5 ∧ 64 ≤ j) ∨ (6 ≤ a ∧ a < 71)) with ⟨rfl, h3⟩ | ⟨rfl, h3⟩ | h3
    · exact Or.inl (rf_n2 h3).2.1
    · exact Or.inl (rf_n5.1 h3)
    · exact Or.inl (rf_n1 (by omega))
  refine sm_Gn (M' := 5 + 66) (cs' := 66) (sl' := 581) (by omega) (by omega) (by omega) ?_
  exact sg_vret (pc := 23) C I rfl d_M_init_23 ⟨rfl, rfl, rfl⟩

set_option maxHeartbeats 4000000 in
set_option maxRecDepth 100000 in
theorem c_T_init (l : Launch) (Ω : sm_Ω) {X : sm_X} (hX : ∀ a j, 73 ≤ a → X a j = 0) : sm_con l Ω y_T_init b_T_init 1 1 (74) 2 16 [.ref (Ω.2.1 + 73)] X (yc (fun a j => (a = 0 ∧ j < 4) ∨ (1 ≤ a ∧ a < 71))) (sm_det none X (yc (fun a j => (a = 0 ∧ j < 4) ∨ (1 ≤ a ∧ a < 71) ∨ (73 ≤ a ∧ a < 76)))) := by
  refine sm_introK (own := RX5) (L := [some (.ref (Ω.2.1 + 73))]) (by decide) rfl (by simp [Value.category]) (Nat.le_of_ble_eq_true rfl) rfl ?_
  intro Γ C I hz hO hnm
  have hr1 : (sm_rm Γ).cells = 2 := by rw [I.2.1]
  have hr2 : (sm_rm Γ).slots = 16 := by rw [I.2.1]
  refine sg_aln (pc := 0) C d_T_init_0 rfl ?_
  refine sg_oinit (pc := 1) C ol_T_3 oi_in oi_code rfl (by rw [I.2.1]; exact Nat.le_of_ble_eq_true rfl) (by rw [I.2.1]; exact Nat.le_of_ble_eq_true rfl) d_T_init_1 ?_
  refine sg_aln (pc := 4) C d_T_init_4 rfl ?_
  refine sg_bi (pc := 5) (v := 8) C d_T_init_5 (by decide) ?_
  refine sg_cewi (pc := 7) (n := 8) C (by omega) (by decide) rfl (fun j => hX _ j (by omega)) ha_int (by omega) (by omega) d_T_init_7 ?_
  refine sm_Gn (M' := 75) (cs' := 1) (sl' := 8) (by omega) (by omega) (by omega) ?_
  refine sg_putFr (pc := 9) C hnm pF_T_9 (by omega) rfl rfl rfl rfl (P' := fun a j => (a = 0 ∧ j < 4) ∨ (1 ≤ a ∧ a < 71) ∨ (a = 73 ∧ j < 1)) rfl (fun a j => by (try dsimp only); omega) d_T_init_9 ?_
  refine sg_aln (pc := 12) C d_T_init_12 rfl ?_
  refine sg_bi (pc := 13) (v := 8) C d_T_init_13 (by decide) ?_
  refine sg_cewi (pc := 15) (n := 8) C (by omega) (by decide) rfl (fun j => hX _ j (by omega)) ha_int (by omega) (by omega) d_T_init_15 ?_
  refine sm_Gn (M' := 76) (cs' := 2) (sl' := 16) (by omega) (by omega) (by omega) ?_
  refine sg_putFr (pc := 17) C hnm pF_T_15 (by omega) rfl rfl rfl rfl (P' := fun a j => (a = 0 ∧ j < 4) ∨ (1 ≤ a ∧ a < 71) ∨ (a = 73 ∧ j < 2)) rfl (fun a j => by (try dsimp only); omega) d_T_init_17 ?_
  refine sg_aln (pc := 20) C d_T_init_20 rfl ?_
  refine sg_ic (pc := 21) (v := 0) C d_T_init_21 (by decide) ?_
  refine sg_puti (pc := 22) C pw_T_18 (by omega) rfl rfl rfl rfl d_T_init_22 ?_
  rw [sm_up_0 (hX _ _ (by omega))]
  refine sm_Gy (P' := fun a j => (a = 0 ∧ j < 4) ∨ (1 ≤ a ∧ a < 71) ∨ (73 ≤ a ∧ a < 76)) (fun a j h1 h2 => ?_) ?_
  · rcases (by (try dsimp only at h2); omega : (a = 73 ∧ 2 ≤ j) ∨ (74 ≤ a ∧ a < 76)) with ⟨rfl, h3⟩ | h3
    · exact Or.inl (rf_n2 h3).2.2
    · exact Or.inl (rf_n1 (by omega))
  refine sm_Gn (M' := 74 + 2) (cs' := 2) (sl' := 16) (by omega) (by omega) (by omega) ?_
  exact sg_vret (pc := 25) C I rfl d_T_init_25 ⟨rfl, rfl, rfl⟩

set_option maxHeartbeats 4000000 in
set_option maxRecDepth 100000 in
theorem c_I_init (l : Launch) (Ω : sm_Ω) {X : sm_X} {Y : sm_R} {o : Nat} (ho : o < 12) (hX : ∀ a j, 691 + o ≤ a → X a j = 0) : sm_con l Ω y_I_init b_I_init 1 1 (692 + o) 0 0 [.ref (Ω.2.1 + (691 + o))] X Y (sm_det none X Y) := by
  refine sm_introK (own := RX1) (L := [some (.ref (Ω.2.1 + (691 + o)))]) (by decide) rfl (by simp [Value.category]) (Nat.le_of_ble_eq_true rfl) rfl ?_
  intro Γ C I hz hO hnm
  have hr1 : (sm_rm Γ).cells = 0 := by rw [I.2.1]
  have hr2 : (sm_rm Γ).slots = 0 := by rw [I.2.1]
  refine sg_aln (pc := 0) C d_I_init_0 rfl ?_
  refine sg_oinit (pc := 1) C ol_I_1 oi_in oi_code rfl (by rw [I.2.1]; exact Nat.le_of_ble_eq_true rfl) (by rw [I.2.1]; exact Nat.le_of_ble_eq_true rfl) d_I_init_1 ?_
  refine sg_aln (pc := 4) C d_I_init_4 rfl ?_
  refine sg_ic (pc := 5) (v := 0) C d_I_init_5 (by decide) ?_
  refine sg_puti (pc := 6) C pw_I_7 (by omega) (sh_I (by omega)) rfl rfl rfl d_I_init_6 ?_
  rw [sm_up_0 (hX _ _ (by omega))]
  refine sg_aln (pc := 9) C d_I_init_9 rfl ?_
  refine sg_ic (pc := 10) (v := 0) C d_I_init_10 (by decide) ?_
  refine sg_puti (pc := 11) C pw_I_13 (by omega) (sh_I (by omega)) rfl rfl rfl d_I_init_11 ?_
  rw [sm_up_0 (hX _ _ (by omega))]
  refine sg_aln (pc := 14) C d_I_init_14 rfl ?_
  refine sg_ic (pc := 15) (v := 0) C d_I_init_15 (by decide) ?_
  refine sg_puti (pc := 16) C pw_I_16 (by omega) (sh_I (by omega)) rfl rfl rfl d_I_init_16 ?_
  rw [sm_up_0 (hX _ _ (by omega))]
  refine sg_aln (pc := 19) C d_I_init_19 rfl ?_
  refine sg_ic (pc := 20) (v := 0) C d_I_init_20 (by decide) ?_
  refine sg_puti (pc := 21) C pw_I_19 (by omega) (sh_I (by omega)) rfl rfl rfl d_I_init_21 ?_
  rw [sm_up_0 (hX _ _ (by omega))]
  refine sg_aln (pc := 24) C d_I_init_24 rfl ?_
  refine sg_ic (pc := 25) (v := 0) C d_I_init_25 (by decide) ?_
  refine sg_puti (pc := 26) C pw_I_22 (by omega) (sh_I (by omega)) rfl (sn_b (by omega)) (sn_bf (by omega)) d_I_init_26 ?_
  rw [sm_up_0 (hX _ _ (by omega))]
  refine sm_Gn (M' := (692 + o) + 0) (cs' := 0) (sl' := 0) (by omega) (by omega) (by omega) ?_
  exact sg_vret (pc := 29) C I rfl d_I_init_29 ⟨rfl, rfl, rfl⟩

set_option maxHeartbeats 4000000 in
set_option maxRecDepth 100000 in
theorem c_H_init (l : Launch) (Ω : sm_Ω) {X : sm_X} {n o b : Nat} (hn : n < 12) (ho : o < 12) (hb : b < 2) (hX : ∀ a j, 82 + 51 * n + 4 * o + 2 * b ≤ a → X a j = 0) : sm_con l Ω y_H_init b_H_init 1 1 (83 + 51 * n + 4 * o + 2 * b) 1 64 [.ref (Ω.2.1 + (82 + 51 * n + 4 * o + 2 * b))] X (yc (fun a j => (a = 0 ∧ j < 8) ∨ (1 ≤ a ∧ a < 71) ∨ (a = 71 ∧ j < n) ∨ (73 ≤ a ∧ a < 79 + 51 * n) ∨ (a = 79 + 51 * n ∧ 1 ≤ j ∧ j < 3) ∨ (a = 80 + 51 * n ∧ j < o + b) ∨ (a = 81 + 51 * n ∧ j < o) ∨ (82 + 51 * n ≤ a ∧ a < 82 + 51 * n + 4 * o + 2 * b))) (sm_det none X (yc (fun a j => (a = 0 ∧ j < 8) ∨ (1 ≤ a ∧ a < 71) ∨ (a = 71 ∧ j < n) ∨ (73 ≤ a ∧ a < 79 + 51 * n) ∨ (a = 79 + 51 * n ∧ 1 ≤ j ∧ j < 3) ∨ (a = 80 + 51 * n ∧ j < o + b) ∨ (a = 81 + 51 * n ∧ j < o) ∨ (82 + 51 * n ≤ a ∧ a < 84 + 51 * n + 4 * o + 2 * b)))) := by
  refine sm_introK (own := RX4) (L := [some (.ref (Ω.2.1 + (82 + 51 * n + 4 * o + 2 * b)))]) (by decide) rfl (by simp [Value.category]) (Nat.le_of_ble_eq_true rfl) rfl ?_
  intro Γ C I hz hO hnm
  have hr1 : (sm_rm Γ).cells = 1 := by rw [I.2.1]
  have hr2 : (sm_rm Γ).slots = 64 := by rw [I.2.1]
  refine sg_aln (pc := 0) C d_H_init_0 rfl ?_
  refine sg_oinit (pc := 1) C ol_H_3 oi_in oi_code rfl (by rw [I.2.1]; exact Nat.le_of_ble_eq_true rfl) (by rw [I.2.1]; exact Nat.le_of_ble_eq_true rfl) d_H_init_1 ?_
  refine sg_aln (pc := 4) C d_H_init_4 rfl ?_
  refine sg_ic (pc := 5) (v := 0) C d_H_init_5 (by decide) ?_
  refine sg_puti (pc := 6) C pw_H_9 (by omega) (sh_S (by omega) (by omega) (by omega)) rfl rfl rfl d_H_init_6 ?_
  rw [sm_up_0 (hX _ _ (by omega))]
  refine sg_aln (pc := 9) C d_H_init_9 rfl ?_
  refine sg_ic (pc := 10) (v := 0) C d_H_init_10 (by decide) ?_
  refine sg_puti (pc := 11) C pw_H_15 (by omega) (sh_S (by omega) (by omega) (by omega)) rfl rfl rfl d_H_init_11 ?_
  rw [sm_up_0 (hX _ _ (by omega))]
  refine sg_aln (pc := 14) C d_H_init_14 rfl ?_
  refine sg_bi (pc := 15) (v := 64) C d_H_init_15 (by decide) ?_
  refine sg_cewi (pc := 17) (n := 64) C (by omega) (by decide) (sh_Sb hn ho hb) (fun j => hX _ j (by omega)) ha_int (by omega) (by omega) d_H_init_17 ?_
  refine sm_Gn (M' := 84 + 51 * n + 4 * o + 2 * b) (cs' := 1) (sl' := 64) (by omega) (by omega) (by omega) ?_
  refine sg_putFr (pc := 19) C hnm pF_H_18 (by omega) (sh_S (by omega) (by omega) (by omega)) rfl rfl rfl (P' := fun a j => (a = 0 ∧ j < 8) ∨ (1 ≤ a ∧ a < 71) ∨ (a = 71 ∧ j < n) ∨ (73 ≤ a ∧ a < 79 + 51 * n) ∨ (a = 79 + 51 * n ∧ 1 ≤ j ∧ j < 3) ∨ (a = 80 + 51 * n ∧ j < o + b) ∨ (a = 81 + 51 * n ∧ j < o) ∨ (82 + 51 * n ≤ a ∧ a < 82 + 51 * n + 4 * o + 2 * b) ∨ (a = (82 + 51 * n + 4 * o + 2 * b) ∧ j = 2)) (rf_S2 hn ho hb) (fun a j => by (try dsimp only); omega) d_H_init_19 ?_
  refine sm_Gy (P' := fun a j => (a = 0 ∧ j < 8) ∨ (1 ≤ a ∧ a < 71) ∨ (a = 71 ∧ j < n) ∨ (73 ≤ a ∧ a < 79 + 51 * n) ∨ (a = 79 + 51 * n ∧ 1 ≤ j ∧ j < 3) ∨ (a = 80 + 51 * n ∧ j < o + b) ∨ (a = 81 + 51 * n ∧ j < o) ∨ (82 + 51 * n ≤ a ∧ a < 84 + 51 * n + 4 * o + 2 * b)) (fun a j h1 h2 => ?_) ?_
  · rcases (by (try dsimp only at h2); omega : (a = (82 + 51 * n + 4 * o + 2 * b) ∧ j ≠ 2) ∨ a = 83 + 51 * n + 4 * o + 2 * b) with ⟨rfl, h3⟩ | rfl
    · exact Or.inl (rf_nS hn (by omega) (by omega) h3)
    · exact Or.inr ⟨64, sh_Sb hn ho hb⟩
  refine sm_Gn (M' := (83 + 51 * n + 4 * o + 2 * b) + 1) (cs' := 1) (sl' := 64) (by omega) (by omega) (by omega) ?_
  exact sg_vret (pc := 22) C I rfl d_H_init_22 ⟨rfl, rfl, rfl⟩

set_option maxHeartbeats 4000000 in
set_option maxRecDepth 100000 in
theorem c_N_init (l : Launch) (Ω : sm_Ω) {X : sm_X} {n : Nat} (hn : n < 12) (hX : ∀ a j, 79 + 51 * n ≤ a → X a j = 0) : sm_con l Ω y_N_init b_N_init 3 2 (80 + 51 * n) 50 1632 [.ref (Ω.2.1 + (79 + 51 * n)), .int (nI (n + 1))] X (yc (fun a j => (a = 0 ∧ j < 8) ∨ (1 ≤ a ∧ a < 71) ∨ (a = 71 ∧ j < n) ∨ (73 ≤ a ∧ a < 79 + 51 * n))) (sm_det none (sm_up (sm_up (sm_up X (79 + 51 * n) 3 1) (79 + 51 * n) 4 0) (79 + 51 * n) 0 (n + 1)) (yc (fun a j => (a = 0 ∧ j < 8) ∨ (1 ≤ a ∧ a < 71) ∨ (a = 71 ∧ j < n) ∨ (73 ≤ a ∧ a < 130 + 51 * n)))) := by
  refine sm_introK (own := RX3) (L := [some (.ref (Ω.2.1 + (79 + 51 * n))), some (.int (nI (n + 1))), none]) (by decide) rfl (by simp [Value.category]) (Nat.le_of_ble_eq_true rfl) rfl ?_
  intro Γ C I hz hO hnm
  have hr1 : (sm_rm Γ).cells = 50 := by rw [I.2.1]
  have hr2 : (sm_rm Γ).slots = 1632 := by rw [I.2.1]
  refine sg_aln (pc := 0) C d_N_init_0 rfl ?_
  refine sg_oinit (pc := 1) C ol_N_3 oi_in oi_code rfl (by rw [I.2.1]; exact Nat.le_of_ble_eq_true rfl) (by rw [I.2.1]; exact Nat.le_of_ble_eq_true rfl) d_N_init_1 ?_
  refine sg_aln (pc := 4) C d_N_init_4 rfl ?_
  refine sg_bi (pc := 5) (v := 12) C d_N_init_5 (by decide) ?_
  refine sg_cewq (pc := 7) (n := 12) (t := 6) C (by omega) (by decide) rfl (by decide) (sh_Ns hn) (fun j => by (try dsimp only); omega) cl_N_9 hO.2.2.2.2.2.2.1 (by omega) (by omega) d_N_init_7 ?_
  refine sm_Gn (M' := 81 + 51 * n) (cs' := 1) (sl' := 12) (by omega) (by omega) (by omega) ?_
  refine sg_putFr (pc := 10) C hnm pF_N_11 (by omega) (sh_N (by omega)) rfl rfl rfl (P' := fun a j => (a = 0 ∧ j < 8) ∨ (1 ≤ a ∧ a < 71) ∨ (a = 71 ∧ j < n) ∨ (73 ≤ a ∧ a < 79 + 51 * n) ∨ (a = 79 + 51 * n ∧ j = 1)) (rf_N1 hn) (fun a j => by (try dsimp only); omega) d_N_init_10 ?_
  refine sg_aln (pc := 13) C d_N_init_13 rfl ?_
  refine sg_bi (pc := 14) (v := 12) C d_N_init_14 (by decide) ?_
  refine sg_cewq (pc := 16) (n := 12) (t := 6) C (by omega) (by decide) rfl (by decide) (sh_Nh hn) (fun j => by (try dsimp only); omega) cl_N_9 hO.2.2.2.2.2.2.1 (by omega) (by omega) d_N_init_16 ?_
  refine sm_Gn (M' := 82 + 51 * n) (cs' := 2) (sl' := 24) (by omega) (by omega) (by omega) ?_
  refine sg_putFr (pc := 19) C hnm pF_N_17 (by omega) (sh_N (by omega)) rfl rfl rfl (P' := fun a j => (a = 0 ∧ j < 8) ∨ (1 ≤ a ∧ a < 71) ∨ (a = 71 ∧ j < n) ∨ (73 ≤ a ∧ a < 79 + 51 * n) ∨ (a = 79 + 51 * n ∧ 1 ≤ j ∧ j < 3)) (rf_N2 hn) (fun a j => by (try dsimp only); omega) d_N_init_19 ?_
  refine sg_aln (pc := 22) C d_N_init_22 rfl ?_
  refine sg_ic (pc := 23) (v := 1) C d_N_init_23 (by decide) ?_
  refine sg_puti (pc := 24) C pw_N_20 (by omega) (sh_N (by omega)) rfl (sn_b (by omega)) (sn_bf (by omega)) d_N_init_24 ?_
  refine sg_aln (pc := 27) C d_N_init_27 rfl ?_
  refine sg_ic (pc := 28) (v := 0) C d_N_init_28 (by decide) ?_
  refine sg_puti (pc := 29) C pw_N_24 (by omega) (sh_N (by omega)) rfl rfl rfl d_N_init_29 ?_
  refine sg_aln (pc := 32) C d_N_init_32 rfl ?_
  refine sg_iln (pc := 33) C d_N_init_33 rfl ?_
  refine sg_putFi (pc := 34) C hnm pF_N_28 (by omega) (sh_N (by omega)) rfl rfl rfl d_N_init_34 ?_
  have hZ : ∀ a j, 80 + 51 * n ≤ a → (sm_up (sm_up (sm_up X (79 + 51 * n) 3 1) (79 + 51 * n) 4 0) (79 + 51 * n) 0 (n + 1)) a j = 0 := fun a j ha => by rw [sm_up_x (Or.inl (by omega)), sm_up_x (Or.inl (by omega)), sm_up_x (Or.inl (by omega))]; exact hX a j (by omega)
  generalize hZe : (sm_up (sm_up (sm_up X (79 + 51 * n) 3 1) (79 + 51 * n) 4 0) (79 + 51 * n) 0 (n + 1)) = Z at hZ ⊢
  refine sg_ic (pc := 37) (v := 0) C d_N_init_37 (by decide) ?_
  refine sg_is2 (pc := 38) C d_N_init_38 ?_
  have loop : ∀ t k, k + t = 12 → sm_G Γ Ω (82 + 51 * n + 4 * k) (2 + 4 * k) (24 + 134 * k) 39 [some (.ref (Ω.2.1 + (79 + 51 * n))), some (.int (nI (n + 1))), some (.int (nI k))] [] Z (yc (fun a j => (a = 0 ∧ j < 8) ∨ (1 ≤ a ∧ a < 71) ∨ (a = 71 ∧ j < n) ∨ (73 ≤ a ∧ a < 79 + 51 * n) ∨ (a = 79 + 51 * n ∧ 1 ≤ j ∧ j < 3) ∨ (a = 80 + 51 * n ∧ j < k) ∨ (a = 81 + 51 * n ∧ j < k) ∨ (82 + 51 * n ≤ a ∧ a < 82 + 51 * n + 4 * k))) := by
    intro t
    induction t with
    | zero =>
      intro k hk
      refine sg_iln (pc := 39) C d_N_init_39 rfl ?_
      refine sg_bi (pc := 40) (v := 12) C d_N_init_40 (by decide) ?_
      refine sg_icge (pc := 42) (tgt := 77) C d_N_init_42 (by decide) (by omega) (by omega) (fun h42 => ?_) (fun h42 => absurd h42 (by omega))
      have ek : k = 12 := by omega
      subst ek
      refine sm_Gy (P' := fun a j => (a = 0 ∧ j < 8) ∨ (1 ≤ a ∧ a < 71) ∨ (a = 71 ∧ j < n) ∨ (73 ≤ a ∧ a < 130 + 51 * n)) (fun a j h1 h2 => ?_) ?_
      · rcases (by (try dsimp only at h2); omega : (a = 79 + 51 * n ∧ (j = 0 ∨ 3 ≤ j)) ∨ (a = 80 + 51 * n ∧ 12 ≤ j) ∨ (a = 81 + 51 * n ∧ 12 ≤ j)) with ⟨rfl, h3⟩ | ⟨rfl, h3⟩ | ⟨rfl, h3⟩
        · exact Or.inl ((rf_nN hn).1 h3)
        · exact Or.inl ((rf_nN hn).2 h3).1
        · exact Or.inl ((rf_nN hn).2 h3).2
      refine sm_Gn (M' := (80 + 51 * n) + 50) (cs' := 50) (sl' := 1632) (by omega) (by omega) (by omega) ?_
      exact sg_vret (pc := 77) C I rfl d_N_init_77 ⟨rfl, hZe.symm, rfl⟩
    | succ t ih =>
      intro k hk
      refine sg_iln (pc := 39) C d_N_init_39 rfl ?_
      refine sg_bi (pc := 40) (v := 12) C d_N_init_40 (by decide) ?_
      refine sg_icge (pc := 42) (tgt := 77) C d_N_init_42 (by decide) (by omega) (by omega) (fun h42 => absurd h42 (by omega)) (fun h42 => ?_)
      refine sg_aln (pc := 45) C d_N_init_45 rfl ?_
      refine sg_getr (pc := 46) C fw_N_11 (by omega) (sh_N (by omega)) rfl (yc_r (rf_N1 hn) (by (try dsimp only); omega)) d_N_init_46 ?_
      refine sg_iln (pc := 49) C d_N_init_49 rfl ?_
      refine sm_Gn (M' := 82 + 51 * n + 4 * k + 2 * 0) (by omega) rfl rfl ?_
      refine sg_cewo (pc := 50) C (by omega) nw_N_9 (sh_S (b := 0) hn (by omega) (by decide)) (fun j => hZ _ j (by omega)) (fun j => by (try dsimp only); omega) (by omega) (by omega) d_N_init_50 ?_
      refine sm_Gn (M' := 83 + 51 * n + 4 * k + 2 * 0) (cs' := 3 + 4 * k) (sl' := 27 + 134 * k) (by omega) (by omega) (by omega) ?_
      refine sg_dup (pc := 53) C d_N_init_53 rfl ?_
      refine sm_Gi (P' := fun a j => (a = 0 ∧ j < 8) ∨ (1 ≤ a ∧ a < 71) ∨ (a = 71 ∧ j < n) ∨ (73 ≤ a ∧ a < 79 + 51 * n) ∨ (a = 79 + 51 * n ∧ 1 ≤ j ∧ j < 3) ∨ (a = 80 + 51 * n ∧ j < k + 0) ∨ (a = 81 + 51 * n ∧ j < k) ∨ (82 + 51 * n ≤ a ∧ a < 82 + 51 * n + 4 * k + 2 * 0)) (fun a j => by (try dsimp only); omega) ?_
      refine sm_callIN (pc := 54) (As := []) (na := 0) C I (by omega) hO hO.2.2.2.1 (c_H_init l Ω (n := n) (o := k) (b := 0) hn (by omega) (by decide) (fun a j ha => hZ a j (by omega))) kc_H_init ki_H_init ⟨by decide, by decide, by decide +kernel⟩ (by decide) rfl iw_H_init rfl (by decide) ⟨by omega, by omega⟩ rfl (Nat.le_of_ble_eq_true rfl) d_N_init_54 (sm_det_v ?_)
      refine sm_Gn (M' := 84 + 51 * n + 4 * k + 2 * 0) (cs' := 4 + 4 * k) (sl' := 91 + 134 * k) (by omega) (by omega) (by omega) ?_
      refine sg_aasty (pc := 57) (n := 12) (t := 6) C (by omega) (sh_Ns hn) (by decide) rfl (by omega) (sh_S (b := 0) hn (by omega) (by decide)) rfl (by omega) (by decide) (P' := fun a j => (a = 0 ∧ j < 8) ∨ (1 ≤ a ∧ a < 71) ∨ (a = 71 ∧ j < n) ∨ (73 ≤ a ∧ a < 79 + 51 * n) ∨ (a = 79 + 51 * n ∧ 1 ≤ j ∧ j < 3) ∨ (a = 80 + 51 * n ∧ j < (k + 1)) ∨ (a = 81 + 51 * n ∧ j < k) ∨ (82 + 51 * n ≤ a ∧ a < 84 + 51 * n + 4 * k)) (rf_Ns hn (by omega)) (fun a j => by (try dsimp only); omega) d_N_init_57 ?_
      refine sg_aln (pc := 58) C d_N_init_58 rfl ?_
      refine sg_getr (pc := 59) C fw_N_17 (by omega) (sh_N (by omega)) rfl (yc_r (rf_N2 hn) (by (try dsimp only); omega)) d_N_init_59 ?_
      refine sg_iln (pc := 62) C d_N_init_62 rfl ?_
      refine sm_Gn (M' := 82 + 51 * n + 4 * k + 2 * 1) (by omega) rfl rfl ?_
      refine sg_cewo (pc := 63) C (by omega) nw_N_9 (sh_S (b := 1) hn (by omega) (by decide)) (fun j => hZ _ j (by omega)) (fun j => by (try dsimp only); omega) (by omega) (by omega) d_N_init_63 ?_
      refine sm_Gn (M' := 83 + 51 * n + 4 * k + 2 * 1) (cs' := 5 + 4 * k) (sl' := 94 + 134 * k) (by omega) (by omega) (by omega) ?_
      refine sg_dup (pc := 66) C d_N_init_66 rfl ?_
      refine sm_Gi (P' := fun a j => (a = 0 ∧ j < 8) ∨ (1 ≤ a ∧ a < 71) ∨ (a = 71 ∧ j < n) ∨ (73 ≤ a ∧ a < 79 + 51 * n) ∨ (a = 79 + 51 * n ∧ 1 ≤ j ∧ j < 3) ∨ (a = 80 + 51 * n ∧ j < k + 1) ∨ (a = 81 + 51 * n ∧ j < k) ∨ (82 + 51 * n ≤ a ∧ a < 82 + 51 * n + 4 * k + 2 * 1)) (fun a j => by (try dsimp only); omega) ?_
      refine sm_callIN (pc := 67) (As := []) (na := 0) C I (by omega) hO hO.2.2.2.1 (c_H_init l Ω (n := n) (o := k) (b := 1) hn (by omega) (by decide) (fun a j ha => hZ a j (by omega))) kc_H_init ki_H_init ⟨by decide, by decide, by decide +kernel⟩ (by decide) rfl iw_H_init rfl (by decide) ⟨by omega, by omega⟩ rfl (Nat.le_of_ble_eq_true rfl) d_N_init_67 (sm_det_v ?_)
      refine sm_Gn (M' := 84 + 51 * n + 4 * k + 2 * 1) (cs' := 6 + 4 * k) (sl' := 158 + 134 * k) (by omega) (by omega) (by omega) ?_
      refine sg_aasty (pc := 70) (n := 12) (t := 6) C (by omega) (sh_Nh hn) (by decide) rfl (by omega) (sh_S (b := 1) hn (by omega) (by decide)) rfl (by omega) (by decide) (P' := fun a j => (a = 0 ∧ j < 8) ∨ (1 ≤ a ∧ a < 71) ∨ (a = 71 ∧ j < n) ∨ (73 ≤ a ∧ a < 79 + 51 * n) ∨ (a = 79 + 51 * n ∧ 1 ≤ j ∧ j < 3) ∨ (a = 80 + 51 * n ∧ j < (k + 1)) ∨ (a = 81 + 51 * n ∧ j < (k + 1)) ∨ (82 + 51 * n ≤ a ∧ a < 86 + 51 * n + 4 * k)) (rf_Nh hn (by omega)) (fun a j => by (try dsimp only); omega) d_N_init_70 ?_
      refine sg_inc2 (pc := 71) (n := 1) C d_N_init_71 (by decide) ?_
      refine sg_goto (pc := 74) (tgt := 39) C d_N_init_74 (by decide) ?_
      refine sm_Gi (P' := fun a j => (a = 0 ∧ j < 8) ∨ (1 ≤ a ∧ a < 71) ∨ (a = 71 ∧ j < n) ∨ (73 ≤ a ∧ a < 79 + 51 * n) ∨ (a = 79 + 51 * n ∧ 1 ≤ j ∧ j < 3) ∨ (a = 80 + 51 * n ∧ j < (k + 1)) ∨ (a = 81 + 51 * n ∧ j < (k + 1)) ∨ (82 + 51 * n ≤ a ∧ a < 82 + 51 * n + 4 * (k + 1))) (fun a j => by (try dsimp only); omega) ?_
      refine sm_Gn (by omega) (by omega) (by omega) (ih (k + 1) (by omega))
  refine sm_Gi (P' := fun a j => (a = 0 ∧ j < 8) ∨ (1 ≤ a ∧ a < 71) ∨ (a = 71 ∧ j < n) ∨ (73 ≤ a ∧ a < 79 + 51 * n) ∨ (a = 79 + 51 * n ∧ 1 ≤ j ∧ j < 3) ∨ (a = 80 + 51 * n ∧ j < 0) ∨ (a = 81 + 51 * n ∧ j < 0) ∨ (82 + 51 * n ≤ a ∧ a < 82 + 51 * n + 4 * 0)) (fun a j => by (try dsimp only); omega) ?_
  exact sm_Gn (by omega) (by omega) (by omega) (loop 12 0 (by omega))

def nXi (Z : sm_X) (n : Nat) : Prop := gal Z ∧ Z 0 9 = 4294967295 ∧ (∀ k, k < n → Z (79 + 51 * k) 0 = k + 1 ∧ Z (79 + 51 * k) 3 = 1) ∧ ∀ a j, a ≠ 2 → a ≠ 3 → ¬ (a = 0 ∧ j = 9) → ¬ (79 ≤ a ∧ a < 79 + 51 * n ∧ (a - 79) % 51 = 0 ∧ (j = 0 ∨ j = 3)) → Z a j = 0
theorem nXi_s {X : sm_X} {n : Nat} (h : nXi X n) : nXi (sm_up (sm_up (sm_up X (79 + 51 * n) 3 1) (79 + 51 * n) 4 0) (79 + 51 * n) 0 (n + 1)) (n + 1) := by
  obtain ⟨h1, h2, h3, h4⟩ := h
  have off : ∀ a j, a ≠ 79 + 51 * n → sm_up (sm_up (sm_up X (79 + 51 * n) 3 1) (79 + 51 * n) 4 0) (79 + 51 * n) 0 (n + 1) a j = X a j := fun a j ha => by rw [sm_up_x (Or.inl ha), sm_up_x (Or.inl ha), sm_up_x (Or.inl ha)]
  refine ⟨⟨fun k hk => by rw [off _ _ (by omega)]; exact h1.1 k hk, fun a ha => by rw [off _ _ (by omega)]; exact h1.2 a ha⟩, by rw [off _ _ (by omega)]; exact h2, fun k hk => ?_, fun a j q1 q2 q3 q4 => ?_⟩
  · by_cases e : k = n
    · subst e
      exact ⟨sm_up_s, by rw [sm_up_n (by decide), sm_up_n (by decide), sm_up_s]⟩
    · rw [off _ _ (by omega), off _ _ (by omega)]
      exact h3 k (by omega)
  · by_cases e : a = 79 + 51 * n
    · subst e
      rw [sm_up_n (by omega)]
      by_cases e4 : j = 4
      · subst e4; exact sm_up_s
      · rw [sm_up_n e4, sm_up_n (by omega)]
        exact h4 _ _ (by omega) (by omega) (by omega) (by omega)
    · rw [off _ _ e]
      exact h4 a j q1 q2 q3 (by omega)
theorem nXi_0 {X : sm_X} (hg : gal X) (h : ∀ a j, a ≠ 2 → a ≠ 3 → X a j = 0) : nXi (sm_up (sm_up X 0 8 0) 0 9 4294967295) 0 := by
  have off : ∀ a j, a ≠ 0 → sm_up (sm_up X 0 8 0) 0 9 4294967295 a j = X a j := fun a j ha => by rw [sm_up_x (Or.inl ha), sm_up_x (Or.inl ha)]
  refine ⟨⟨fun k hk => by rw [off _ _ (by omega)]; exact hg.1 k hk, fun a ha => by rw [off _ _ (by omega)]; exact hg.2 a ha⟩, sm_up_s, fun k hk => by omega, fun a j q1 q2 q3 q4 => ?_⟩
  by_cases e : a = 0
  · subst e
    rw [sm_up_n (by omega)]
    by_cases e8 : j = 8
    · subst e8; exact sm_up_s
    · rw [sm_up_n e8]; exact h 0 j (by omega) (by omega)
  · rw [off a j e]; exact h a j q1 q2

set_option maxHeartbeats 4000000 in
set_option maxRecDepth 100000 in
theorem c_S_init (l : Launch) (Ω : sm_Ω) {X : sm_X} (hX : ∀ a j, X a j = 0) : sm_con l Ω y_S_init b_S_init 2 3 (1) 702 21331 [.ref (Ω.2.1 + 0)] X (yc (fun a j => a < 0)) (fun v X2 Y2 => v = none ∧ nXi X2 12 ∧ Y2 = yc (fun a j => a < 703)) := by
  refine sm_introK (own := RX6) (L := [some (.ref (Ω.2.1 + 0)), none]) (by decide) rfl (by simp [Value.category]) (Nat.le_of_ble_eq_true rfl) rfl ?_
  intro Γ C I hz hO hnm
  have hr1 : (sm_rm Γ).cells = 702 := by rw [I.2.1]
  have hr2 : (sm_rm Γ).slots = 21331 := by rw [I.2.1]
  refine sg_aln (pc := 0) C d_S_init_0 rfl ?_
  refine sg_oinit (pc := 1) C ol_S_3 oi_in oi_code rfl (by rw [I.2.1]; exact Nat.le_of_ble_eq_true rfl) (by rw [I.2.1]; exact Nat.le_of_ble_eq_true rfl) d_S_init_1 ?_
  refine sg_aln (pc := 4) C d_S_init_4 rfl ?_
  refine sg_cewo (pc := 5) C (by omega) nw_S_9 rfl (fun j => hX _ j) (fun j => by (try dsimp only); omega) (by omega) (by omega) d_S_init_5 ?_
  refine sm_Gn (M' := 2) (cs' := 1) (sl' := 2) (by omega) (by omega) (by omega) ?_
  refine sg_dup (pc := 8) C d_S_init_8 rfl ?_
  refine sm_callI (pc := 9) (As := []) C I (by omega) hO (c_G_init l Ω hX) cw_S_11 rfl iw_G_init rfl (by decide) ⟨by omega, by omega⟩ rfl (Nat.le_of_ble_eq_true rfl) d_S_init_9 (fun v X1 Y1 hp => ?_)
  obtain ⟨rfl, hg, hX1, rfl⟩ := hp
  refine sm_dn ?_
  refine sm_Gn (M' := 4) (cs' := 3) (sl' := 513) (by omega) (by omega) (by omega) ?_
  refine sg_putFr (pc := 12) C hnm pF_S_12 (by omega) rfl rfl rfl rfl (P' := fun a j => (a = 0 ∧ j < 1) ∨ (1 ≤ a ∧ a < 4)) rfl (fun a j => by (try dsimp only); omega) d_S_init_12 ?_
  refine sg_aln (pc := 15) C d_S_init_15 rfl ?_
  refine sg_cewo (pc := 16) C (by omega) nw_S_16 rfl (fun j => hX1 _ j (by omega) (by omega)) (fun j => by (try dsimp only); omega) (by omega) (by omega) d_S_init_16 ?_
  refine sm_Gn (M' := 5) (cs' := 4) (sl' := 515) (by omega) (by omega) (by omega) ?_
  refine sg_dup (pc := 19) C d_S_init_19 rfl ?_
  refine sm_callIN (pc := 20) (As := []) (na := 0) C I (by omega) hO hO.1 (c_M_init l Ω (fun a j ha => hX1 a j (by omega) (by omega))) kc_M_init ki_M_init ⟨by decide, by decide, by decide +kernel⟩ (by decide) rfl iw_M_init rfl (by decide) ⟨by omega, by omega⟩ rfl (Nat.le_of_ble_eq_true rfl) d_S_init_20 (sm_det_v ?_)
  refine sm_Gn (M' := 71) (cs' := 70) (sl' := 1096) (by omega) (by omega) (by omega) ?_
  refine sg_putFr (pc := 23) C hnm pF_S_19 (by omega) rfl rfl rfl rfl (P' := fun a j => (a = 0 ∧ j < 2) ∨ (1 ≤ a ∧ a < 71)) rfl (fun a j => by (try dsimp only); omega) d_S_init_23 ?_
  refine sg_aln (pc := 26) C d_S_init_26 rfl ?_
  refine sg_bi (pc := 27) (v := 12) C d_S_init_27 (by decide) ?_
  refine sg_cewq (pc := 29) (n := 12) (t := 4) C (by omega) (by decide) rfl (by decide) rfl (fun j => by (try dsimp only); omega) cl_S_23 hO.2.2.2.2.2.1 (by omega) (by omega) d_S_init_29 ?_
  refine sm_Gn (M' := 72) (cs' := 71) (sl' := 1108) (by omega) (by omega) (by omega) ?_
  refine sg_putFr (pc := 32) C hnm pF_S_25 (by omega) rfl rfl rfl rfl (P' := fun a j => (a = 0 ∧ j < 3) ∨ (1 ≤ a ∧ a < 71)) rfl (fun a j => by (try dsimp only); omega) d_S_init_32 ?_
  refine sg_aln (pc := 35) C d_S_init_35 rfl ?_
  refine sg_bi (pc := 36) (v := 12) C d_S_init_36 (by decide) ?_
  refine sg_cewq (pc := 38) (n := 12) (t := 5) C (by omega) (by decide) rfl (by decide) rfl (fun j => by (try dsimp only); omega) cl_S_29 hO.2.2.2.2.1 (by omega) (by omega) d_S_init_38 ?_
  refine sm_Gn (M' := 73) (cs' := 72) (sl' := 1120) (by omega) (by omega) (by omega) ?_
  refine sg_putFr (pc := 41) C hnm pF_S_31 (by omega) rfl rfl rfl rfl (P' := fun a j => (a = 0 ∧ j < 4) ∨ (1 ≤ a ∧ a < 71)) rfl (fun a j => by (try dsimp only); omega) d_S_init_41 ?_
  refine sg_aln (pc := 44) C d_S_init_44 rfl ?_
  refine sg_cewo (pc := 45) C (by omega) nw_S_35 rfl (fun j => hX1 _ j (by omega) (by omega)) (fun j => by (try dsimp only); omega) (by omega) (by omega) d_S_init_45 ?_
  refine sm_Gn (M' := 74) (cs' := 73) (sl' := 1123) (by omega) (by omega) (by omega) ?_
  refine sg_dup (pc := 48) C d_S_init_48 rfl ?_
  refine sm_callIN (pc := 49) (As := []) (na := 0) C I (by omega) hO hO.2.1 (c_T_init l Ω (fun a j ha => hX1 a j (by omega) (by omega))) kc_T_init ki_T_init ⟨by decide, by decide, by decide +kernel⟩ (by decide) rfl iw_T_init rfl (by decide) ⟨by omega, by omega⟩ rfl (Nat.le_of_ble_eq_true rfl) d_S_init_49 (sm_det_v ?_)
  refine sm_Gn (M' := 76) (cs' := 75) (sl' := 1139) (by omega) (by omega) (by omega) ?_
  refine sg_putFr (pc := 52) C hnm pF_S_38 (by omega) rfl rfl rfl rfl (P' := fun a j => (a = 0 ∧ j < 5) ∨ (1 ≤ a ∧ a < 71) ∨ (73 ≤ a ∧ a < 76)) rfl (fun a j => by (try dsimp only); omega) d_S_init_52 ?_
  refine sg_aln (pc := 55) C d_S_init_55 rfl ?_
  refine sg_bi (pc := 56) (v := 8) C d_S_init_56 (by decide) ?_
  refine sg_cewi (pc := 58) (n := 8) C (by omega) (by decide) rfl (fun j => hX1 _ j (by omega) (by omega)) ha_int (by omega) (by omega) d_S_init_58 ?_
  refine sm_Gn (M' := 77) (cs' := 76) (sl' := 1147) (by omega) (by omega) (by omega) ?_
  refine sg_putFr (pc := 60) C hnm pF_S_42 (by omega) rfl rfl rfl rfl (P' := fun a j => (a = 0 ∧ j < 6) ∨ (1 ≤ a ∧ a < 71) ∨ (73 ≤ a ∧ a < 76)) rfl (fun a j => by (try dsimp only); omega) d_S_init_60 ?_
  refine sg_aln (pc := 63) C d_S_init_63 rfl ?_
  refine sg_si (pc := 64) (v := 240) C d_S_init_64 (by decide) ?_
  refine sg_cewi (pc := 67) (n := 240) C (by omega) (by decide) rfl (fun j => hX1 _ j (by omega) (by omega)) ha_int (by omega) (by omega) d_S_init_67 ?_
  refine sm_Gn (M' := 78) (cs' := 77) (sl' := 1387) (by omega) (by omega) (by omega) ?_
  refine sg_putFr (pc := 69) C hnm pF_S_46 (by omega) rfl rfl rfl rfl (P' := fun a j => (a = 0 ∧ j < 7) ∨ (1 ≤ a ∧ a < 71) ∨ (73 ≤ a ∧ a < 76)) rfl (fun a j => by (try dsimp only); omega) d_S_init_69 ?_
  refine sg_aln (pc := 72) C d_S_init_72 rfl ?_
  refine sg_si (pc := 73) (v := 240) C d_S_init_73 (by decide) ?_
  refine sg_cewi (pc := 76) (n := 240) C (by omega) (by decide) rfl (fun j => hX1 _ j (by omega) (by omega)) ha_int (by omega) (by omega) d_S_init_76 ?_
  refine sm_Gn (M' := 79) (cs' := 78) (sl' := 1627) (by omega) (by omega) (by omega) ?_
  refine sg_putFr (pc := 78) C hnm pF_S_49 (by omega) rfl rfl rfl rfl (P' := fun a j => (a = 0 ∧ j < 8) ∨ (1 ≤ a ∧ a < 71) ∨ (73 ≤ a ∧ a < 76)) rfl (fun a j => by (try dsimp only); omega) d_S_init_78 ?_
  refine sg_aln (pc := 81) C d_S_init_81 rfl ?_
  refine sg_ic (pc := 82) (v := 0) C d_S_init_82 (by decide) ?_
  refine sg_puti (pc := 83) C pw_S_52 (by omega) rfl rfl rfl rfl d_S_init_83 ?_
  refine sg_aln (pc := 86) C d_S_init_86 rfl ?_
  refine sg_icm (pc := 87) (v := -1) C d_S_init_87 (by decide) ?_
  refine sg_top C (show (-1 : Int32) = nI 4294967295 from by decide) ?_
  refine sg_puti (pc := 88) C pw_S_56 (by omega) rfl rfl rfl rfl d_S_init_88 ?_
  refine sg_ic (pc := 91) (v := 0) C d_S_init_91 (by decide) ?_
  refine sg_is1 (pc := 92) C d_S_init_92 ?_
  have loop : ∀ t n, n + t = 12 → ∀ Z, nXi Z n → sm_G Γ Ω (79 + 51 * n) (78 + 51 * n) (1627 + 1637 * n) 93 [some (.ref (Ω.2.1 + 0)), some (.int (nI n))] [] Z (yc (fun a j => (a = 0 ∧ j < 8) ∨ (1 ≤ a ∧ a < 71) ∨ (a = 71 ∧ j < n) ∨ (73 ≤ a ∧ a < 79 + 51 * n))) := by
    intro t
    induction t with
    | zero =>
      intro n hn Z hZ
      refine sg_iln (pc := 93) C d_S_init_93 rfl ?_
      refine sg_bi (pc := 94) (v := 12) C d_S_init_94 (by decide) ?_
      refine sg_icge (pc := 96) (tgt := 121) C d_S_init_96 (by decide) (by omega) (by omega) (fun h96 => ?_) (fun h96 => absurd h96 (by omega))
      have en : n = 12 := by omega
      subst en
      refine sm_Gi (P' := fun a j => (a = 0 ∧ j < 8) ∨ (1 ≤ a ∧ a < 71) ∨ (a = 71 ∧ j < 12) ∨ (a = 72 ∧ j < 0) ∨ (73 ≤ a ∧ a < 691)) (fun a j => by (try dsimp only); omega) ?_
      refine sm_Gn (M' := 691) (cs' := 690) (sl' := 21271) (by omega) (by omega) (by omega) ?_
      have hZ1 : ∀ a j, 691 ≤ a → Z a j = 0 := fun a j ha => hZ.2.2.2 a j (by omega) (by omega) (by omega) (by omega)
      refine sg_ic (pc := 121) (v := 0) C d_S_init_121 (by decide) ?_
      refine sg_is1 (pc := 122) C d_S_init_122 ?_
      have loop2 : ∀ t o, o + t = 12 → sm_G Γ Ω (691 + o) (690 + o) (21271 + 5 * o) 123 [some (.ref (Ω.2.1 + 0)), some (.int (nI o))] [] Z (yc (fun a j => (a = 0 ∧ j < 8) ∨ (1 ≤ a ∧ a < 71) ∨ (a = 71 ∧ j < 12) ∨ (a = 72 ∧ j < o) ∨ (73 ≤ a ∧ a < 691))) := by
        intro t
        induction t with
        | zero =>
          intro o ho
          refine sg_iln (pc := 123) C d_S_init_123 rfl ?_
          refine sg_bi (pc := 124) (v := 12) C d_S_init_124 (by decide) ?_
          refine sg_icge (pc := 126) (tgt := 148) C d_S_init_126 (by decide) (by omega) (by omega) (fun h126 => ?_) (fun h126 => absurd h126 (by omega))
          have eo : o = 12 := by omega
          subst eo
          refine sm_Gy (P' := fun a j => a < 703) (fun a j h1 h2 => ?_) ?_
          · rcases (by (try dsimp only at h2); omega : (a = 0 ∧ 8 ≤ j) ∨ (a = 71 ∧ 12 ≤ j) ∨ (a = 72 ∧ 12 ≤ j) ∨ (691 ≤ a ∧ a < 703)) with ⟨rfl, h3⟩ | ⟨rfl, h3⟩ | ⟨rfl, h3⟩ | h3
            · exact Or.inl (rf_n3 h3)
            · exact Or.inl (rf_n5.2 h3).1
            · exact Or.inl (rf_n5.2 h3).2
            · exact Or.inl (rf_n1 (by omega))
          refine sm_Gn (M' := 1 + 702) (cs' := 702) (sl' := 21331) (by omega) (by omega) (by omega) ?_
          exact sg_vret (pc := 148) C I rfl d_S_init_148 ⟨rfl, hZ, rfl⟩
        | succ t ih =>
          intro o ho
          refine sg_iln (pc := 123) C d_S_init_123 rfl ?_
          refine sg_bi (pc := 124) (v := 12) C d_S_init_124 (by decide) ?_
          refine sg_icge (pc := 126) (tgt := 148) C d_S_init_126 (by decide) (by omega) (by omega) (fun h126 => absurd h126 (by omega)) (fun h126 => ?_)
          refine sg_aln (pc := 129) C d_S_init_129 rfl ?_
          refine sg_getr (pc := 130) C fw_S_31 (by omega) rfl rfl (yc_r rfl (by (try dsimp only); omega)) d_S_init_130 ?_
          refine sg_iln (pc := 133) C d_S_init_133 rfl ?_
          refine sg_cewo (pc := 134) C (by omega) nw_S_29 (sh_I (by omega)) (fun j => hZ1 _ j (by omega)) (fun j => by (try dsimp only); omega) (by omega) (by omega) d_S_init_134 ?_
          refine sm_Gn (M' := 692 + o) (cs' := 691 + o) (sl' := 21276 + 5 * o) (by omega) (by omega) (by omega) ?_
          refine sg_dup (pc := 137) C d_S_init_137 rfl ?_
          refine sm_callIN (pc := 138) (As := []) (na := 0) C I (by omega) hO hO.2.2.1 (c_I_init l Ω (by omega) (fun a j ha => hZ1 a j (by omega))) kc_I_init ki_I_init ⟨by decide, by decide, by decide +kernel⟩ (by decide) rfl iw_I_init rfl (by decide) ⟨by omega, by omega⟩ rfl (Nat.le_of_ble_eq_true rfl) d_S_init_138 (sm_det_v ?_)
          refine sm_Gn (M' := 692 + o) (cs' := 691 + o) (sl' := 21276 + 5 * o) (by omega) (by omega) (by omega) ?_
          refine sg_aasty (pc := 141) (n := 12) (t := 5) C (by omega) rfl (by decide) rfl (by omega) (sh_I (by omega)) rfl (by omega) (by decide) (P' := fun a j => (a = 0 ∧ j < 8) ∨ (1 ≤ a ∧ a < 71) ∨ (a = 71 ∧ j < 12) ∨ (a = 72 ∧ j < o + 1) ∨ (73 ≤ a ∧ a < 691)) (rf_items (by omega)) (fun a j => by (try dsimp only); omega) d_S_init_141 ?_
          refine sg_inc1 (pc := 142) (n := 1) C d_S_init_142 (by decide) ?_
          refine sg_goto (pc := 145) (tgt := 123) C d_S_init_145 (by decide) ?_
          refine sm_Gi (P' := fun a j => (a = 0 ∧ j < 8) ∨ (1 ≤ a ∧ a < 71) ∨ (a = 71 ∧ j < 12) ∨ (a = 72 ∧ j < o + 1) ∨ (73 ≤ a ∧ a < 691)) (fun a j => by (try dsimp only); omega) ?_
          refine sm_Gn (by omega) (by omega) (by omega) (ih (o + 1) (by omega))
      refine sm_Gi (P' := fun a j => (a = 0 ∧ j < 8) ∨ (1 ≤ a ∧ a < 71) ∨ (a = 71 ∧ j < 12) ∨ (a = 72 ∧ j < 0) ∨ (73 ≤ a ∧ a < 691)) (fun a j => by (try dsimp only); omega) ?_
      exact sm_Gn (by omega) (by omega) (by omega) (loop2 12 0 (by omega))
    | succ t ih =>
      intro n hn Z hZ
      have hZ0 : ∀ a j, 79 + 51 * n ≤ a → Z a j = 0 := fun a j ha => hZ.2.2.2 a j (by omega) (by omega) (by omega) (by omega)
      refine sg_iln (pc := 93) C d_S_init_93 rfl ?_
      refine sg_bi (pc := 94) (v := 12) C d_S_init_94 (by decide) ?_
      refine sg_icge (pc := 96) (tgt := 121) C d_S_init_96 (by decide) (by omega) (by omega) (fun h96 => absurd h96 (by omega)) (fun h96 => ?_)
      refine sg_aln (pc := 99) C d_S_init_99 rfl ?_
      refine sg_getr (pc := 100) C fw_S_25 (by omega) rfl rfl (yc_r rfl (by (try dsimp only); omega)) d_S_init_100 ?_
      refine sg_iln (pc := 103) C d_S_init_103 rfl ?_
      refine sg_cewo (pc := 104) C (by omega) nw_S_23 (sh_N (by omega)) (fun j => hZ0 _ j (by omega)) (fun j => by (try dsimp only); omega) (by omega) (by omega) d_S_init_104 ?_
      refine sm_Gn (M' := 80 + 51 * n) (cs' := 79 + 51 * n) (sl' := 1632 + 1637 * n) (by omega) (by omega) (by omega) ?_
      refine sg_dup (pc := 107) C d_S_init_107 rfl ?_
      refine sg_iln (pc := 108) C d_S_init_108 rfl ?_
      refine sg_ic (pc := 109) (v := 1) C d_S_init_109 (by decide) ?_
      refine sg_add (pc := 110) C d_S_init_110 ?_
      refine sm_callI (pc := 111) (As := [.int (nI (n + 1))]) C I (by omega) hO (c_N_init l Ω (by omega) hZ0) cw_S_59 rfl iw_N_init rfl (by decide) ⟨by omega, by omega⟩ rfl (Nat.le_of_ble_eq_true rfl) d_S_init_111 (sm_det_v ?_)
      refine sm_Gn (M' := 130 + 51 * n) (cs' := 129 + 51 * n) (sl' := 3264 + 1637 * n) (by omega) (by omega) (by omega) ?_
      refine sg_aasty (pc := 114) (n := 12) (t := 4) C (by omega) rfl (by decide) rfl (by omega) (sh_N (by omega)) rfl (by omega) (by decide) (P' := fun a j => (a = 0 ∧ j < 8) ∨ (1 ≤ a ∧ a < 71) ∨ (a = 71 ∧ j < n + 1) ∨ (73 ≤ a ∧ a < 130 + 51 * n)) (rf_nodes (by omega)) (fun a j => by (try dsimp only); omega) d_S_init_114 ?_
      refine sg_inc1 (pc := 115) (n := 1) C d_S_init_115 (by decide) ?_
      refine sg_goto (pc := 118) (tgt := 93) C d_S_init_118 (by decide) ?_
      refine sm_Gi (P' := fun a j => (a = 0 ∧ j < 8) ∨ (1 ≤ a ∧ a < 71) ∨ (a = 71 ∧ j < n + 1) ∨ (73 ≤ a ∧ a < 79 + 51 * (n + 1))) (fun a j => by (try dsimp only); omega) ?_
      refine sm_Gn (by omega) (by omega) (by omega) (ih (n + 1) (by omega) _ (nXi_s hZ))
  refine sm_Gy (P' := fun a j => (a = 0 ∧ j < 8) ∨ (1 ≤ a ∧ a < 71) ∨ (a = 71 ∧ j < 0) ∨ (73 ≤ a ∧ a < 79 + 51 * 0)) (fun a j h1 h2 => Or.inl (rf_n1 (by (try dsimp only at h2); omega))) ?_
  exact sm_Gn (by omega) (by omega) (by omega) (loop 12 0 (by omega) _ (nXi_0 hg hX1))

set_option maxHeartbeats 4000000 in
set_option maxRecDepth 100000 in
theorem c_R_init (l : Launch) (Ω : sm_Ω) {X : sm_X} (hX : ∀ a j, 703 ≤ a → X a j = 0) : sm_con l Ω y_R_init b_R_init 1 1 (704) 18 70348 [.ref (Ω.2.1 + 703)] X (yc (fun a j => a < 703)) (sm_det none (sm_up X 703 4 4294967295) (yc (fun a j => a < 722))) := by
  refine sm_introK (own := RX7) (L := [some (.ref (Ω.2.1 + 703))]) (by decide) rfl (by simp [Value.category]) (Nat.le_of_ble_eq_true rfl) rfl ?_
  intro Γ C I hz hO hnm
  have hr1 : (sm_rm Γ).cells = 18 := by rw [I.2.1]
  have hr2 : (sm_rm Γ).slots = 70348 := by rw [I.2.1]
  refine sg_aln (pc := 0) C d_R_init_0 rfl ?_
  refine sg_oinit (pc := 1) C ol_R_1 oi_in oi_code rfl (by rw [I.2.1]; exact Nat.le_of_ble_eq_true rfl) (by rw [I.2.1]; exact Nat.le_of_ble_eq_true rfl) d_R_init_1 ?_
  refine sg_aln (pc := 4) C d_R_init_4 rfl ?_
  refine sg_si (pc := 5) (v := 240) C d_R_init_5 (by decide) ?_
  refine sg_cewi (pc := 8) (n := 240) C (by omega) (by decide) rfl (fun j => hX _ j (by omega)) ha_int (by omega) (by omega) d_R_init_8 ?_
  refine sm_Gn (M' := 705) (cs' := 1) (sl' := 240) (by omega) (by omega) (by omega) ?_
  refine sg_putFr (pc := 10) C hnm pF_R_7 (by omega) rfl rfl rfl rfl (P' := fun a j => a < 703 ∨ (a = 703 ∧ (j = 1))) rfl (fun a j => by (try dsimp only); omega) d_R_init_10 ?_
  refine sg_aln (pc := 13) C d_R_init_13 rfl ?_
  refine sg_si (pc := 14) (v := 240) C d_R_init_14 (by decide) ?_
  refine sg_cewi (pc := 17) (n := 240) C (by omega) (by decide) rfl (fun j => hX _ j (by omega)) ha_int (by omega) (by omega) d_R_init_17 ?_
  refine sm_Gn (M' := 706) (cs' := 2) (sl' := 480) (by omega) (by omega) (by omega) ?_
  refine sg_putFr (pc := 19) C hnm pF_R_13 (by omega) rfl rfl rfl rfl (P' := fun a j => a < 703 ∨ (a = 703 ∧ (j = 1 ∨ j = 3))) rfl (fun a j => by (try dsimp only); omega) d_R_init_19 ?_
  refine sg_aln (pc := 22) C d_R_init_22 rfl ?_
  refine sg_icm (pc := 23) (v := -1) C d_R_init_23 (by decide) ?_
  refine sg_top C (show (-1 : Int32) = nI 4294967295 from by decide) ?_
  refine sg_puti (pc := 24) C pw_R_16 (by omega) rfl rfl rfl rfl d_R_init_24 ?_
  have hZ : ∀ a j, 704 ≤ a → sm_up X 703 4 4294967295 a j = 0 := fun a j ha => by rw [sm_up_x (Or.inl (by omega))]; exact hX a j (by omega)
  refine sg_aln (pc := 27) C d_R_init_27 rfl ?_
  refine sg_bi (pc := 28) (v := 12) C d_R_init_28 (by decide) ?_
  refine sg_cewi (pc := 30) (n := 12) C (by omega) (by decide) rfl (fun j => hZ _ j (by omega)) ha_int (by omega) (by omega) d_R_init_30 ?_
  refine sm_Gn (M' := 707) (cs' := 3) (sl' := 492) (by omega) (by omega) (by omega) ?_
  refine sg_putFr (pc := 32) C hnm pF_R_20 (by omega) rfl rfl rfl rfl (P' := fun a j => a < 703 ∨ (a = 703 ∧ (j = 1 ∨ j = 3 ∨ (5 ≤ j ∧ j < 6)))) rfl (fun a j => by (try dsimp only); omega) d_R_init_32 ?_
  refine sg_aln (pc := 35) C d_R_init_35 rfl ?_
  refine sg_bi (pc := 36) (v := 12) C d_R_init_36 (by decide) ?_
  refine sg_cewi (pc := 38) (n := 12) C (by omega) (by decide) rfl (fun j => hZ _ j (by omega)) ha_int (by omega) (by omega) d_R_init_38 ?_
  refine sm_Gn (M' := 708) (cs' := 4) (sl' := 504) (by omega) (by omega) (by omega) ?_
  refine sg_putFr (pc := 40) C hnm pF_R_23 (by omega) rfl rfl rfl rfl (P' := fun a j => a < 703 ∨ (a = 703 ∧ (j = 1 ∨ j = 3 ∨ (5 ≤ j ∧ j < 7)))) rfl (fun a j => by (try dsimp only); omega) d_R_init_40 ?_
  refine sg_aln (pc := 43) C d_R_init_43 rfl ?_
  refine sg_bi (pc := 44) (v := 12) C d_R_init_44 (by decide) ?_
  refine sg_cewi (pc := 46) (n := 12) C (by omega) (by decide) rfl (fun j => hZ _ j (by omega)) ha_int (by omega) (by omega) d_R_init_46 ?_
  refine sm_Gn (M' := 709) (cs' := 5) (sl' := 516) (by omega) (by omega) (by omega) ?_
  refine sg_putFr (pc := 48) C hnm pF_R_26 (by omega) rfl rfl rfl rfl (P' := fun a j => a < 703 ∨ (a = 703 ∧ (j = 1 ∨ j = 3 ∨ (5 ≤ j ∧ j < 8)))) rfl (fun a j => by (try dsimp only); omega) d_R_init_48 ?_
  refine sg_aln (pc := 51) C d_R_init_51 rfl ?_
  refine sg_bi (pc := 52) (v := 12) C d_R_init_52 (by decide) ?_
  refine sg_cewi (pc := 54) (n := 12) C (by omega) (by decide) rfl (fun j => hZ _ j (by omega)) ha_int (by omega) (by omega) d_R_init_54 ?_
  refine sm_Gn (M' := 710) (cs' := 6) (sl' := 528) (by omega) (by omega) (by omega) ?_
  refine sg_putFr (pc := 56) C hnm pF_R_29 (by omega) rfl rfl rfl rfl (P' := fun a j => a < 703 ∨ (a = 703 ∧ (j = 1 ∨ j = 3 ∨ (5 ≤ j ∧ j < 9)))) rfl (fun a j => by (try dsimp only); omega) d_R_init_56 ?_
  refine sg_aln (pc := 59) C d_R_init_59 rfl ?_
  refine sg_bi (pc := 60) (v := 12) C d_R_init_60 (by decide) ?_
  refine sg_cewb (pc := 62) (n := 12) C (by omega) (by decide) rfl (fun j => hZ _ j (by omega)) ha_bool (by omega) (by omega) d_R_init_62 ?_
  refine sm_Gn (M' := 711) (cs' := 7) (sl' := 540) (by omega) (by omega) (by omega) ?_
  refine sg_putFr (pc := 64) C hnm pF_R_32 (by omega) rfl rfl rfl rfl (P' := fun a j => a < 703 ∨ (a = 703 ∧ (j = 1 ∨ j = 3 ∨ (5 ≤ j ∧ j < 10)))) rfl (fun a j => by (try dsimp only); omega) d_R_init_64 ?_
  refine sg_aln (pc := 67) C d_R_init_67 rfl ?_
  refine sg_bi (pc := 68) (v := 12) C d_R_init_68 (by decide) ?_
  refine sg_cewb (pc := 70) (n := 12) C (by omega) (by decide) rfl (fun j => hZ _ j (by omega)) ha_bool (by omega) (by omega) d_R_init_70 ?_
  refine sm_Gn (M' := 712) (cs' := 8) (sl' := 552) (by omega) (by omega) (by omega) ?_
  refine sg_putFr (pc := 72) C hnm pF_R_36 (by omega) rfl rfl rfl rfl (P' := fun a j => a < 703 ∨ (a = 703 ∧ (j = 1 ∨ j = 3 ∨ (5 ≤ j ∧ j < 11)))) rfl (fun a j => by (try dsimp only); omega) d_R_init_72 ?_
  refine sg_aln (pc := 75) C d_R_init_75 rfl ?_
  refine sg_bi (pc := 76) (v := 12) C d_R_init_76 (by decide) ?_
  refine sg_cewi (pc := 78) (n := 12) C (by omega) (by decide) rfl (fun j => hZ _ j (by omega)) ha_int (by omega) (by omega) d_R_init_78 ?_
  refine sm_Gn (M' := 713) (cs' := 9) (sl' := 564) (by omega) (by omega) (by omega) ?_
  refine sg_putFr (pc := 80) C hnm pF_R_39 (by omega) rfl rfl rfl rfl (P' := fun a j => a < 703 ∨ (a = 703 ∧ (j = 1 ∨ j = 3 ∨ (5 ≤ j ∧ j < 12)))) rfl (fun a j => by (try dsimp only); omega) d_R_init_80 ?_
  refine sg_aln (pc := 83) C d_R_init_83 rfl ?_
  refine sg_si (pc := 84) (v := 144) C d_R_init_84 (by decide) ?_
  refine sg_cewi (pc := 87) (n := 144) C (by omega) (by decide) rfl (fun j => hZ _ j (by omega)) ha_int (by omega) (by omega) d_R_init_87 ?_
  refine sm_Gn (M' := 714) (cs' := 10) (sl' := 708) (by omega) (by omega) (by omega) ?_
  refine sg_putFr (pc := 89) C hnm pF_R_42 (by omega) rfl rfl rfl rfl (P' := fun a j => a < 703 ∨ (a = 703 ∧ (j = 1 ∨ j = 3 ∨ (5 ≤ j ∧ j < 13)))) rfl (fun a j => by (try dsimp only); omega) d_R_init_89 ?_
  refine sg_aln (pc := 92) C d_R_init_92 rfl ?_
  refine sg_si (pc := 93) (v := 144) C d_R_init_93 (by decide) ?_
  refine sg_cewi (pc := 96) (n := 144) C (by omega) (by decide) rfl (fun j => hZ _ j (by omega)) ha_int (by omega) (by omega) d_R_init_96 ?_
  refine sm_Gn (M' := 715) (cs' := 11) (sl' := 852) (by omega) (by omega) (by omega) ?_
  refine sg_putFr (pc := 98) C hnm pF_R_45 (by omega) rfl rfl rfl rfl (P' := fun a j => a < 703 ∨ (a = 703 ∧ (j = 1 ∨ j = 3 ∨ (5 ≤ j ∧ j < 14)))) rfl (fun a j => by (try dsimp only); omega) d_R_init_98 ?_
  refine sg_aln (pc := 101) C d_R_init_101 rfl ?_
  refine sg_ldc (pc := 102) C ld_R_48 d_R_init_102 ?_
  refine sg_cewi (pc := 104) (n := 34560) C (by omega) (by decide) rfl (fun j => hZ _ j (by omega)) ha_int (by omega) (by omega) d_R_init_104 ?_
  refine sm_Gn (M' := 716) (cs' := 12) (sl' := 35412) (by omega) (by omega) (by omega) ?_
  refine sg_putFr (pc := 106) C hnm pF_R_49 (by omega) rfl rfl rfl rfl (P' := fun a j => a < 703 ∨ (a = 703 ∧ (j = 1 ∨ j = 3 ∨ (5 ≤ j ∧ j < 15)))) rfl (fun a j => by (try dsimp only); omega) d_R_init_106 ?_
  refine sg_aln (pc := 109) C d_R_init_109 rfl ?_
  refine sg_si (pc := 110) (v := 144) C d_R_init_110 (by decide) ?_
  refine sg_cewi (pc := 113) (n := 144) C (by omega) (by decide) rfl (fun j => hZ _ j (by omega)) ha_int (by omega) (by omega) d_R_init_113 ?_
  refine sm_Gn (M' := 717) (cs' := 13) (sl' := 35556) (by omega) (by omega) (by omega) ?_
  refine sg_putFr (pc := 115) C hnm pF_R_52 (by omega) rfl rfl rfl rfl (P' := fun a j => a < 703 ∨ (a = 703 ∧ (j = 1 ∨ j = 3 ∨ (5 ≤ j ∧ j < 16)))) rfl (fun a j => by (try dsimp only); omega) d_R_init_115 ?_
  refine sg_aln (pc := 118) C d_R_init_118 rfl ?_
  refine sg_si (pc := 119) (v := 144) C d_R_init_119 (by decide) ?_
  refine sg_cewi (pc := 122) (n := 144) C (by omega) (by decide) rfl (fun j => hZ _ j (by omega)) ha_int (by omega) (by omega) d_R_init_122 ?_
  refine sm_Gn (M' := 718) (cs' := 14) (sl' := 35700) (by omega) (by omega) (by omega) ?_
  refine sg_putFr (pc := 124) C hnm pF_R_55 (by omega) rfl rfl rfl rfl (P' := fun a j => a < 703 ∨ (a = 703 ∧ (j = 1 ∨ j = 3 ∨ (5 ≤ j ∧ j < 17)))) rfl (fun a j => by (try dsimp only); omega) d_R_init_124 ?_
  refine sg_aln (pc := 127) C d_R_init_127 rfl ?_
  refine sg_ldc (pc := 128) C ld_R_48 d_R_init_128 ?_
  refine sg_cewi (pc := 130) (n := 34560) C (by omega) (by decide) rfl (fun j => hZ _ j (by omega)) ha_int (by omega) (by omega) d_R_init_130 ?_
  refine sm_Gn (M' := 719) (cs' := 15) (sl' := 70260) (by omega) (by omega) (by omega) ?_
  refine sg_putFr (pc := 132) C hnm pF_R_58 (by omega) rfl rfl rfl rfl (P' := fun a j => a < 703 ∨ (a = 703 ∧ (j = 1 ∨ j = 3 ∨ (5 ≤ j ∧ j < 18)))) rfl (fun a j => by (try dsimp only); omega) d_R_init_132 ?_
  refine sg_aln (pc := 135) C d_R_init_135 rfl ?_
  refine sg_bi (pc := 136) (v := 64) C d_R_init_136 (by decide) ?_
  refine sg_cewi (pc := 138) (n := 64) C (by omega) (by decide) rfl (fun j => hZ _ j (by omega)) ha_int (by omega) (by omega) d_R_init_138 ?_
  refine sm_Gn (M' := 720) (cs' := 16) (sl' := 70324) (by omega) (by omega) (by omega) ?_
  refine sg_putFr (pc := 140) C hnm pF_R_61 (by omega) rfl rfl rfl rfl (P' := fun a j => a < 703 ∨ (a = 703 ∧ (j = 1 ∨ j = 3 ∨ (5 ≤ j ∧ j < 19)))) rfl (fun a j => by (try dsimp only); omega) d_R_init_140 ?_
  refine sg_aln (pc := 143) C d_R_init_143 rfl ?_
  refine sg_bi (pc := 144) (v := 12) C d_R_init_144 (by decide) ?_
  refine sg_cewi (pc := 146) (n := 12) C (by omega) (by decide) rfl (fun j => hZ _ j (by omega)) ha_int (by omega) (by omega) d_R_init_146 ?_
  refine sm_Gn (M' := 721) (cs' := 17) (sl' := 70336) (by omega) (by omega) (by omega) ?_
  refine sg_putFr (pc := 148) C hnm pF_R_64 (by omega) rfl rfl rfl rfl (P' := fun a j => a < 703 ∨ (a = 703 ∧ (j = 1 ∨ j = 3 ∨ (5 ≤ j ∧ j < 20)))) rfl (fun a j => by (try dsimp only); omega) d_R_init_148 ?_
  refine sg_aln (pc := 151) C d_R_init_151 rfl ?_
  refine sg_bi (pc := 152) (v := 12) C d_R_init_152 (by decide) ?_
  refine sg_cewb (pc := 154) (n := 12) C (by omega) (by decide) rfl (fun j => hZ _ j (by omega)) ha_bool (by omega) (by omega) d_R_init_154 ?_
  refine sm_Gn (M' := 722) (cs' := 18) (sl' := 70348) (by omega) (by omega) (by omega) ?_
  refine sg_putFr (pc := 156) C hnm pF_R_67 (by omega) rfl rfl rfl rfl (P' := fun a j => a < 703 ∨ (a = 703 ∧ (j = 1 ∨ j = 3 ∨ (5 ≤ j ∧ j < 21)))) rfl (fun a j => by (try dsimp only); omega) d_R_init_156 ?_
  refine sm_Gy (P' := fun a j => a < 722) (fun a j h1 h2 => ?_) ?_
  · rcases (by (try dsimp only at h2); omega : (a = 703 ∧ (j = 0 ∨ j = 2 ∨ j = 4 ∨ 21 ≤ j)) ∨ (703 < a ∧ a < 722)) with ⟨rfl, h3⟩ | h3
    · exact Or.inl (rf_nR h3)
    · exact Or.inl (rf_n1 (by omega))
  refine sm_Gn (M' := 704 + 18) (cs' := 18) (sl' := 70348) (by omega) (by omega) (by omega) ?_
  exact sg_vret (pc := 159) C I rfl d_R_init_159 ⟨rfl, rfl, rfl⟩
