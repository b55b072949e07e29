/-! Rebuilding one share -/
theorem ac_l : Cond.methodLink RX6 242 arraycopyName ∈ sm_ws := sm_inT 547 (by decide +kernel) (by decide +kernel)
theorem ac_n : Cond.native arraycopyName ∈ sm_ws := sm_inT 549 (by decide +kernel) (by decide +kernel)
theorem ac_s : Cond.static arraycopyName ∈ sm_ws := sm_inT 548 (by decide +kernel) (by decide +kernel)
theorem ac_i : Cond.initialized "java/lang/System" ∈ sm_ws := sm_inT 18 (by decide +kernel) (by decide +kernel)
theorem ac_w : nativeFrameWords "java/lang/System" "arraycopy" 5 + 11 ≤ 30 := by decide +kernel
section
variable {Γ : sm_Γ} {Ω : sm_Ω} {cc : ByteArray} {nL : Nat} {w0 : Cond} {M cs sl pc : Nat} {L : List (Option Value)} {st : List Value} {X : sm_X} {Y : sm_R} {l : Launch} {d0 mc0 ms0 : Nat} {Pq : Prop}
theorem sg_acopy (C : sm_C Γ Ω cc RX6 nL w0) (I : sm_la Γ = l ∧ sm_rm Γ = sm_room d0 mc0 ms0 ∧ Pq) {i j n0 n1 sp dp n : Nat} (hi : i < M) (hsi : sm_sh i = .inr (n0, 0)) (hj : j < M) (hsj : sm_sh j = .inr (n1, 0)) (h0 : sp + n ≤ n0) (h1 : dp + n ≤ n1) (hn0 : n0 < 2 ^ 31) (hn1 : n1 < 2 ^ 31)
    (hd0 : 2 ≤ d0) (hLn : L.length = nL) (hrest : (st.map fun v => v.category).sum ≤ 8) (hd : decode cc pc = .ok (.invokestatic 242, 3)) (kk : sm_G Γ Ω M cs sl (pc + 3) L st (sm_uf X j (fun k => if dp ≤ k ∧ k < dp + n then X i (sp + (k - dp)) else X j k)) Y) :
    sm_G Γ Ω M cs sl pc L (.int (nI n) :: .int (nI dp) :: .ref (Ω.2.1 + j) :: .int (nI sp) :: .ref (Ω.2.1 + i) :: st) X Y := by
  intro ls H locs hL hP hS
  obtain ⟨-, h2, -⟩ := I
  have hts := C.1.2.2.2.2
  refine va_copyi C.1.1 C.1.2.1 (C.1.2.2.1.trans (hL.1.1.trans hLn).symm) C.1.2.2.2.1 (hts _ (List.mem_cons_of_mem _ ac_l)) (hts _ (List.mem_cons_of_mem _ ac_n)) (hts _ (List.mem_cons_of_mem _ ac_s)) (hts _ (List.mem_cons_of_mem _ ac_i)) C.2.1 hP sm_D hS i j 0 0
    (c0 := Ω.2.2.1 0) (c1 := Ω.2.2.1 0) (n0 := n0) (n1 := n1) (f := fun k => nI (X i k)) (g := fun k => nI (X j k)) (ty := .int) (by rw [sm_at hi, hsi]; rfl) (by rw [sm_at hj, hsj]; rfl) rfl rfl rfl (nI_pos (by omega)) (nI_pos (by omega)) (nI_pos (by omega))
    (by rw [nI_clamp (by omega), nI_clamp (by omega)]; exact h0) (by rw [nI_clamp (by omega), nI_clamp (by omega)]; exact h1) (fun _ _ => rfl) (by rw [h2]; show 1 ≤ d0; omega) (by rw [h2]; show _ ≤ 30 * d0; have := ac_w; omega) hd (fun H1 locs1 hp _ hs => kk ls H1 locs1 hL ?_ hs)
  rw [nI_clamp (by omega), nI_clamp (by omega), nI_clamp (by omega), sm_set (X' := sm_uf X j (fun k => if dp ≤ k ∧ k < dp + n then X i (sp + (k - dp)) else X j k)) (Y' := Y) hj ?_ (fun a ha => ⟨funext fun k => sm_uf_o ha, rfl⟩)] at hp
  · exact hp
  · rw [hsj]
    show _ = (.inl (Ω.2.2.1 0, n1, .inl (fun k => nI (sm_uf X j (fun k => if dp ≤ k ∧ k < dp + n then X i (sp + (k - dp)) else X j k) j k))) : va_E)
    congr 4
    funext k
    rw [sm_uf_s]
    unfold va_cpy
    split <;> rfl
end
/-- the values that helpers send are the values of the node's own share -/
theorem rb_val {v : Nat → Nat} (hv : ∀ i, v i < 256) (s x y : Nat) : gf_h (fun i => mx_b v y (8 * s + i)) x 0 8 = gf_h (fun j => if j < 8 then mx_b v x (8 * s + j) else 0) y 0 8 := by
  have h1 := gf_exch (A := fun i j => mx v (8 * s + i) j) (fun i j => mx_lt hv _ _) x y 0 8 8 0
  have h2 : gf_h (fun i => mx_b v y (8 * s + i)) x 0 8 = gf_h (fun i => gf_h ((fun i j => mx v (8 * s + i) j) i) y 0 8) x 0 8 := rfl
  rw [h2, h1]
  refine gf_h_congr 8 0 (fun j _ hj => ?_)
  rw [if_pos (by omega)]
  unfold mx_b
  exact gf_h_congr 8 0 (fun i _ hi => mx_s (by omega) (by omega))
section
variable {X : sm_X} {w : Nat → Nat → Nat} {o x f : Nat}
theorem ahX_76 : ∀ K k, k < K → ahX X w o x f K 76 k = ahV X w o x f k
  | 0, k, h => absurd h (Nat.not_lt_zero k)
  | K + 1, k, h => by
    show sm_up (sm_up (ahX X w o x f K) 76 K (ahV X w o x f K)) (79 + 51 * X 74 K) 4 _ 76 k = _
    rw [sm_up_x (Or.inl (by omega))]
    by_cases e : k = K
    · subst e; exact sm_up_s
    · rw [sm_up_n e]; exact ahX_76 K k (by omega)
theorem ahX_sent (hd : ∀ a b, a < 8 → b < 8 → X 74 a = X 74 b → a = b) : ∀ K, K ≤ 8 → ∀ k, k < 8 → ahX X w o x f K (79 + 51 * X 74 k) 4 = X (79 + 51 * X 74 k) 4 + (if k < K then 1 else 0)
  | 0, _, k, _ => by rw [if_neg (Nat.not_lt_zero k)]; rfl
  | K + 1, hK, k, hk => by
    show sm_up (sm_up (ahX X w o x f K) 76 K (ahV X w o x f K)) (79 + 51 * X 74 K) 4 (ahX X w o x f K (79 + 51 * X 74 K) 4 + 1) (79 + 51 * X 74 k) 4 = _
    by_cases e : k = K
    · subst e
      rw [sm_up_s, ahX_sent hd k (by omega) k hk, if_neg (by omega), if_pos (by omega)]
    · have hne : X 74 k ≠ X 74 K := fun q => e (hd k K hk (by omega) q)
      rw [sm_up_x (Or.inl (by omega)), sm_up_x (Or.inl (by omega)), ahX_sent hd K (by omega) k hk]
      by_cases h2 : k < K
      · rw [if_pos h2, if_pos (by omega)]
      · rw [if_neg h2, if_neg (by omega)]
end
def rbI (X : sm_X) (v : Nat → Nat) (n B s : Nat) (Z : sm_X) : Prop := (∀ a j, a ≠ 76 → ¬ (a = B ∧ j < 8 * s) → ¬ (j = 4 ∧ ∃ k, k < 8 ∧ a = 79 + 51 * X 74 k) → Z a j = X a j) ∧ (∀ k, k < 8 → Z (79 + 51 * X 74 k) 4 = X (79 + 51 * X 74 k) 4 + s) ∧ ∀ j, j < 8 * s → Z B j = mx_b v (n + 1) j
def rbY (Z : sm_X) (w : Nat → Nat → Nat) (o n s : Nat) : sm_X := sm_uf (ahX Z w o (n + 1) (8 * s) 8) 76 (gf_q2 8 (ahX Z w o (n + 1) (8 * s) 8 75) (8 - 1) (gf_q1 8 (ahX Z w o (n + 1) (8 * s) 8 75) (8 - 1) (ahX Z w o (n + 1) (8 * s) 8 76)))
def rbZ (Z : sm_X) (w : Nat → Nat → Nat) (o n B s : Nat) : sm_X := sm_uf (rbY Z w o n s) B (fun k => if 8 * s ≤ k ∧ k < 8 * s + 8 then rbY Z w o n s 76 (0 + (k - 8 * s)) else rbY Z w o n s B k)
section
variable {X Z : sm_X} {w : Nat → Nat → Nat} {v : Nat → Nat} {o n B s : Nat}
theorem rb_out (hv : ∀ i, v i < 256) (hM : ∀ k, k < 8 → Z 74 k < 12 ∧ Z 75 k = Z 74 k + 1) (hd : ∀ a b, a < 8 → b < 8 → Z 74 a = Z 74 b → a = b) (hB : ∀ k, k < 8 → ∀ i, i < 8 → Z (83 + 51 * Z 74 k + 4 * o + 2 * w (Z 74 k) o) (8 * s + i) = mx_b v (Z 74 k + 1) (8 * s + i)) {k : Nat} (hk : k < 8) : rbY Z w o n s 76 k = mx_b v (n + 1) (8 * s + k) := by
  have e75 : ∀ j, ahX Z w o (n + 1) (8 * s) 8 75 j = Z 75 j := fun j => ahX_o (by decide) (Or.inr (fun i hi => by have := hM i hi; omega)) 8 (Nat.le_refl 8)
  have h := gf_interp (n := 8) (X := ahX Z w o (n + 1) (8 * s) 8 75) (c := fun j => if j < 8 then mx_b v (n + 1) (8 * s + j) else 0) (v := ahX Z w o (n + 1) (8 * s) 8 76) (by decide)
    (fun j => by show (if j < 8 then mx_b v (n + 1) (8 * s + j) else 0) < 256; split; exact gf_h_lt (fun i => mx_lt hv _ i) _ _ _; decide) (fun j hj => if_neg (by omega))
    (fun j hj => by rw [e75]; have := hM j hj; omega) (fun a b ha hb he => by rw [e75, e75] at he; have := hM a ha; have := hM b hb; exact hd a b ha hb (by omega))
    (fun j hj => by
      rw [ahX_76 8 j hj, e75, (hM j hj).2]
      unfold ahV
      rw [← rb_val hv]
      exact gf_h_congr 8 0 (fun i _ hi => hB j hj i (by omega))) k hk
  show sm_uf _ 76 _ 76 k = _
  rw [sm_uf_s]
  exact h.trans (if_pos hk)
theorem rb_step (hI : rbI X v n B s Z) (hv : ∀ i, v i < 256) (hX : ∀ k, k < 8 → X 74 k < 12 ∧ X 75 k = X 74 k + 1) (hd : ∀ a b, a < 8 → b < 8 → X 74 a = X 74 b → a = b) (hB1 : 82 ≤ B) (hB2 : ∀ k, k < 12 → B ≠ 79 + 51 * k)
    (hO : ∀ k, k < 8 → ∀ i, i < 8 → Z (83 + 51 * X 74 k + 4 * o + 2 * w (X 74 k) o) (8 * s + i) = mx_b v (X 74 k + 1) (8 * s + i)) : rbI X v n B (s + 1) (rbZ Z w o n B s) := by
  have e74 : ∀ k, Z 74 k = X 74 k := fun k => hI.1 74 k (by decide) (by omega) (by rintro ⟨-, q, hq, e⟩; omega)
  have e75 : ∀ k, Z 75 k = X 75 k := fun k => hI.1 75 k (by decide) (by omega) (by rintro ⟨-, q, hq, e⟩; omega)
  have out : ∀ k, k < 8 → rbY Z w o n s 76 k = mx_b v (n + 1) (8 * s + k) := fun k hk => rb_out hv (fun j hj => by rw [e74, e75]; exact hX j hj) (fun a b ha hb he => by rw [e74, e74] at he; exact hd a b ha hb he) (fun j hj i hi => by rw [e74]; exact hO j hj i hi) hk
  have yo : ∀ a j, a ≠ 76 → rbY Z w o n s a j = ahX Z w o (n + 1) (8 * s) 8 a j := fun a j h => sm_uf_o h
  refine ⟨fun a j h1 h2 h3 => ?_, fun k hk => ?_, fun j hj => ?_⟩
  · have h3' : j ≠ 4 ∨ ∀ k, k < 8 → a ≠ 79 + 51 * Z 74 k := by
      by_cases e : j = 4
      · exact Or.inr (fun k hk q => h3 ⟨e, k, hk, by rw [q, e74]⟩)
      · exact Or.inl e
    by_cases eB : a = B
    · subst eB
      unfold rbZ
      rw [sm_uf_s, if_neg (by omega), yo _ _ (by omega), ahX_o (by omega) h3' 8 (Nat.le_refl 8)]
      exact hI.1 a j h1 (by omega) h3
    · unfold rbZ
      rw [sm_uf_o eB, yo _ _ h1, ahX_o h1 h3' 8 (Nat.le_refl 8)]
      exact hI.1 a j h1 (by omega) h3
  · have h0 := hX k hk
    unfold rbZ
    rw [sm_uf_o (fun q => hB2 _ h0.1 q.symm), yo _ _ (by omega), ← e74 k, ahX_sent (fun a b ha hb he => by rw [e74, e74] at he; exact hd a b ha hb he) 8 (Nat.le_refl 8) k hk, if_pos hk, e74 k, hI.2.1 k hk]
    omega
  · unfold rbZ
    rw [sm_uf_s]
    by_cases h8 : 8 * s ≤ j
    · rw [if_pos ⟨h8, by omega⟩, Nat.zero_add, out (j - 8 * s) (by omega), show 8 * s + (j - 8 * s) = j by omega]
    · rw [if_neg (by omega), yo _ _ (by omega), ahX_o (by omega) (Or.inr (fun k hk q => by have := hX k hk; exact hB2 (Z 74 k) (by rw [e74]; omega) q)) 8 (Nat.le_refl 8)]
      exact hI.2.2 j (by omega)
end

set_option maxHeartbeats 4000000 in
set_option maxRecDepth 100000 in
theorem c_S_rebuildShare0 (l : Launch) (Ω : sm_Ω) {X : sm_X} {w : Nat → Nat → Nat} (hf : swf X w) {n o m : Nat} (hn : n < 12) (ho : o < 12) (hz : X (691 + o) 1 = 0) : sm_met l Ω y_S_rebuildShare b_S_rebuildShare 8 (some .int) 4 723 [.ref (Ω.2.1 + 0), .ref (Ω.2.1 + (79 + 51 * n)), .int (nI o), .int (nI m)] X (sm_rf w) (sm_det (some (.int (nI 0))) (sm_up (sm_up X (82 + 51 * n + 4 * o + 2 * w n o) 0 (X (691 + o) 0)) (82 + 51 * n + 4 * o + 2 * w n o) 1 (X (691 + o) 1)) (sm_rf w)) := by
  refine sm_intro (own := RX6) (L := [some (.ref (Ω.2.1 + 0)), some (.ref (Ω.2.1 + (79 + 51 * n))), some (.int (nI o)), some (.int (nI m)), none, none, none, none]) (by decide) rfl (by simp [Value.category]) (Nat.le_of_ble_eq_true rfl) rfl ?_
  intro Γ C I
  have hw := hf.1
  have gi := hf.2.2.1 o ho
  have hwn := hw n o
  have hz2 : (X (691 + o) 1 + 29) / 30 = 0 := by omega
  refine sg_aln (pc := 0) C d_S_rebuildShare_0 rfl ?_
  refine sg_getr (pc := 1) C fw_S_31 (by omega) rfl rfl rfl d_S_rebuildShare_1 ?_
  refine sg_iln (pc := 4) C d_S_rebuildShare_4 rfl ?_
  refine sg_aald (pc := 5) (n := 12) (t := 5) C (by omega) rfl (by decide) rfl rfl (by omega) (by decide) (rf_items (by omega)) d_S_rebuildShare_5 ?_
  refine sg_as4 (pc := 6) C d_S_rebuildShare_6 ?_
  refine sg_aln (pc := 8) C d_S_rebuildShare_8 rfl ?_
  refine sg_getr (pc := 9) C fw_S_174 (by omega) (sh_N (by omega)) rfl (rf_N1 (by omega)) d_S_rebuildShare_9 ?_
  refine sg_iln (pc := 12) C d_S_rebuildShare_12 rfl ?_
  refine sg_aald (pc := 13) (n := 12) (t := 6) C (by omega) (sh_Ns (by omega)) (by decide) rfl rfl (by omega) (by decide) (rf_Ns (by omega) (by omega)) d_S_rebuildShare_13 ?_
  refine sg_as5 (pc := 14) C d_S_rebuildShare_14 ?_
  refine sg_al (pc := 16) C d_S_rebuildShare_16 rfl ?_
  refine sg_geti (pc := 18) C fw_S_117 (by omega) (sh_I (by omega)) rfl d_S_rebuildShare_18 ?_
  refine sm_callS (pc := 21) (As := [.int (nI (X (691 + o) 1))]) C I (c_S_stripesOf l Ω (by omega)) cw_S_184 sw_S_stripesOf rfl (by decide) ⟨by decide, by decide⟩ rfl (Nat.le_of_ble_eq_true rfl) d_S_rebuildShare_21 (sm_det_i ?_)
  rw [hz2]
  refine sg_is6 (pc := 24) C d_S_rebuildShare_24 ?_
  refine sg_il (pc := 26) C d_S_rebuildShare_26 rfl ?_
  refine sg_ifle (pc := 28) (tgt := 41) C d_S_rebuildShare_28 (by decide) (by omega) (fun h28 => ?_) (fun h28 => absurd h28 (by decide))
  refine sg_al (pc := 41) C d_S_rebuildShare_41 rfl ?_
  refine sg_al (pc := 43) C d_S_rebuildShare_43 rfl ?_
  refine sg_geti (pc := 45) C fw_S_143 (by omega) (sh_I (by omega)) rfl d_S_rebuildShare_45 ?_
  refine sg_al (pc := 48) C d_S_rebuildShare_48 rfl ?_
  refine sg_geti (pc := 50) C fw_S_117 (by omega) (sh_I (by omega)) rfl d_S_rebuildShare_50 ?_
  refine sm_callV (pc := 53) (As := [.int (nI (X (691 + o) 0)), .int (nI (X (691 + o) 1))]) C I (c_H_become l Ω (by omega) (sh_S hn ho hwn)) cw_S_215 iw_H_become (C.1.2.2.2.2 _ (List.mem_cons_of_mem _ se_H_become)) (by omega) (sh_S (by omega) (by omega) (hw _ _)) rfl rfl rfl (by decide) ⟨by decide, by decide⟩ rfl (Nat.le_of_ble_eq_true rfl) d_S_rebuildShare_53 (sm_det_v ?_)
  refine sg_ic (pc := 56) (v := 0) C d_S_rebuildShare_56 (by decide) ?_
  refine sg_is7 (pc := 57) C d_S_rebuildShare_57 ?_
  refine sg_il (pc := 59) C d_S_rebuildShare_59 rfl ?_
  refine sg_il (pc := 61) C d_S_rebuildShare_61 rfl ?_
  refine sg_icge (pc := 63) (tgt := 126) C d_S_rebuildShare_63 (by decide) (by omega) (by omega) (fun h63 => ?_) (fun h63 => absurd h63 (by decide))
  refine sg_bi (pc := 126) (v := 8) C d_S_rebuildShare_126 (by decide) ?_
  refine sg_il (pc := 128) C d_S_rebuildShare_128 rfl ?_
  refine sg_mul (pc := 130) C d_S_rebuildShare_130 ?_
  exact sg_iret (pc := 131) C I rfl rfl d_S_rebuildShare_131 ⟨rfl, rfl, rfl⟩

def rbX (X : sm_X) (w : Nat → Nat → Nat) (n o m : Nat) : sm_X := (sm_up (sm_up (clX X (saf X w o m) 8) (82 + 51 * n + 4 * o + 2 * w n o) 0 (X (691 + o) 0)) (82 + 51 * n + 4 * o + 2 * w n o) 1 (X (691 + o) 1))
theorem rbX_o {X : sm_X} {w : Nat → Nat → Nat} {n o m a j : Nat} (h1 : a ≠ 74) (h2 : a ≠ 75) (h3 : ¬ (a = 73 ∧ j = 2)) (h4 : ¬ (a = (82 + 51 * n + 4 * o + 2 * w n o) ∧ j < 2)) : rbX X w n o m a j = X a j := by
  unfold rbX
  rw [sm_up_x (by omega), sm_up_x (by omega), clX_o h1 h2 h3]
theorem rbX_74 {X : sm_X} {w : Nat → Nat → Nat} {n o m k : Nat} (hk : k < 8) : rbX X w n o m 74 k = cM X (saf X w o m) k ∧ rbX X w n o m 75 k = cM X (saf X w o m) k + 1 := by
  unfold rbX
  rw [sm_up_x (Or.inl (by omega)), sm_up_x (Or.inl (by omega)), sm_up_x (Or.inl (by omega)), sm_up_x (Or.inl (by omega))]
  unfold clX
  rw [if_pos ⟨rfl, hk⟩, if_neg (by omega), if_pos ⟨rfl, hk⟩]
  exact ⟨rfl, rfl⟩
theorem cP_sub {X : sm_X} {p : Nat → Bool} {j : Nat} : ∀ a b, a ≤ b → cP X p b j = true → cP X p a j = true
  | a, 0, h, hp => by rw [Nat.le_zero.mp h]; exact hp
  | a, b + 1, h, hp => by
    by_cases e : a = b + 1
    · rw [e]; exact hp
    · have hp2 : (cP X p b j && decide (j ≠ bst X (cP X p b) 12 - 1)) = true := hp
      exact cP_sub a b (by omega) (by simp at hp2; exact hp2.1)
theorem cM_inj {X : sm_X} {p : Nat → Bool} (h8 : 8 ≤ sm_n p 12) : ∀ a b, a < 8 → b < 8 → cM X p a = cM X p b → a = b := by
  have key : ∀ a b, a < b → b < 8 → cM X p a ≠ cM X p b := by
    intro a b hab hb e
    have h1 := (cM_ok (X := X) h8 hb).2.2.1
    have h2 := cP_sub (X := X) (p := p) (a + 1) b hab h1
    rw [← e] at h2
    have h3 : (cP X p a (cM X p a) && decide (cM X p a ≠ bst X (cP X p a) 12 - 1)) = true := h2
    simp [cM] at h3
  intro a b ha hb e
  by_cases h1 : a < b
  · exact absurd e (key a b h1 hb)
  · by_cases h2 : b < a
    · exact absurd e.symm (key b a h2 ha)
    · omega
theorem cM_in {X : sm_X} {p : Nat → Bool} (h8 : 8 ≤ sm_n p 12) {k : Nat} (hk : k < 8) : p (cM X p k) = true := cP_sub (X := X) (p := p) 0 k (Nat.zero_le k) (cM_ok (X := X) h8 hk).2.2.1

set_option maxHeartbeats 4000000 in
set_option maxRecDepth 100000 in
theorem c_S_rebuildShare1 (l : Launch) (Ω : sm_Ω) {X : sm_X} {w : Nat → Nat → Nat} (hf : swf X w) {n o m : Nat} (hn : n < 12) (ho : o < 12) (hm : m < 4096) (hz : 0 < X (691 + o) 1) (hG : gal X) (h8 : 8 ≤ sm_n (saf X w o m) 12) (hPn : (saf X w o m) n = false) {v : Nat → Nat} (hv : ∀ i, v i < 256)
    (hB : ∀ k, k < 12 → (saf X w o m) k = true → ∀ i, i < 8 * ((X (691 + o) 1 + 29) / 30) → X (83 + 51 * k + 4 * o + 2 * w k o) i = mx_b v (k + 1) i) : sm_met l Ω y_S_rebuildShare b_S_rebuildShare 8 (some .int) 4 723 [.ref (Ω.2.1 + 0), .ref (Ω.2.1 + (79 + 51 * n)), .int (nI o), .int (nI m)] X (sm_rf w) (fun r Z Y2 => r = some (.int (nI (8 * ((X (691 + o) 1 + 29) / 30)))) ∧ rbI (rbX X w n o m) v n (83 + 51 * n + 4 * o + 2 * w n o) ((X (691 + o) 1 + 29) / 30) Z ∧ Y2 = sm_rf w) := by
  refine sm_intro (own := RX6) (L := [some (.ref (Ω.2.1 + 0)), some (.ref (Ω.2.1 + (79 + 51 * n))), some (.int (nI o)), some (.int (nI m)), none, none, none, none]) (by decide) rfl (by simp [Value.category]) (Nat.le_of_ble_eq_true rfl) rfl ?_
  intro Γ C I
  have hw := hf.1
  have gi := hf.2.2.1 o ho
  have hwn := hw n o
  have hX : ∀ k, k < 8 → (rbX X w n o m) 74 k < 12 ∧ (rbX X w n o m) 75 k = (rbX X w n o m) 74 k + 1 := fun k hk => by rw [(rbX_74 hk).1, (rbX_74 hk).2]; exact ⟨(cM_ok (X := X) h8 hk).2.1, rfl⟩
  have hXd : ∀ a b, a < 8 → b < 8 → (rbX X w n o m) 74 a = (rbX X w n o m) 74 b → a = b := fun a b ha hb he => by rw [(rbX_74 ha).1, (rbX_74 hb).1] at he; exact cM_inj h8 a b ha hb he
  have hkl := sm_k_lt (saf X w o m) 12
  refine sg_aln (pc := 0) C d_S_rebuildShare_0 rfl ?_
  refine sg_getr (pc := 1) C fw_S_31 (by omega) rfl rfl rfl d_S_rebuildShare_1 ?_
  refine sg_iln (pc := 4) C d_S_rebuildShare_4 rfl ?_
  refine sg_aald (pc := 5) (n := 12) (t := 5) C (by omega) rfl (by decide) rfl rfl (by omega) (by decide) (rf_items (by omega)) d_S_rebuildShare_5 ?_
  refine sg_as4 (pc := 6) C d_S_rebuildShare_6 ?_
  refine sg_aln (pc := 8) C d_S_rebuildShare_8 rfl ?_
  refine sg_getr (pc := 9) C fw_S_174 (by omega) (sh_N (by omega)) rfl (rf_N1 (by omega)) d_S_rebuildShare_9 ?_
  refine sg_iln (pc := 12) C d_S_rebuildShare_12 rfl ?_
  refine sg_aald (pc := 13) (n := 12) (t := 6) C (by omega) (sh_Ns (by omega)) (by decide) rfl rfl (by omega) (by decide) (rf_Ns (by omega) (by omega)) d_S_rebuildShare_13 ?_
  refine sg_as5 (pc := 14) C d_S_rebuildShare_14 ?_
  refine sg_al (pc := 16) C d_S_rebuildShare_16 rfl ?_
  refine sg_geti (pc := 18) C fw_S_117 (by omega) (sh_I (by omega)) rfl d_S_rebuildShare_18 ?_
  refine sm_callS (pc := 21) (As := [.int (nI (X (691 + o) 1))]) C I (c_S_stripesOf l Ω (by omega)) cw_S_184 sw_S_stripesOf rfl (by decide) ⟨by decide, by decide⟩ rfl (Nat.le_of_ble_eq_true rfl) d_S_rebuildShare_21 (sm_det_i ?_)
  refine sg_is6 (pc := 24) C d_S_rebuildShare_24 ?_
  refine sg_il (pc := 26) C d_S_rebuildShare_26 rfl ?_
  refine sg_ifle (pc := 28) (tgt := 41) C d_S_rebuildShare_28 (by decide) (by omega) (fun h28 => absurd h28 (by omega)) (fun h28 => ?_)
  refine sg_aln (pc := 31) C d_S_rebuildShare_31 rfl ?_
  refine sg_aln (pc := 32) C d_S_rebuildShare_32 rfl ?_
  refine sg_iln (pc := 33) C d_S_rebuildShare_33 rfl ?_
  refine sg_iln (pc := 34) C d_S_rebuildShare_34 rfl ?_
  refine sm_callV (pc := 35) (As := [.int (nI o), .int (nI m)]) C I (c_S_liveAndFresh l Ω hf ho hm) cw_S_123 iw_S_liveAndFresh (C.1.2.2.2.2 _ (List.mem_cons_of_mem _ se_S_liveAndFresh)) (by omega) rfl rfl rfl rfl (by decide) ⟨by decide, by decide⟩ rfl (Nat.le_of_ble_eq_true rfl) d_S_rebuildShare_35 (sm_det_i ?_)
  refine sm_callV (pc := 38) (As := [.int (nI (sm_k (saf X w o m) 12))]) C I (c_S_chooseLeastSent l Ω hf h8) cw_S_228 iw_S_chooseLeastSent (C.1.2.2.2.2 _ (List.mem_cons_of_mem _ se_S_chooseLeastSent)) (by omega) rfl rfl rfl rfl (by decide) ⟨by decide, by decide⟩ rfl (Nat.le_of_ble_eq_true rfl) d_S_rebuildShare_38 (sm_det_v ?_)
  refine sg_al (pc := 41) C d_S_rebuildShare_41 rfl ?_
  refine sg_al (pc := 43) C d_S_rebuildShare_43 rfl ?_
  refine sg_geti (pc := 45) C fw_S_143 (by omega) (sh_I (by omega)) rfl d_S_rebuildShare_45 ?_
  rw [clX_o (by omega) (by omega) (by omega)]
  refine sg_al (pc := 48) C d_S_rebuildShare_48 rfl ?_
  refine sg_geti (pc := 50) C fw_S_117 (by omega) (sh_I (by omega)) rfl d_S_rebuildShare_50 ?_
  rw [clX_o (by omega) (by omega) (by omega)]
  refine sm_callV (pc := 53) (As := [.int (nI (X (691 + o) 0)), .int (nI (X (691 + o) 1))]) C I (c_H_become l Ω (by omega) (sh_S hn ho hwn)) cw_S_215 iw_H_become (C.1.2.2.2.2 _ (List.mem_cons_of_mem _ se_H_become)) (by omega) (sh_S (by omega) (by omega) (hw _ _)) rfl rfl rfl (by decide) ⟨by decide, by decide⟩ rfl (Nat.le_of_ble_eq_true rfl) d_S_rebuildShare_53 (sm_det_v ?_)
  change sm_G Γ Ω 723 0 0 (53 + 3) _ _ (rbX X w n o m) (sm_rf w)
  refine sg_ic (pc := 56) (v := 0) C d_S_rebuildShare_56 (by decide) ?_
  refine sg_is7 (pc := 57) C d_S_rebuildShare_57 ?_
  have loop : ∀ t s (Z : sm_X), s + t = ((X (691 + o) 1 + 29) / 30) → rbI (rbX X w n o m) v n (83 + 51 * n + 4 * o + 2 * w n o) s Z → sm_G Γ Ω 723 0 0 59 [some (.ref (Ω.2.1 + 0)), some (.ref (Ω.2.1 + (79 + 51 * n))), some (.int (nI o)), some (.int (nI m)), some (.ref (Ω.2.1 + (691 + o))), some (.ref (Ω.2.1 + (82 + 51 * n + 4 * o + 2 * w n o))), some (.int (nI ((X (691 + o) 1 + 29) / 30))), some (.int (nI s))] [] Z (sm_rf w) := by
    intro t
    induction t with
    | zero =>
      intro s Z hs hI
      refine sg_il (pc := 59) C d_S_rebuildShare_59 rfl ?_
      refine sg_il (pc := 61) C d_S_rebuildShare_61 rfl ?_
      refine sg_icge (pc := 63) (tgt := 126) C d_S_rebuildShare_63 (by decide) (by omega) (by omega) (fun h63 => ?_) (fun h63 => absurd h63 (by omega))
      refine sg_bi (pc := 126) (v := 8) C d_S_rebuildShare_126 (by decide) ?_
      refine sg_il (pc := 128) C d_S_rebuildShare_128 rfl ?_
      refine sg_mul (pc := 130) C d_S_rebuildShare_130 ?_
      exact sg_iret (pc := 131) C I rfl rfl d_S_rebuildShare_131 ⟨rfl, by rw [show s = ((X (691 + o) 1 + 29) / 30) by omega] at hI; exact hI, rfl⟩
    | succ t ih =>
      intro s Z hs hI
      have z74 : ∀ k, k < 8 → Z 74 k = cM X (saf X w o m) k := fun k hk => (hI.1 74 k (by decide) (by omega) (by rintro ⟨-, q, hq, e⟩; omega)).trans (rbX_74 hk).1
      have z75 : ∀ k, k < 8 → Z 75 k = cM X (saf X w o m) k + 1 := fun k hk => (hI.1 75 k (by decide) (by omega) (by rintro ⟨-, q, hq, e⟩; omega)).trans (rbX_74 hk).2
      have zo : ∀ a j, a ≠ 74 → a ≠ 75 → a ≠ 76 → ¬ (a = 73 ∧ j = 2) → ¬ (a = (82 + 51 * n + 4 * o + 2 * w n o) ∧ j < 2) → a ≠ (83 + 51 * n + 4 * o + 2 * w n o) → j ≠ 4 ∨ (a < 79 ∨ 691 ≤ a) → Z a j = X a j := fun a j h1 h2 h3 h4 h5 h6 h7 => (hI.1 a j h3 (fun q => h6 q.1) (by rintro ⟨q1, q, hq, e⟩; have := hX q hq; omega)).trans (rbX_o h1 h2 h4 h5)
      have gz : gal Z := gal_of hG (fun j => zo 2 j (by decide) (by decide) (by decide) (by omega) (by omega) (by omega) (by omega)) (fun j => zo 3 j (by decide) (by decide) (by decide) (by omega) (by omega) (by omega) (by omega))
      have zB : ∀ k, k < 8 → ∀ i, i < 8 → Z (83 + 51 * cM X (saf X w o m) k + 4 * o + 2 * w (cM X (saf X w o m) k) o) (8 * s + i) = mx_b v (cM X (saf X w o m) k + 1) (8 * s + i) := fun k hk i hi => by
        have hc := cM_ok (X := X) h8 hk
        have hne : cM X (saf X w o m) k ≠ n := fun q => by have := cM_in (X := X) h8 hk; rw [q, hPn] at this; cases this
        have hwc := hw (cM X (saf X w o m) k) o
        have h9 : Z (83 + 51 * cM X (saf X w o m) k + 4 * o + 2 * w (cM X (saf X w o m) k) o) (8 * s + i) = X (83 + 51 * cM X (saf X w o m) k + 4 * o + 2 * w (cM X (saf X w o m) k) o) (8 * s + i) := (hI.1 _ _ (by omega) (by omega) (by rintro ⟨q1, q, hq, e⟩; have := hX q hq; omega)).trans (rbX_o (by omega) (by omega) (by omega) (by omega))
        rw [h9]
        exact hB _ hc.2.1 (cM_in (X := X) h8 hk) _ (by omega)
      refine sg_il (pc := 59) C d_S_rebuildShare_59 rfl ?_
      refine sg_il (pc := 61) C d_S_rebuildShare_61 rfl ?_
      refine sg_icge (pc := 63) (tgt := 126) C d_S_rebuildShare_63 (by decide) (by omega) (by omega) (fun h63 => absurd h63 (by omega)) (fun h63 => ?_)
      refine sg_aln (pc := 66) C d_S_rebuildShare_66 rfl ?_
      refine sg_aln (pc := 67) C d_S_rebuildShare_67 rfl ?_
      refine sg_geti (pc := 68) C fw_S_218 (by omega) (sh_N (by omega)) rfl d_S_rebuildShare_68 ?_
      rw [zo (79 + 51 * n) 0 (by omega) (by omega) (by omega) (by omega) (by omega) (by omega) (by omega), (hf.2.1 n hn).1]
      refine sg_iln (pc := 71) C d_S_rebuildShare_71 rfl ?_
      refine sg_bi (pc := 72) (v := 8) C d_S_rebuildShare_72 (by decide) ?_
      refine sg_il (pc := 74) C d_S_rebuildShare_74 rfl ?_
      refine sg_mul (pc := 76) C d_S_rebuildShare_76 ?_
      refine sm_callV (pc := 77) (As := [.int (nI (n + 1)), .int (nI o), .int (nI (8 * s))]) C I (c_S_askHelpers l Ω (X := Z) hw (o := o) (x := n + 1) (f := 8 * s) ho (by omega) (by omega) gz (fun k hk => by rw [z74 k hk]; exact (cM_ok (X := X) h8 hk).2.1) (fun k hk j hj => by rw [z74 k hk, zB k hk j hj]; exact gf_h_lt (fun i => mx_lt hv _ i) _ _ _)) cw_S_231 iw_S_askHelpers (C.1.2.2.2.2 _ (List.mem_cons_of_mem _ se_S_askHelpers)) (by omega) rfl rfl rfl rfl (by decide) ⟨by decide, by decide⟩ rfl (Nat.le_of_ble_eq_true rfl) d_S_rebuildShare_77 (sm_det_v ?_)
      refine sg_aln (pc := 80) C d_S_rebuildShare_80 rfl ?_
      refine sg_getr (pc := 81) C fw_S_12 (by omega) rfl rfl rfl d_S_rebuildShare_81 ?_
      refine sg_aln (pc := 84) C d_S_rebuildShare_84 rfl ?_
      refine sg_getr (pc := 85) C fw_S_38 (by omega) rfl rfl rfl d_S_rebuildShare_85 ?_
      refine sg_getr (pc := 88) C fw_S_235 (by omega) rfl rfl rfl d_S_rebuildShare_88 ?_
      refine sg_aln (pc := 91) C d_S_rebuildShare_91 rfl ?_
      refine sg_getr (pc := 92) C fw_S_42 (by omega) rfl rfl rfl d_S_rebuildShare_92 ?_
      refine sg_bi (pc := 95) (v := 8) C d_S_rebuildShare_95 (by decide) ?_
      refine sm_callV (pc := 97) (As := [.ref (Ω.2.1 + 75), .ref (Ω.2.1 + 76), .int (nI 8)]) C I (c_G_interpolate l Ω (X := (ahX Z w o (n + 1) (8 * s) 8)) (i := 75) (j := 76) (m := 8) (ni := 8) (nj := 8) (gal_of gz (fun j => ahX_o (by decide) (Or.inr (fun i hi => by omega)) 8 (Nat.le_refl 8)) (fun j => ahX_o (by decide) (Or.inr (fun i hi => by omega)) 8 (Nat.le_refl 8))) (by decide) rfl (by decide) (by decide) rfl (by decide) (by decide) (by decide) (by decide) (by decide) (by decide) (by decide) (fun k hk => by rw [ahX_o (by decide) (Or.inr (fun i hi => by omega)) 8 (Nat.le_refl 8), z75 k hk]; have := (cM_ok (X := X) h8 hk).2.1; omega) (fun k hk => by rw [ahX_76 8 k hk]; unfold ahV; exact gf_h_lt2 (fun j _ hj => by rw [z74 k hk, zB k hk j (by omega)]; exact gf_h_lt (fun i => mx_lt hv _ i) _ _ _))) cw_S_238 iw_G_interpolate (C.1.2.2.2.2 _ (List.mem_cons_of_mem _ se_G_interpolate)) (by omega) rfl rfl rfl rfl (by decide) ⟨by decide, by decide⟩ rfl (Nat.le_of_ble_eq_true rfl) d_S_rebuildShare_97 (sm_det_v ?_)
      change sm_G Γ Ω 723 0 0 (97 + 3) _ _ (rbY Z w o n s) (sm_rf w)
      refine sg_aln (pc := 100) C d_S_rebuildShare_100 rfl ?_
      refine sg_getr (pc := 101) C fw_S_42 (by omega) rfl rfl rfl d_S_rebuildShare_101 ?_
      refine sg_ic (pc := 104) (v := 0) C d_S_rebuildShare_104 (by decide) ?_
      refine sg_al (pc := 105) C d_S_rebuildShare_105 rfl ?_
      refine sg_getr (pc := 107) C fw_S_187 (by omega) (sh_S (by omega) (by omega) (hw _ _)) rfl (rf_S2 (by omega) (by omega) (hw _ _)) d_S_rebuildShare_107 ?_
      refine sg_bi (pc := 110) (v := 8) C d_S_rebuildShare_110 (by decide) ?_
      refine sg_il (pc := 112) C d_S_rebuildShare_112 rfl ?_
      refine sg_mul (pc := 114) C d_S_rebuildShare_114 ?_
      refine sg_bi (pc := 115) (v := 8) C d_S_rebuildShare_115 (by decide) ?_
      refine sg_acopy (pc := 117) (i := 76) (j := (83 + 51 * n + 4 * o + 2 * w n o)) (n0 := 8) (n1 := 64) (sp := 0) (dp := 8 * s) (n := 8) C I (by omega) rfl (by omega) (sh_Sb hn ho hwn) (by decide) (by omega) (by decide) (by decide) (by decide) rfl (Nat.le_of_ble_eq_true rfl) d_S_rebuildShare_117 ?_
      change sm_G Γ Ω 723 0 0 (117 + 3) _ _ (rbZ Z w o n (83 + 51 * n + 4 * o + 2 * w n o) s) (sm_rf w)
      refine sg_inc7 (pc := 120) (n := 1) C d_S_rebuildShare_120 (by decide) ?_
      refine sg_goto (pc := 123) (tgt := 59) C d_S_rebuildShare_123 (by decide) ?_
      exact ih (s + 1) _ (by omega) (rb_step hI hv hX hXd (by omega) (fun k hk => by omega) (fun k hk i hi => by rw [(rbX_74 hk).1]; exact zB k hk i hi))
  exact loop ((X (691 + o) 1 + 29) / 30) 0 _ (by omega) ⟨fun _ _ _ _ _ => rfl, fun _ _ => rfl, fun j hj => absurd hj (by omega)⟩
