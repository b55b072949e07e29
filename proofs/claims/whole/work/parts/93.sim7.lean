/-! The relation is kept: put -/
def ctN (R : sm_X) (CT : Nat → Nat → Nat → Nat) (o n : Nat) : Nat → Nat → Nat → Nat := fun p v i => if p = o ∧ v = R 708 o + 1 then (if i < n then R 704 i else 0) else CT p v i
def lnN (R : sm_X) (LN : Nat → Nat → Nat) (o n : Nat) : Nat → Nat → Nat := fun p v => if p = o ∧ v = R 708 o + 1 then n else LN p v
section
variable {C R : sm_X} {w : Nat → Nat → Nat} {CT : Nat → Nat → Nat → Nat} {LN : Nat → Nat → Nat} {K K' o n : Nat}
theorem sim_ghost (h : sim C R w CT LN K) (hK : K ≤ K') (ho : o < 12) (hn : n ≤ 240) : sim C R w (ctN R CT o n) (lnN R LN o n) K' := by
  obtain ⟨hw, hA, hI, hN, hS, hD, hV, hC, hM⟩ := h
  have el : ∀ p v, p < 12 → v ≤ R 708 p → lnN R LN o n p v = LN p v ∧ ctN R CT o n p v = CT p v := fun p v hp hv => by
    have hne : ¬ (p = o ∧ v = R 708 o + 1) := by
      rintro ⟨rfl, e⟩
      omega
    exact ⟨if_neg hne, funext fun i => if_neg hne⟩
  have ep : ∀ p d v c b k, p < 12 → v ≤ R 708 p → simP C R CT LN p d v c b k → simP C R (ctN R CT o n) (lnN R LN o n) p d v c b k := fun p d v c b k hp hv q => by
    unfold simP
    rw [(el p v hp hv).1, (el p v hp hv).2]
    exact q
  refine ⟨hw, hA, hI, simN_c hN hK (fun _ _ _ _ => rfl) (fun _ _ => ⟨rfl, rfl⟩), fun d p hd hp => ?_, fun d p hd hp => ?_, fun p hp => ?_, fun p => ?_, hM⟩
  · have g := hS d p hd hp
    have v := (hV p hp).2.2.2.2.2.2 d hd
    rw [(el p _ hp v.1).1]
    exact ⟨g.1, g.2.1, g.2.2.1, ep p d _ _ _ _ hp v.1 g.2.2.2⟩
  · have g := hD d p hd hp
    have v := (hV p hp).2.2.2.2.2.2 d hd
    rw [(el p _ hp v.2).1]
    exact ⟨g.1, g.2.1, g.2.2.1, fun z => ⟨(g.2.2.2 z).1, (g.2.2.2 z).2.1, ep p d _ _ _ _ hp v.2 (g.2.2.2 z).2.2⟩⟩
  · have g := hV p hp
    rw [(el p _ hp g.1).1, (el p _ hp (Nat.le_refl _)).1]
    exact ⟨g.1, by omega, g.2.2⟩
  · refine ⟨?_, fun v => ?_⟩
    · exact (if_neg (by omega)).trans (hC p).1
    · unfold lnN ctN
      by_cases e : p = o ∧ v = R 708 o + 1
      · rw [if_pos e]
        refine ⟨hn, fun i => ?_⟩
        rw [if_pos e]
        by_cases hi : i < n
        · rw [if_pos hi]
          exact ⟨(hA.2.2.2.2.1 i (by omega)).2, fun q => absurd hi (by omega)⟩
        · rw [if_neg hi]
          exact ⟨(by decide), fun _ => rfl⟩
      · rw [if_neg e]
        refine ⟨((hC p).2 v).1, fun i => ?_⟩
        rw [if_neg e]
        exact ((hC p).2 v).2 i
/-- the messages: T1, T2 tell who gets the first and the second one; fin: the put ends -/
theorem sim_put {T1 T2 S1 S2 : Nat → Bool} {fin : Bool} (h0 : sim C R w CT LN K) (hK : K + 1 ≤ K') (ho : o < 12) (hn : n ≤ 240) (e1 : ∀ d, d < 12 → T1 d = S1 d) (e2 : ∀ d, d < 12 → T2 d = S2 d) (h21 : ∀ d, d < 12 → S2 d = true → S1 d = true) :
    sim (if fin = true then puF (stX T2 (ssX T1 (ssZ (pu2 C o n) o) w o (C (691 + o) 2 + 1) n 12) w o 12) o else stX T2 (ssX T1 (ssZ (pu2 C o n) o) w o (C (691 + o) 2 + 1) n 12) w o 12)
      (if fin = true then sm_up (sm_up (sm_up (rq2 S2 (rq1 S1 (rpA R o n) o n 12) o 12) 710 o 0) 706 o (R 708 o + 1)) 707 o n else sm_up (rq2 S2 (rq1 S1 (rpA R o n) o n 12) o 12) 710 o 1)
      (stW T2 w o 12) (ctN R CT o n) (lnN R LN o n) K' := by
  have h := sim_ghost (K' := K) (n := n) h0 (Nat.le_refl K) ho hn
  have hIo := h.2.2.1 o ho
  have eln : lnN R LN o n o (R 708 o + 1) = n := if_pos ⟨rfl, rfl⟩
  have ect : ctN R CT o n o (R 708 o + 1) = fun i => if i < n then R 704 i else 0 := funext fun i => if_pos ⟨rfl, rfl⟩
  generalize ctN R CT o n = CT' at h ect ⊢
  generalize lnN R LN o n = LN' at h eln ⊢
  obtain ⟨hw, hA, hI, hN, hS, hD, hV, hC, hM⟩ := h
  have hVo := hV o ho
  -- the matrices
  have hB := pu2_i (X := C) (o := o) (n := n)
  obtain ⟨Zb, eZ⟩ : ∃ Zb, Zb = ssZ (pu2 C o n) o := ⟨_, rfl⟩
  have zq : 30 * ((n + 29) / 30) ≤ 240 := by omega
  unfold ssZ at eZ
  rw [hB.2.2.2.1] at eZ
  have b1 : ∀ a j, a < 6 ∨ 70 ≤ a → Zb a j = pu2 C o n a j := fun a j q => by rw [eZ]; exact mf_o q _ zq
  have b2' : ∀ a j, a < 6 ∨ 70 ≤ a → a ≠ 691 + o → ¬ (a = 0 ∧ j = 9) → Zb a j = C a j := fun a j q q1 q2 => (b1 a j q).trans (pu2_o q1 q2)
  have bm : ∀ r j, r < 64 → j < 8 → Zb (6 + r) j = if mx_i (r % 8) j < 30 ∧ 30 * (r / 8) + mx_i (r % 8) j < 30 * ((n + 29) / 30) then mv (pu2 C o n) n (30 * (r / 8) + mx_i (r % 8) j) else C (6 + r) j := fun r j hr hj => by
    rw [eZ, mf_at hr hj _ zq, pu2_o (a := 6 + r) (by omega) (by omega)]
  have bv : ∀ q, mv (pu2 C o n) n q = if q < n then R 704 q else 0 := fun q => by
    unfold mv
    by_cases e : q < n
    · rw [if_pos e, if_pos e, pu2_o (by omega) (by omega)]; exact (hA.2.2.2.2.1 q (by omega)).1
    · rw [if_neg e, if_neg e]
  have bh : ∀ d i, i < 8 * ((n + 29) / 30) → gf_h (Zb (6 + i)) (d + 1) 0 8 = mx_b (CT' o (R 708 o + 1)) (d + 1) i := fun d i hi => by
    unfold mx_b
    refine gf_h_congr 8 0 (fun j _ hj => ?_)
    have hin := mx_in (i % 8) (Nat.mod_lt _ (by decide)) j (by omega)
    rw [bm i j (by omega) (by omega), ect]
    unfold mx
    by_cases e : mx_i (i % 8) j < 30
    · rw [if_pos ⟨e, by omega⟩, if_pos e, bv]
    · rw [if_neg (fun q => e q.1), if_neg e]
      exact hM.2.2 i j (by omega) (by omega) (by omega) (by omega)
  rw [show ssZ (pu2 C o n) o = Zb by rw [eZ]; unfold ssZ; rw [hB.2.2.2.1], hIo.2.2.1]
  -- the first messages
  obtain ⟨Zs, eS⟩ : ∃ Zs, Zs = ssX T1 Zb w o (R 708 o + 1) n 12 := ⟨_, rfl⟩
  rw [← eS]
  have s1 : ∀ d p j, d < 12 → p < 12 → Zs (82 + 51 * d + 4 * p + 2 * w d p) j = C (82 + 51 * d + 4 * p + 2 * w d p) j ∧ Zs (83 + 51 * d + 4 * p + 2 * w d p) j = C (83 + 51 * d + 4 * p + 2 * w d p) j := fun d p j hd hp => by
    have hwd := hw d p
    rw [eS, (ssX_1 hw ho hp).1, (ssX_1 hw ho hp).2]
    exact ⟨b2' _ _ (by omega) (by omega) (by omega), b2' _ _ (by omega) (by omega) (by omega)⟩
  have s2 : ∀ d p j, d < 12 → p < 12 → j < 2 → Zs (82 + 51 * d + 4 * p + 2 * (1 - w d p)) j = if p = o ∧ S1 d = true then (if j = 0 then R 708 o + 1 else n) else C (82 + 51 * d + 4 * p + 2 * (1 - w d p)) j := fun d p j hd hp hj => by
    have hwd := hw d p
    rw [eS, ssX_2 hw ho hp hd hj, e1 d hd, b2' (82 + 51 * d + 4 * p + 2 * (1 - w d p)) j (by omega) (by omega) (by omega)]
  have s3 : ∀ d p j, d < 12 → p < 12 → j < 8 * ((n + 29) / 30) ∨ ¬ (p = o ∧ S1 d = true) → Zs (83 + 51 * d + 4 * p + 2 * (1 - w d p)) j = if p = o ∧ S1 d = true then mx_b (CT' o (R 708 o + 1)) (d + 1) j else C (83 + 51 * d + 4 * p + 2 * (1 - w d p)) j := fun d p j hd hp hj => by
    have hwd := hw d p
    rw [eS, ssX_3 hw ho hp hd (by rw [e1 d hd]; exact hj), e1 d hd, b2' (83 + 51 * d + 4 * p + 2 * (1 - w d p)) j (by omega) (by omega) (by omega)]
    by_cases e : p = o ∧ S1 d = true
    · rw [if_pos e, if_pos e]; exact bh d j (hj.elim id (fun z => absurd e z))
    · rw [if_neg e, if_neg e]
  have s4 : ∀ a j, (∀ d, d < 12 → ∀ b, b < 2 → a ≠ 82 + 51 * d + 4 * o + 2 * b ∧ a ≠ 83 + 51 * d + 4 * o + 2 * b) → Zs a j = Zb a j := fun a j q => by rw [eS]; exact ssX_4 ho q
  -- the second messages
  have hw' : ∀ n p, stW T2 w o 12 n p < 2 := fun n p => stW_lt (k := 12) hw n p
  have ew1 : ∀ d, d < 12 → S2 d = true → stW T2 w o 12 d o = 1 - w d o := fun d hd q => if_pos ⟨rfl, hd, by rw [e2 d hd]; exact q⟩
  have ew0 : ∀ d p, d < 12 → ¬ (p = o ∧ S2 d = true) → stW T2 w o 12 d p = w d p := fun d p hd q => if_neg (fun z => q ⟨z.1, by rw [← e2 d hd]; exact z.2.2⟩)
  obtain ⟨Zt, eT⟩ : ∃ Zt, Zt = stX T2 Zs w o 12 := ⟨_, rfl⟩
  rw [← eT]
  have t1 : ∀ d p j, d < 12 → p < 12 → Zt (82 + 51 * d + 4 * p + 2 * stW T2 w o 12 d p) j = Zs (82 + 51 * d + 4 * p + 2 * stW T2 w o 12 d p) j := fun d p j hd hp => by rw [eT]; exact stX_s hw ho hp hd
  have t2 : ∀ d p j, d < 12 → p < 12 → j < 2 → Zt (82 + 51 * d + 4 * p + 2 * (1 - stW T2 w o 12 d p)) j = if p = o ∧ S2 d = true then 0 else Zs (82 + 51 * d + 4 * p + 2 * (1 - stW T2 w o 12 d p)) j := fun d p j hd hp hj => by rw [eT, stX_d hw hp hd hj, e2 d hd]
  have t4 : ∀ a j, (∀ d, d < 12 → ∀ b, b < 2 → a ≠ 82 + 51 * d + 4 * o + 2 * b) → Zt a j = Zs a j := fun a j q => by rw [eT]; exact stX_b q hw
  generalize stW T2 w o 12 = w' at hw' ew1 ew0 t1 t2 ⊢
  have ti : ∀ j, Zt (691 + o) j = pu2 C o n (691 + o) j := fun j => (t4 _ _ (fun d hd b hb => by omega)).trans ((s4 _ _ (fun d hd b hb => by omega)).trans (b1 _ _ (by omega)))
  obtain ⟨C', eC⟩ : ∃ C', C' = if fin = true then puF Zt o else Zt := ⟨_, rfl⟩
  rw [← eC]
  have c0 : ∀ a j, a ≠ 691 + o → C' a j = Zt a j := fun a j q => by
    rw [eC]
    split
    · unfold puF
      rw [sm_up_x (Or.inl q), sm_up_x (Or.inl q), sm_up_x (Or.inl q)]
    · rfl
  have ci : C' (691 + o) 0 = (if fin = true then R 708 o + 1 else R 706 o) ∧ C' (691 + o) 1 = (if fin = true then n else R 707 o) ∧ C' (691 + o) 2 = R 708 o + 1 ∧ C' (691 + o) 3 = n ∧ C' (691 + o) 4 = (if fin = true then 0 else 1) := by
    rw [eC]
    split
    · unfold puF
      rw [ti, ti, hB.2.2.1, hB.2.2.2.1, hIo.2.2.1]
      refine ⟨?_, ?_, ?_, ?_, sm_up_s⟩
      · rw [sm_up_n (by decide), sm_up_n (by decide), sm_up_s]
      · rw [sm_up_n (by decide), sm_up_s]
      · rw [sm_up_n (by decide), sm_up_n (by decide), sm_up_n (by decide), ti, hB.2.2.1, hIo.2.2.1]
      · rw [sm_up_n (by decide), sm_up_n (by decide), sm_up_n (by decide), ti, hB.2.2.2.1]
    · rw [ti, ti, ti, ti, ti, hB.1, hB.2.1, hB.2.2.1, hB.2.2.2.1, hB.2.2.2.2, hIo.1, hIo.2.1, hIo.2.2.1]
      exact ⟨rfl, rfl, rfl, rfl, rfl⟩
  -- the reference
  obtain ⟨Q, eQ⟩ : ∃ Q, Q = rq2 S2 (rq1 S1 (rpA R o n) o n 12) o 12 := ⟨_, rfl⟩
  rw [← eQ]
  have a8 : rpA R o n 708 o = R 708 o + 1 := by unfold rpA; rw [sm_up_x (Or.inl (by decide)), sm_up_x (Or.inl (by decide)), sm_up_s]
  have a4 : ∀ i, rpA R o n 704 i = R 704 i := fun i => rpA_o (by decide) (by decide) (by decide)
  have q1 : ∀ d p, d < 12 → p < 12 → Q 713 (12 * d + p) = (if p = o ∧ S2 d = true then R 708 o + 1 else R 713 (12 * d + p)) ∧ Q 714 (12 * d + p) = (if p = o ∧ S2 d = true then n else R 714 (12 * d + p)) ∧ (∀ i, i < 240 → Q 715 (240 * (12 * d + p) + i) = (if p = o ∧ S2 d = true then (if i < n then R 704 i else 0) else R 715 (240 * (12 * d + p) + i))) ∧
      Q 716 (12 * d + p) = (if p = o ∧ S2 d = true then 0 else if p = o ∧ S1 d = true then R 708 o + 1 else R 716 (12 * d + p)) ∧ Q 717 (12 * d + p) = (if p = o ∧ S1 d = true then n else R 717 (12 * d + p)) ∧ ∀ i, i < 240 → Q 718 (240 * (12 * d + p) + i) = (if p = o ∧ S1 d = true then (if i < n then R 704 i else 0) else R 718 (240 * (12 * d + p) + i)) := fun d p hd hp => by
    have g1 := rq1_at (Z := rpA R o n) (n := n) (d := d) (T := S1) ho hp 12
    have g2 := rq2_at (Z := rq1 S1 (rpA R o n) o n 12) (d := d) (T := S2) ho hp 12
    have ec : ∀ (b : Bool) (x y : Nat), (if p = o ∧ d < 12 ∧ b = true then x else y) = if p = o ∧ b = true then x else y := fun b x y => by
      by_cases e3 : p = o ∧ b = true
      · rw [if_pos e3, if_pos ⟨e3.1, hd, e3.2⟩]
      · rw [if_neg e3, if_neg (fun q => e3 ⟨q.1, q.2.2⟩)]
    rw [ec, ec, a8, rpA_o (by decide) (by decide) (by decide), rpA_o (by decide) (by decide) (by decide)] at g1
    rw [ec, ec, ec] at g2
    have k3 : ∀ i, i < 240 → rq1 S1 (rpA R o n) o n 12 718 (240 * (12 * d + p) + i) = (if p = o ∧ S1 d = true then (if i < n then R 704 i else 0) else R 718 (240 * (12 * d + p) + i)) := fun i hi => by
      rw [g1.2.2 i hi, ec, a4, rpA_o (by decide) (by decide) (by decide)]
    have k0 : ∀ a j, a = 713 ∨ a = 714 ∨ a = 715 → rq1 S1 (rpA R o n) o n 12 a j = R a j := fun a j ha => (rq1_o (by omega) (by omega) (by omega) 12).trans (rpA_o (by omega) (by omega) (by omega))
    rw [k0 713 _ (by omega), k0 714 _ (by omega), g1.1, g1.2.1] at g2
    have g3 := g2.2.2.1
    rw [eQ, g2.1, g2.2.1, g2.2.2.2, rq2_o (by decide) (by decide) (by decide) (by decide), g1.2.1]
    refine ⟨?_, ?_, fun i hi => ?_, rfl, rfl, fun i hi => ?_⟩
    · by_cases e : p = o ∧ S2 d = true
      · rw [if_pos e, if_pos e, if_pos ⟨e.1, h21 d hd e.2⟩]
      · rw [if_neg e, if_neg e]
    · by_cases e : p = o ∧ S2 d = true
      · rw [if_pos e, if_pos e, if_pos ⟨e.1, h21 d hd e.2⟩]
      · rw [if_neg e, if_neg e]
    · rw [g3 i hi, ec, k3 i hi, k0 715 _ (by omega)]
      by_cases e : p = o ∧ S2 d = true
      · rw [if_pos e, if_pos e, if_pos ⟨e.1, h21 d hd e.2⟩]
      · rw [if_neg e, if_neg e]
    · rw [rq2_o (by decide) (by decide) (by decide) (by decide), k3 i hi]
  have q0 : ∀ a j, ¬ (713 ≤ a ∧ a ≤ 718) → Q a j = rpA R o n a j := fun a j q => by rw [eQ, rq2_o (by omega) (by omega) (by omega) (by omega), rq1_o (by omega) (by omega) (by omega)]
  obtain ⟨R', eR⟩ : ∃ R', R' = if fin = true then sm_up (sm_up (sm_up Q 710 o 0) 706 o (R 708 o + 1)) 707 o n else sm_up Q 710 o 1 := ⟨_, rfl⟩
  rw [← eR]
  have r0 : ∀ a j, a ≠ 706 → a ≠ 707 → a ≠ 710 → R' a j = Q a j := fun a j q1 q2 q3 => by
    rw [eR]
    split
    · rw [sm_up_x (Or.inl q2), sm_up_x (Or.inl q1), sm_up_x (Or.inl q3)]
    · rw [sm_up_x (Or.inl q3)]
  have r1 : ∀ a j, a ≠ 706 → a ≠ 707 → a ≠ 710 → a ≠ 703 → a ≠ 708 → a ≠ 709 → ¬ (713 ≤ a ∧ a ≤ 718) → R' a j = R a j := fun a j q1 q2 q3 q4 q5 q6 q7 => (r0 a j q1 q2 q3).trans ((q0 a j q7).trans (rpA_o q4 q5 q6))
  have rA : ∀ j, R' 703 j = if j = 4 then 4294967295 else if j = 0 then 0 else R 703 j := fun j => by
    rw [r0 703 j (by decide) (by decide) (by decide), q0 703 j (by omega)]
    unfold rpA
    by_cases e : j = 4
    · subst e; rw [if_pos rfl, sm_up_s]
    · rw [if_neg e, sm_up_n e, sm_up_x (Or.inl (by decide)), sm_up_x (Or.inl (by decide))]
      by_cases e3 : j = 0
      · subst e3; rw [if_pos rfl, sm_up_s]
      · rw [if_neg e3, sm_up_n e3]
  have ri : ∀ p, p < 12 → R' 706 p = (if p = o then (if fin = true then R 708 o + 1 else R 706 o) else R 706 p) ∧ R' 707 p = (if p = o then (if fin = true then n else R 707 o) else R 707 p) ∧ R' 708 p = (if p = o then R 708 o + 1 else R 708 p) ∧ R' 709 p = (if p = o then n else R 709 p) ∧ R' 710 p = (if p = o then (if fin = true then 0 else 1) else R 710 p) := fun p hp => by
    have k6 : Q 706 p = R 706 p := (q0 _ _ (by omega)).trans (rpA_o (by decide) (by decide) (by decide))
    have k7 : Q 707 p = R 707 p := (q0 _ _ (by omega)).trans (rpA_o (by decide) (by decide) (by decide))
    have k10 : Q 710 p = R 710 p := (q0 _ _ (by omega)).trans (rpA_o (by decide) (by decide) (by decide))
    have k8 : R' 708 p = (if p = o then R 708 o + 1 else R 708 p) := by
      rw [r0 708 p (by decide) (by decide) (by decide), q0 708 p (by omega)]
      unfold rpA
      rw [sm_up_x (Or.inl (by decide)), sm_up_x (Or.inl (by decide))]
      by_cases e : p = o
      · subst e; rw [if_pos rfl, sm_up_s]
      · rw [if_neg e, sm_up_n e, sm_up_x (Or.inl (by decide))]
    have k9 : R' 709 p = (if p = o then n else R 709 p) := by
      rw [r0 709 p (by decide) (by decide) (by decide), q0 709 p (by omega)]
      unfold rpA
      rw [sm_up_x (Or.inl (by decide))]
      by_cases e : p = o
      · subst e; rw [if_pos rfl, sm_up_s]
      · rw [if_neg e, sm_up_n e, sm_up_x (Or.inl (by decide)), sm_up_x (Or.inl (by decide))]
    rw [k8, k9, eR]
    by_cases e : p = o
    · subst e
      rw [if_pos rfl, if_pos rfl, if_pos rfl, if_pos rfl, if_pos rfl]
      cases fin
      · simp only [Bool.false_eq_true, if_false]
        exact ⟨(sm_up_x (Or.inl (by decide))).trans k6, (sm_up_x (Or.inl (by decide))).trans k7, trivial, trivial, sm_up_s⟩
      · simp only [if_true]
        refine ⟨?_, sm_up_s, trivial, trivial, ?_⟩
        · rw [sm_up_x (Or.inl (by decide)), sm_up_s]
        · rw [sm_up_x (Or.inl (by decide)), sm_up_x (Or.inl (by decide)), sm_up_s]
    · rw [if_neg e, if_neg e, if_neg e, if_neg e, if_neg e]
      cases fin
      · simp only [Bool.false_eq_true, if_false]
        exact ⟨(sm_up_x (Or.inr e)).trans k6, (sm_up_x (Or.inr e)).trans k7, trivial, trivial, (sm_up_x (Or.inr e)).trans k10⟩
      · simp only [if_true]
        exact ⟨(sm_up_x (Or.inr e)).trans ((sm_up_x (Or.inr e)).trans ((sm_up_x (Or.inr e)).trans k6)), (sm_up_x (Or.inr e)).trans ((sm_up_x (Or.inr e)).trans ((sm_up_x (Or.inr e)).trans k7)), trivial, trivial, (sm_up_x (Or.inr e)).trans ((sm_up_x (Or.inr e)).trans ((sm_up_x (Or.inr e)).trans k10))⟩
  have cx : ∀ a j, a < 6 ∨ 70 ≤ a ∧ a < 79 → ¬ (a = 0 ∧ j = 9) → C' a j = C a j := fun a j q q2 => (c0 a j (by omega)).trans ((t4 a j (fun d hd b hb => by omega)).trans ((s4 a j (fun d hd b hb => by omega)).trans (b2' a j (by omega) (by omega) q2)))
  have cm : ∀ r j, r < 64 → C' (6 + r) j = Zb (6 + r) j := fun r j hr => (c0 _ j (by omega)).trans ((t4 _ j (fun d hd b hb => by omega)).trans (s4 _ j (fun d hd b hb => by omega)))
  refine ⟨hw', ?_, fun p hp => ?_, simN_c hN (by omega) (fun k j hk _ => (c0 _ _ (by omega)).trans ((t4 _ _ (fun d hd b hb => by omega)).trans ((s4 _ _ (fun d hd b hb => by omega)).trans (b2' _ _ (by omega) (by omega) (by omega))))) (fun k hk => ⟨r1 _ _ (by decide) (by decide) (by decide) (by decide) (by decide) (by decide) (by omega), r1 _ _ (by decide) (by decide) (by decide) (by decide) (by decide) (by decide) (by omega)⟩), fun d p hd hp => ?_, fun d p hd hp => ?_, fun p hp => ?_, hC, ?_⟩
  · unfold simA
    rw [rA, rA, if_pos rfl, if_neg (by decide), if_neg (by decide), cx 0 8 (by omega) (by omega), c0 0 9 (by omega), t4 0 9 (fun d hd b hb => by omega), s4 0 9 (fun d hd b hb => by omega), b1 0 9 (by omega)]
    refine ⟨?_, Or.inl rfl, hA.2.2.1, hA.2.2.2.1, fun i hi => ?_, fun i hi => ?_⟩
    · unfold pu2; exact sm_up_s
    · rw [cx 77 i (by omega) (by omega), r1 704 i (by decide) (by decide) (by decide) (by decide) (by decide) (by decide) (by omega)]; exact hA.2.2.2.2.1 i hi
    · rw [cx 78 i (by omega) (by omega), r1 705 i (by decide) (by decide) (by decide) (by decide) (by decide) (by decide) (by omega)]; exact hA.2.2.2.2.2 i hi
  · have r := ri p hp
    rw [r.1, r.2.1, r.2.2.1, r.2.2.2.1, r.2.2.2.2]
    by_cases e : p = o
    · subst e
      rw [if_pos rfl, if_pos rfl, if_pos rfl, if_pos rfl, if_pos rfl]
      exact ci
    · have cc : ∀ j, C' (691 + p) j = C (691 + p) j := fun j => (c0 _ _ (by omega)).trans ((t4 _ _ (fun d hd b hb => by omega)).trans ((s4 _ _ (fun d hd b hb => by omega)).trans (b2' _ _ (by omega) (by omega) (by omega))))
      rw [if_neg e, if_neg e, if_neg e, if_neg e, if_neg e, cc, cc, cc, cc, cc]
      exact hI p hp
  · have q := q1 d p hd hp
    have hwd := hw d p
    have hwd' := hw' d p
    rw [c0 _ 0 (by omega), c0 _ 1 (by omega), t1 d p 0 hd hp, t1 d p 1 hd hp, r0 713 _ (by decide) (by decide) (by decide), r0 714 _ (by decide) (by decide) (by decide), q.1, q.2.1]
    have cb : ∀ i, C' (82 + 51 * d + 4 * p + 2 * w' d p + 1) i = Zs (83 + 51 * d + 4 * p + 2 * w' d p) i := fun i => by
      rw [c0 _ _ (by omega), t4 _ _ (fun d hd b hb => by omega), show 82 + 51 * d + 4 * p + 2 * w' d p + 1 = 83 + 51 * d + 4 * p + 2 * w' d p by omega]
    by_cases e : p = o ∧ S2 d = true
    · have es := h21 d hd e.2
      have e5 := e
      obtain ⟨rfl, h2⟩ := e
      rw [if_pos e5, if_pos e5, eln]
      have ew := ew1 d hd h2
      rw [ew] at cb ⊢
      have es5 : p = p ∧ S1 d = true := ⟨rfl, es⟩
      rw [s2 d p 0 hd hp (by decide), s2 d p 1 hd hp (by decide), if_pos es5, if_pos es5, if_pos rfl, if_neg (by decide)]
      refine ⟨rfl, rfl, rfl, ?_⟩
      unfold simP
      rw [eln]
      refine ⟨fun i hi => ?_, fun i hi => ?_⟩
      · rw [r0 715 _ (by decide) (by decide) (by decide), q.2.2.1 i (by omega), if_pos e5, ect]
      · rw [cb, s3 d p i hd hp (Or.inl hi), if_pos ⟨rfl, es⟩]
    · have g := hS d p hd hp
      have l := ((hC p).2 (R 713 (12 * d + p))).1
      rw [if_neg e, if_neg e]
      have ew := ew0 d p hd e
      rw [ew] at cb ⊢
      rw [(s1 d p 0 hd hp).1, (s1 d p 1 hd hp).1]
      refine ⟨g.1, g.2.1, g.2.2.1, simP_c g.2.2.2 (fun i hi => ?_) (fun i hi => ?_)⟩
      · rw [cb, (s1 d p i hd hp).2, show 82 + 51 * d + 4 * p + 2 * w d p + 1 = 83 + 51 * d + 4 * p + 2 * w d p by omega]
      · rw [r0 715 _ (by decide) (by decide) (by decide), q.2.2.1 i (by omega), if_neg e]
  · have q := (q1 d p hd hp).2.2.2
    have g := hD d p hd hp
    have hwd := hw d p
    have hwd' := hw' d p
    rw [c0 _ 0 (by omega), c0 _ 1 (by omega), t2 d p 0 hd hp (by decide), t2 d p 1 hd hp (by decide), r0 716 _ (by decide) (by decide) (by decide), r0 717 _ (by decide) (by decide) (by decide), q.1, q.2.1]
    have hle : (if p = o ∧ S1 d = true then n else R 717 (12 * d + p)) ≤ 240 := by
      split
      · exact hn
      · exact g.2.2.1
    by_cases e : p = o ∧ S2 d = true
    · rw [if_pos e, if_pos e, if_pos e]
      exact ⟨rfl, by omega, hle, fun z => absurd rfl z⟩
    · rw [if_neg e, if_neg e, if_neg e]
      have ew := ew0 d p hd e
      rw [ew, s2 d p 0 hd hp (by decide), s2 d p 1 hd hp (by decide)]
      have cb : ∀ i, C' (82 + 51 * d + 4 * p + 2 * (1 - w d p) + 1) i = Zs (83 + 51 * d + 4 * p + 2 * (1 - w d p)) i := fun i => by
        rw [c0 _ _ (by omega), t4 _ _ (fun d hd b hb => by omega), show 82 + 51 * d + 4 * p + 2 * (1 - w d p) + 1 = 83 + 51 * d + 4 * p + 2 * (1 - w d p) by omega]
      by_cases e5 : p = o ∧ S1 d = true
      · rw [if_pos e5, if_pos e5, if_pos e5, if_pos e5, if_pos rfl, if_neg (by decide)]
        refine ⟨rfl, hn, hn, fun _ => ?_⟩
        have e6 := e5
        obtain ⟨rfl, es⟩ := e5
        rw [eln]
        refine ⟨rfl, rfl, ?_⟩
        unfold simP
        rw [eln]
        refine ⟨fun i hi => ?_, fun i hi => ?_⟩
        · rw [r0 718 _ (by decide) (by decide) (by decide), q.2.2 i (by omega), if_pos e6, ect]
        · rw [cb, s3 d p i hd hp (Or.inl hi), if_pos e6]
      · rw [if_neg e5, if_neg e5, if_neg e5, if_neg e5]
        have l := ((hC p).2 (R 716 (12 * d + p))).1
        refine ⟨g.1, g.2.1, g.2.2.1, fun z => ⟨(g.2.2.2 z).1, (g.2.2.2 z).2.1, simP_c (g.2.2.2 z).2.2 (fun i hi => ?_) (fun i hi => ?_)⟩⟩
        · rw [cb, s3 d p i hd hp (Or.inr e5), if_neg e5, show 82 + 51 * d + 4 * p + 2 * (1 - w d p) + 1 = 83 + 51 * d + 4 * p + 2 * (1 - w d p) by omega]
        · rw [r0 718 _ (by decide) (by decide) (by decide), q.2.2 i (by omega), if_neg e5]
  · have g := hV p hp
    have r := ri p hp
    rw [r.1, r.2.1, r.2.2.1, r.2.2.2.1, r.2.2.2.2]
    have hq : ∀ d, d < 12 → R' 713 (12 * d + p) ≤ (if p = o then R 708 o + 1 else R 708 p) ∧ R' 716 (12 * d + p) ≤ (if p = o then R 708 o + 1 else R 708 p) := fun d hd => by
      have q := q1 d p hd hp
      have g2 := g.2.2.2.2.2.2 d hd
      rw [r0 713 _ (by decide) (by decide) (by decide), r0 716 _ (by decide) (by decide) (by decide), q.1, q.2.2.2.1]
      by_cases e : p = o
      · subst e
        rw [if_pos rfl]
        refine ⟨?_, ?_⟩
        · split <;> omega
        · split
          · omega
          · split <;> omega
      · rw [if_neg e, if_neg (fun z => e z.1), if_neg (fun z => e z.1), if_neg (fun z => e z.1)]
        exact g2
    by_cases e : p = o
    · subst e
      rw [if_pos rfl] at hq
      rw [if_pos rfl, if_pos rfl, if_pos rfl, if_pos rfl, if_pos rfl]
      cases fin
      · simp only [Bool.false_eq_true, if_false]
        exact ⟨by omega, by omega, g.2.2.1, eln.symm, (by decide), fun _ => by omega, hq⟩
      · simp only [if_true]
        exact ⟨Nat.le_refl _, by omega, eln.symm, eln.symm, (by decide), fun _ => by omega, hq⟩
    · rw [if_neg e] at hq
      rw [if_neg e, if_neg e, if_neg e, if_neg e, if_neg e]
      exact ⟨g.1, by omega, g.2.2.1, g.2.2.2.1, g.2.2.2.2.1, g.2.2.2.2.2.1, hq⟩
  · refine ⟨⟨fun k hk => (cx 2 k (by omega) (by omega)).trans (hM.1.1 k hk), fun a ha => (cx 3 a (by omega) (by omega)).trans (hM.1.2 a ha)⟩, fun r hr j hj => ?_, fun r j hr h5 h6 h7 => ?_⟩
    · rw [cm r j hr, bm r j hr hj]
      split
      · rw [bv]
        split
        · exact (hA.2.2.2.2.1 _ (by omega)).2
        · decide
      · exact hM.2.1 r hr j hj
    · have hin := mx_in (r % 8) (Nat.mod_lt _ (by decide)) j h7
      have h30 := (mx_30 (r % 8) (Nat.mod_lt _ (by decide)) j h7).mpr ⟨h5, h6⟩
      rw [cm r j hr, bm r j hr h7, if_neg (by omega)]
      exact hM.2.2 r j hr h5 h6 h7
end
