/-! The relation is kept: rebuild -/
section
variable {C R C' R' : sm_X} {w : Nat → Nat → Nat} {CT : Nat → Nat → Nat → Nat} {LN : Nat → Nat → Nat} {K K' n m : Nat}
theorem sim_rchF (h : sim C R w CT LN K) (hm : m < 4096) {k : Nat} (hk : k < 12) : saf C w k (moff m n) = rch R n k m := by
  funext j
  by_cases hj : j < 12
  · exact sim_rch h hk hj
  · unfold saf rch
    rw [bitp_12 hm (by omega), Bool.false_and, Bool.and_false, decide_eq_false (fun q => hj (moff_b q).1), Bool.false_and]
theorem sim_rS (h : sim C R w CT LN K) (hm : m < 4096) (hn : n < 12) : ∀ k, k ≤ 12 → ∀ q, q < 12 → rS C w n m k q = rRS R n m k q
  | 0, _, q, hq => (h.2.2.2.1 q hq).2.2.2.1
  | k + 1, hk, q, hq => by
    have ih := sim_rS h hm hn k (by omega)
    have hI := h.2.2.1 k (by omega)
    show rS C w n m k q + (if snr C w n k = true ∧ 0 < C (691 + k) 1 ∧ chs (rS C w n m k) (saf C w k (moff m n)) q = true then rbs C k else 0) = rRS R n m k q + (if rwt R n k = true ∧ 0 < R 707 k ∧ chs (rRS R n m k) (rch R n k m) q = true then (R 707 k + 29) / 30 else 0)
    have e : chs (rS C w n m k) (saf C w k (moff m n)) q = chs (rRS R n m k) (rch R n k m) q := by
      unfold chs
      congr 1
      funext i
      rw [sim_rchF h hm (by omega), cN_congr ih]
    unfold rbs
    rw [ih q hq, e, sim_snr h hn (by omega), hI.2.1]
theorem sim_rT (h : sim C R w CT LN K) (hn : n < 12) : ∀ k, k ≤ 12 → rT C w n k = rRT R n k
  | 0, _ => rfl
  | k + 1, hk => by
    have hI := h.2.2.1 k (by omega)
    show rT C w n k + (if snr C w n k = true then 8 * rbs C k else 0) = rRT R n k + (if rwt R n k = true then 8 * ((R 707 k + 29) / 30) else 0)
    unfold rbs
    rw [sim_rT h hn k (by omega), sim_snr h hn (by omega), hI.2.1]
theorem sim_rebuild (h : sim C R w CT LN K) (hK : K + 1 ≤ K') (hKb : K < 2 ^ 20) (hn : n < 12) (hm : m < 4096) (hchk : ∀ k, k < 12 → rwt R n k = true → 0 < R 707 k → 8 ≤ sm_n (rch R n k m) 12) (hC' : rI C w (fun k => CT k (R 706 k)) n m 12 C') (hR' : rRI R n m 12 R') : sim C' R' w CT LN K' := by
  have hS12 := sim_rS h hm hn 12 (Nat.le_refl 12)
  have hrf := sim_rwf h hKb
  have hsn := fun {o : Nat} (ho : o < 12) => sim_snr h hn ho
  obtain ⟨hw, hA, hI, hN, hS, hD, hV, hC, hM⟩ := h
  have c1 : ∀ a j, a < 73 ∨ 77 ≤ a ∧ a < 79 ∨ 691 ≤ a → C' a j = C a j := fun a j ha => hC'.1 a j (by omega) (by omega) (by omega) (by omega) (by rintro ⟨-, q, hq, e⟩; omega) (by rintro ⟨p, hp, -, e⟩; have := hw n p; omega)
  have r1 : ∀ a j, a ≠ 712 → a ≠ 720 → a ≠ 721 → a ≠ 713 → a ≠ 714 → a ≠ 715 → R' a j = R a j := hR'.1
  refine ⟨hw, simA_c hA (c1 _ _ (by omega)) (c1 _ _ (by omega)) (fun i => c1 _ _ (by omega)) (fun i => c1 _ _ (by omega)) (r1 _ _ (by decide) (by decide) (by decide) (by decide) (by decide) (by decide)) (r1 _ _ (by decide) (by decide) (by decide) (by decide) (by decide) (by decide)) (fun i => r1 _ _ (by decide) (by decide) (by decide) (by decide) (by decide) (by decide)) (fun i => r1 _ _ (by decide) (by decide) (by decide) (by decide) (by decide) (by decide)),
    simI_c hI (fun o j ho hj => c1 _ _ (by omega)) (fun o ho => ⟨r1 _ _ (by decide) (by decide) (by decide) (by decide) (by decide) (by decide), r1 _ _ (by decide) (by decide) (by decide) (by decide) (by decide) (by decide), r1 _ _ (by decide) (by decide) (by decide) (by decide) (by decide) (by decide), r1 _ _ (by decide) (by decide) (by decide) (by decide) (by decide) (by decide), r1 _ _ (by decide) (by decide) (by decide) (by decide) (by decide) (by decide)⟩),
    fun q hq => ?_, fun d o hd ho => ?_, simD_c hD (fun d o j hd ho => by have := hw d o; exact rI_sh hC' hn (Nat.le_refl 12) hw hd ho (by omega) (by by_cases e : d = n; subst e; exact Or.inr (Or.inr (by omega)); exact Or.inl e)) (fun k => ⟨r1 _ _ (by decide) (by decide) (by decide) (by decide) (by decide) (by decide), r1 _ _ (by decide) (by decide) (by decide) (by decide) (by decide) (by decide), r1 _ _ (by decide) (by decide) (by decide) (by decide) (by decide) (by decide)⟩), fun o ho => ?_, hC, simM_c hM (fun a j ha => c1 _ _ (by omega)) (fun a j h3 h4 => c1 _ _ (by omega))⟩
  · have g := hN q hq
    have h2 := rRS_le (n := n) (m := m) hrf 12 (Nat.le_refl 12) q
    rw [rI_nd hC' hn (Nat.le_refl 12) hw hq (by decide), rI_nd hC' hn (Nat.le_refl 12) hw hq (by decide), hC'.2.1 q hq, hR'.2.1 q hq, hS12 q hq, r1 711 q (by decide) (by decide) (by decide) (by decide) (by decide) (by decide)]
    exact ⟨g.1, g.2.1, g.2.2.1, rfl, by omega⟩
  · have g := hS d o hd ho
    have hwd := hw d o
    have gI := hI o ho
    have gV := hV o ho
    by_cases e : d = n ∧ rwt R n o = true
    · obtain ⟨rfl, hrw⟩ := e
      have a1 := hC'.2.2 o ho (by rw [hsn ho]; exact hrw)
      have a2 := hR'.2.2.2 o ho hrw
      rw [a1.1, a1.2.1, a2.1, a2.2.1]
      refine ⟨gI.1, gI.2.1.trans gV.2.2.1, gV.2.2.1, fun i hi => ?_, fun i hi => ?_⟩
      · have l := ((hC o).2 (R 706 o)).1
        have hz : 0 < R 707 o := by rw [gV.2.2.1]; omega
        have h8 := hchk o ho hrw hz
        have ok := cN_ok (s := rRS R d m o) h8 (show 7 < 8 by decide)
        have hp := cQ_in 7 ok.2.2
        rw [a2.2.2 hz i (by omega)]
        generalize cN (rRS R d m o) (rch R d o m) 7 = c at ok hp
        have hfr : rfr R c o = true := by
          unfold rch at hp
          simp only [Bool.and_eq_true] at hp
          exact hp.2.2.2
        have ef : R 713 (12 * c + o) = R 706 o := of_decide_eq_true hfr
        have g3 := (hS c o ok.2.1 ho).2.2.2.1 i
        rw [ef] at g3
        exact g3 hi
      · rw [show 82 + 51 * d + 4 * o + 2 * w d o + 1 = 83 + 51 * d + 4 * o + 2 * w d o by omega]
        refine a1.2.2 i ?_
        unfold rbs
        rw [gI.2.1, gV.2.2.1]
        exact hi
    · have a2 := hR'.2.2.1 d o ho (by
        by_cases e1 : d = n
        · exact Or.inr (Or.inr (Bool.eq_false_iff.mpr (fun z => e ⟨e1, z⟩)))
        · exact Or.inl e1)
      have cs : ∀ a j, a = 82 + 51 * d + 4 * o + 2 * w d o ∨ a = 83 + 51 * d + 4 * o + 2 * w d o → C' a j = C a j := fun a j ha => hC'.1 a j (by omega) (by omega) (by omega) (by omega) (by rintro ⟨-, q, hq, e⟩; omega) (by
        rintro ⟨p, hp, hsp, e2⟩
        have hwp := hw n p
        have e3 : d = n ∧ o = p := by omega
        obtain ⟨rfl, rfl⟩ := e3
        rw [hsn ho] at hsp
        exact e ⟨rfl, hsp⟩)
      rw [cs _ 0 (Or.inl rfl), cs _ 1 (Or.inl rfl), a2.1, a2.2.1]
      have l := ((hC o).2 (R 713 (12 * d + o))).1
      exact ⟨g.1, g.2.1, g.2.2.1, simP_c g.2.2.2 (fun i _ => cs _ _ (Or.inr (by omega))) (fun i hi => a2.2.2 i (by omega))⟩
  · have g := hV o ho
    rw [r1 706 o (by decide) (by decide) (by decide) (by decide) (by decide) (by decide), r1 707 o (by decide) (by decide) (by decide) (by decide) (by decide) (by decide), r1 708 o (by decide) (by decide) (by decide) (by decide) (by decide) (by decide), r1 709 o (by decide) (by decide) (by decide) (by decide) (by decide) (by decide), r1 710 o (by decide) (by decide) (by decide) (by decide) (by decide) (by decide)]
    refine ⟨g.1, by omega, g.2.2.1, g.2.2.2.1, g.2.2.2.2.1, g.2.2.2.2.2.1, fun d hd => ?_⟩
    have g2 := g.2.2.2.2.2.2 d hd
    rw [r1 716 _ (by decide) (by decide) (by decide) (by decide) (by decide) (by decide)]
    refine ⟨?_, g2.2⟩
    by_cases e : d = n ∧ rwt R n o = true
    · obtain ⟨rfl, hrw⟩ := e
      rw [(hR'.2.2.2 o ho hrw).1]
      exact g.1
    · have a2 := hR'.2.2.1 d o ho (by
        by_cases e1 : d = n
        · exact Or.inr (Or.inr (Bool.eq_false_iff.mpr (fun z => e ⟨e1, z⟩)))
        · exact Or.inl e1)
      rw [a2.1]; exact g2.1
end
