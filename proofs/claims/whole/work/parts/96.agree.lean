/-! Both sides' answers and cases agree -/
section
variable {X X1 V : sm_X} {w : Nat → Nat → Nat} {CT : Nat → Nat → Nat → Nat} {LN : Nat → Nat → Nat} {K o n m : Nat}
/-- how many messages a put sends -/
def mpt (X : sm_X) (a : Nat) : Nat := if X 703 4 = 4294967295 then a else if X 703 4 < a then X 703 4 else a
theorem ag_tkm (h : sim X X w CT LN K) (ho : o < 12) {a : Nat} : tkm (puB X o n) a (mpt X a) := by
  have hA := h.2.1
  have e : puB X o n 0 9 = X 703 4 := by
    unfold puB
    rw [sm_up_x (Or.inl (by omega)), sm_up_x (Or.inl (by omega)), sm_up_x (Or.inl (by omega))]
    exact hA.1
  unfold tkm mpt
  rw [e]
  by_cases e1 : X 703 4 = 4294967295
  · exact Or.inl ⟨e1, if_pos e1⟩
  · have h2 := hA.2.1.resolve_left e1
    refine Or.inr ⟨X 703 4, by omega, rfl, ?_⟩
    rw [if_neg e1]
    by_cases e2 : X 703 4 < a
    · rw [if_pos e2, if_pos (by omega)]
    · rw [if_neg e2]
      split <;> omega
theorem ag_rmo (h : sim X X w CT LN K) (h1 : X1 703 4 = X 703 4) {a : Nat} : rmo X1 a (mpt X a) := by
  have hA := h.2.1
  unfold rmo mpt
  rw [h1]
  by_cases e1 : X 703 4 = 4294967295
  · exact Or.inl ⟨e1, if_pos e1⟩
  · have h2 := hA.2.1.resolve_left e1
    exact Or.inr ⟨X 703 4, by omega, rfl, if_neg e1⟩
theorem ag_rgp (h : sim X X w CT LN K) (ho : o < 12) : sm_n (saf X w o m) 12 = sm_n (rgp X o m) 12 := sm_n_congr 12 (fun k hk => sim_saf h ho hk)
theorem ag_fresh (h : sim X X w CT LN K) (ho : o < 12) {k : Nat} (hk : k < 12) (hf : sfr X w k o = true) {i : Nat} (hi : i < 8 * ((X (691 + o) 1 + 29) / 30)) : X (83 + 51 * k + 4 * o + 2 * w k o) i = mx_b (CT o (X 706 o)) (k + 1) i := by
  have g := h.2.2.2.2.1 k o hk ho
  have gI := h.2.2.1 o ho
  have gV := h.2.2.2.2.2.2.1 o ho
  rw [sim_sfr h hk ho] at hf
  have ef : X 713 (12 * k + o) = X 706 o := of_decide_eq_true hf
  have g2 := g.2.2.2.2 i
  rw [ef] at g2
  rw [show 83 + 51 * k + 4 * o + 2 * w k o = 82 + 51 * k + 4 * o + 2 * w k o + 1 by omega]
  refine g2 ?_
  rw [← gV.2.2.1, ← gI.2.1]
  exact hi
theorem ag_getB (h : sim X X w CT LN K) (ho : o < 12) : ∀ k, k < 12 → (saf X w o m) k = true → ∀ i, i < (8 * (((X (691 + o) 1) + 29) / 30)) → X (83 + 51 * k + 4 * o + 2 * w k o) i = mx_b (CT o (X 706 o)) (k + 1) i := fun k hk hs i hi => by
  unfold saf at hs
  simp only [Bool.and_eq_true] at hs
  exact ag_fresh h ho hk hs.2.2 hi
theorem ag_rebB (h : sim X X w CT LN K) : ∀ k, k < 12 → snr X w n k = true → ∀ j, j < 12 → saf X w k (moff m n) j = true → ∀ i, i < 8 * rbs X k → X (83 + 51 * j + 4 * k + 2 * w j k) i = mx_b (CT k (X 706 k)) (j + 1) i := fun k hk _ j hj hs i hi => by
  unfold saf at hs
  simp only [Bool.and_eq_true] at hs
  exact ag_fresh h hk hj hs.2.2 hi
theorem ag_lt (h : sim X X w CT LN K) (k v i : Nat) : CT k v i < 256 := (((h.2.2.2.2.2.2.2.1 k).2 v).2 i).1
/-- rebuild's check: the same on both sides -/
theorem ag_slh (h : sim X X w CT LN K) (hm : m < 4096) {k : Nat} (hk : k < 12) : slh X w k (moff m n) = (decide (0 < X 707 k) && decide (sm_n (rch X n k m) 12 < 8)) := by
  unfold slh
  rw [pop_k, (h.2.2.1 k hk).2.1, sim_rchF h hm hk]
theorem rch_V (hV : ∀ a j, 703 < a → a < 719 → V a j = X a j) {k : Nat} : rch V n k m = rch X n k m := by
  funext d
  unfold rch rlv rfr
  rw [hV 711 d (by decide) (by decide), hV 713 _ (by decide) (by decide), hV 706 k (by decide) (by decide)]
theorem rwt_V (hV : ∀ a j, 703 < a → a < 719 → V a j = X a j) {k : Nat} : rwt V n k = rwt X n k := by
  unfold rwt rfr
  rw [hV 710 k (by decide) (by decide), hV 713 _ (by decide) (by decide), hV 706 k (by decide) (by decide)]
theorem ag_byteAt (h : sim X X w CT LN K) (hn : n < 12) (ho : o < 12) (hV : ∀ a j, 703 < a → a < 719 → V a j = X a j) {i : Nat} (hi : i < 8 * ((X (82 + 51 * n + 4 * o + 2 * w n o) 1 + 29) / 30)) : X (83 + 51 * n + 4 * o + 2 * w n o) i = mx_b (rbo V (12 * n + o)) (n + 1) i := by
  have g := h.2.2.2.2.1 n o hn ho
  have e : rbo V (12 * n + o) = rbo X (12 * n + o) := funext fun q => by
    unfold rbo
    rw [hV 714 _ (by decide) (by decide), hV 715 _ (by decide) (by decide)]
  rw [e, sim_rbo h hn ho, show 83 + 51 * n + 4 * o + 2 * w n o = 82 + 51 * n + 4 * o + 2 * w n o + 1 by omega]
  rw [g.2.1] at hi
  exact g.2.2.2.2 i hi
theorem ag_bL (h : sim X X w CT LN K) (hn : n < 12) (ho : o < 12) (hV : ∀ a j, 703 < a → a < 719 → V a j = X a j) (j : Nat) : rbo V (12 * n + o) j < 256 := by
  have e : rbo V (12 * n + o) = rbo X (12 * n + o) := funext fun q => by
    unfold rbo
    rw [hV 714 _ (by decide) (by decide), hV 715 _ (by decide) (by decide)]
  rw [e, sim_rbo h hn ho]
  exact ag_lt h _ _ _
theorem ag_size (h : sim X X w CT LN K) (hn : n < 12) (ho : o < 12) : X (82 + 51 * n + 4 * o + 2 * w n o) 1 = X 714 (12 * n + o) := by
  have g := h.2.2.2.2.1 n o hn ho
  rw [g.2.1, g.2.2.1]
theorem ag_share (h : sim X X w CT LN K) (hn : n < 12) (ho : o < 12) {q : Nat} : (if q = 0 then X (82 + 51 * n + 4 * o + 2 * w n o) 0 else X (82 + 51 * n + 4 * o + 2 * w n o) 1) = (if q = 0 then X 713 (12 * n + o) else X 714 (12 * n + o)) := by
  rw [ag_size h hn ho, (h.2.2.2.2.1 n o hn ho).1]
theorem ag_object (h : sim X X w CT LN K) (ho : o < 12) {q : Nat} : (if q = 0 then X (691 + o) 0 else if q = 1 then X (691 + o) 1 else X (691 + o) 4) = (if q = 0 then X 706 o else if q = 1 then X 707 o else X 710 o) := by
  have g := h.2.2.1 o ho
  rw [g.1, g.2.1, g.2.2.2.2]
theorem ag_node (h : sim X X w CT LN K) (hn : n < 12) {q : Nat} (hq : q < 4) : (if q = 0 then X (79 + 51 * n) 3 else if q = 1 then X (79 + 51 * n) 4 else if q = 2 then sm_n (fun k => sfr X w n k) 12 else sm_n (fun k => decide (X (82 + 51 * n + 4 * k + 2 * (1 - w n k)) 0 ≠ 0)) 12) = (if q = 0 then 1 - X 711 n else if q = 1 then X 712 n else sm_n (fun k => if q = 2 then rfr X n k else rsh X n k) 12) := by
  have g := h.2.2.2.1 n hn
  rw [g.2.1, g.2.2.2.1]
  by_cases e0 : q = 0
  · rw [if_pos e0, if_pos e0]
  · rw [if_neg e0, if_neg e0]
    by_cases e1 : q = 1
    · rw [if_pos e1, if_pos e1]
    · rw [if_neg e1, if_neg e1]
      by_cases e2 : q = 2
      · rw [if_pos e2]
        refine sm_n_congr 12 (fun k hk => ?_)
        rw [if_pos e2]
        exact sim_sfr h hn hk
      · rw [if_neg e2]
        refine sm_n_congr 12 (fun k hk => ?_)
        rw [if_neg e2]
        unfold rsh
        rw [(h.2.2.2.2.2.1 n k hn hk).1]
theorem ag_out (h : sim X X w CT LN K) {i : Nat} (hi : i < X 703 2) : X 78 i = X 705 i := h.2.1.2.2.2.2.2 i hi
end
