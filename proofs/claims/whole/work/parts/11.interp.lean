/-! Horner's sums, divided differences, and Newton's interpolation in place; draft, not built yet. Names: gf_ -/
/-- c k, c (k + 1) .. (m of them) times the powers 0, 1 .. of x -/
def gf_h (c : Nat → Nat) (x : Nat) : Nat → Nat → Nat
  | _, 0 => 0
  | k, m + 1 => gf_t (gf_h c x (k + 1) m) x ^^^ c k
theorem gf_h_lt {c : Nat → Nat} (hc : ∀ k, c k < 256) (x : Nat) : ∀ m k, gf_h c x k m < 256
  | 0, _ => by show (0 : Nat) < 256; decide
  | m + 1, k => gf_xor_lt (gf_t_lt _ _) (hc k)
/-- the coefficients of (c - c at b) / (x - b), of c's N coefficients -/
def gf_D (N b : Nat) (c : Nat → Nat) : Nat → Nat := fun j => gf_h c b (j + 1) (N - (j + 1))
theorem gf_D_lt {N b : Nat} {c : Nat → Nat} (hc : ∀ k, c k < 256) (j : Nat) : gf_D N b c j < 256 := gf_h_lt hc b _ _
/-- Horner's sum, a step of it -/
theorem gf_h_step {N k x : Nat} {c : Nat → Nat} (h : k < N) : gf_h c x k (N - k) = gf_t (gf_D N x c k) x ^^^ c k := by
  rw [show N - k = (N - (k + 1)) + 1 by omega]
  rfl
theorem gf_L {N a b : Nat} {c : Nat → Nat} (hc : ∀ k, c k < 256) (ha : a < 256) (hb : b < 256) : ∀ m k, k + m = N → gf_h c a k m ^^^ gf_h c b k m = gf_t (a ^^^ b) (gf_h (gf_D N b c) a k m)
  | 0, k, _ => by
    show (0 : Nat) ^^^ 0 = gf_t (a ^^^ b) 0
    rw [gf_t_0r]; rfl
  | m + 1, k, hk => by
    have ih := gf_L (N := N) hc ha hb m (k + 1) (by omega)
    have hDk : gf_D N b c k = gf_h c b (k + 1) m := by
      show gf_h c b (k + 1) (N - (k + 1)) = _
      rw [show N - (k + 1) = m by omega]
    have hA := gf_h_lt hc a m (k + 1)
    have hB := gf_h_lt hc b m (k + 1)
    have hE := gf_h_lt (c := gf_D N b c) (fun j => gf_D_lt hc j) a m (k + 1)
    show (gf_t (gf_h c a (k + 1) m) a ^^^ c k) ^^^ (gf_t (gf_h c b (k + 1) m) b ^^^ c k) = gf_t (a ^^^ b) (gf_t (gf_h (gf_D N b c) a (k + 1) m) a ^^^ gf_D N b c k)
    rw [gf_xx, hDk]
    generalize gf_h c a (k + 1) m = A at *
    generalize gf_h c b (k + 1) m = B at *
    generalize gf_h (gf_D N b c) a (k + 1) m = E at *
    rw [gf_t_xor (gf_t_lt _ _) hB, ← gf_t_assoc, ← ih, gf_xor_t hA hB, gf_xor_t ha hb, gf_t_comm a B, gf_t_comm b B]
    rw [Nat.xor_assoc, ← Nat.xor_assoc (gf_t B a), Nat.xor_self, Nat.zero_xor]
theorem gf_ne0 {a b : Nat} (h : a ≠ b) : a ^^^ b ≠ 0 := fun q => h (gf_x0 q)
theorem gf_D_comm {N a b : Nat} {c : Nat → Nat} (hc : ∀ k, c k < 256) (ha : a < 256) (hb : b < 256) (hab : a ≠ b) : gf_D N a (gf_D N b c) = gf_D N b (gf_D N a c) := by
  funext j
  by_cases hj : j + 1 ≤ N
  · have h1 := gf_L (N := N) hc ha hb (N - (j + 1)) (j + 1) (by omega)
    have h2 := gf_L (N := N) hc hb ha (N - (j + 1)) (j + 1) (by omega)
    rw [Nat.xor_comm (gf_h c b _ _), h1, Nat.xor_comm b a] at h2
    exact gf_cancel (gf_xor_lt ha hb) (gf_ne0 hab) (gf_D_lt (fun k => gf_D_lt hc k) j) (gf_D_lt (fun k => gf_D_lt hc k) j) h2
  · show gf_h _ _ _ (N - (j + 1)) = gf_h _ _ _ (N - (j + 1))
    rw [show N - (j + 1) = 0 by omega]
    rfl
/-- the value at b of (c - c at a) / (x - a), and the other way round -/
theorem gf_D_sym {N a b : Nat} {c : Nat → Nat} (hc : ∀ k, c k < 256) (ha : a < 256) (hb : b < 256) (hab : a ≠ b) : gf_h (gf_D N a c) b 0 N = gf_h (gf_D N b c) a 0 N := by
  have h1 := gf_L (N := N) hc ha hb N 0 (by omega)
  have h2 := gf_L (N := N) hc hb ha N 0 (by omega)
  rw [Nat.xor_comm (gf_h c b _ _), h1, Nat.xor_comm b a] at h2
  exact (gf_cancel (gf_xor_lt ha hb) (gf_ne0 hab) (gf_h_lt (fun k => gf_D_lt hc k) _ _ _) (gf_h_lt (fun k => gf_D_lt hc k) _ _ _) h2).symm
def gf_Dn (N : Nat) (X c : Nat → Nat) (lo : Nat) : Nat → (Nat → Nat)
  | 0 => c
  | m + 1 => gf_D N (X (lo + m)) (gf_Dn N X c lo m)
theorem gf_Dn_lt {N lo : Nat} {X c : Nat → Nat} (hc : ∀ k, c k < 256) : ∀ m k, gf_Dn N X c lo m k < 256
  | 0, k => hc k
  | m + 1, k => gf_D_lt (fun j => gf_Dn_lt hc m j) k
theorem gf_h_0 {c : Nat → Nat} {x : Nat} : ∀ m k, (∀ j, k ≤ j → c j = 0) → gf_h c x k m = 0
  | 0, _, _ => rfl
  | m + 1, k, h => by
    show gf_t (gf_h c x (k + 1) m) x ^^^ c k = 0
    rw [gf_h_0 m (k + 1) (fun j hj => h j (by omega)), h k (Nat.le_refl k), gf_t_0l]; rfl
theorem gf_Dn_0 {N lo : Nat} {X c : Nat → Nat} (h0 : ∀ k, N ≤ k → c k = 0) : ∀ m k, N ≤ k + m → gf_Dn N X c lo m k = 0
  | 0, k, h => h0 k h
  | m + 1, k, h => gf_h_0 _ _ (fun j hj => gf_Dn_0 h0 m j (by omega))
section
variable {N : Nat} {X c : Nat → Nat}
theorem gf_Dn_front (hc : ∀ k, c k < 256) (hX : ∀ i, i < N → X i < 256) (hI : ∀ i j, i < N → j < N → X i = X j → i = j) (lo : Nat) : ∀ m, lo + m < N → gf_Dn N X c lo (m + 1) = gf_D N (X lo) (gf_Dn N X c (lo + 1) m)
  | 0, _ => rfl
  | m + 1, h => by
    show gf_D N (X (lo + (m + 1))) (gf_Dn N X c lo (m + 1)) = gf_D N (X lo) (gf_D N (X (lo + 1 + m)) (gf_Dn N X c (lo + 1) m))
    rw [gf_Dn_front hc hX hI lo m (by omega), show lo + 1 + m = lo + (m + 1) by omega]
    exact gf_D_comm (fun k => gf_Dn_lt hc m k) (hX _ (by omega)) (hX _ (by omega)) (fun q => by have := hI _ _ (by omega) (by omega) q; omega)
/-- the divided difference at the points i - s .. i -/
def gf_V (N : Nat) (X c : Nat → Nat) (s i : Nat) : Nat := gf_h (gf_Dn N X c (i - s) s) (X i) 0 N
theorem gf_V_lt (hc : ∀ k, c k < 256) (s i : Nat) : gf_V N X c s i < 256 := gf_h_lt (fun k => gf_Dn_lt hc s k) _ _ _
theorem gf_V_step (hc : ∀ k, c k < 256) (hX : ∀ i, i < N → X i < 256) (hI : ∀ i j, i < N → j < N → X i = X j → i = j) {s i : Nat} (hs : s + 1 ≤ i) (hi : i < N) :
    gf_V N X c (s + 1) i = gf_d (gf_V N X c s i ^^^ gf_V N X c s (i - 1)) (X i ^^^ X (i - (s + 1))) := by
  obtain ⟨lo, rfl⟩ : ∃ lo, i = lo + s + 1 := ⟨i - (s + 1), by omega⟩
  have e1 : lo + s + 1 - (s + 1) = lo := by omega
  have e2 : lo + s + 1 - s = lo + 1 := by omega
  have e3 : lo + s + 1 - 1 - s = lo := by omega
  have e4 : lo + s + 1 - 1 = lo + s := by omega
  have hne : X (lo + s + 1) ≠ X lo := fun q => by have := hI _ _ hi (by omega) q; omega
  have hQ : ∀ k, gf_Dn N X c (lo + 1) s k < 256 := fun k => gf_Dn_lt hc s k
  have key : gf_V N X c s (lo + s + 1 - 1) = gf_h (gf_Dn N X c (lo + 1) s) (X lo) 0 N := by
    unfold gf_V
    rw [e3, e4]
    cases s with
    | zero => rfl
    | succ s =>
      rw [gf_Dn_front hc hX hI lo s (by omega)]
      show _ = gf_h (gf_D N (X (lo + 1 + s)) (gf_Dn N X c (lo + 1) s)) (X lo) 0 N
      rw [show lo + 1 + s = lo + (s + 1) by omega]
      exact gf_D_sym (fun k => gf_Dn_lt hc s k) (hX _ (by omega)) (hX _ (by omega)) (fun q => by have := hI _ _ (by omega) (by omega) q; omega)
  rw [key, e1]
  have hL := gf_L (N := N) (c := gf_Dn N X c (lo + 1) s) hQ (hX _ hi) (hX lo (by omega)) N 0 (by omega)
  have hv : gf_V N X c s (lo + s + 1) = gf_h (gf_Dn N X c (lo + 1) s) (X (lo + s + 1)) 0 N := by unfold gf_V; rw [e2]
  have hw : gf_V N X c (s + 1) (lo + s + 1) = gf_h (gf_D N (X lo) (gf_Dn N X c (lo + 1) s)) (X (lo + s + 1)) 0 N := by
    unfold gf_V; rw [e1, gf_Dn_front hc hX hI lo s (by omega)]
  rw [hv, hw, hL]
  exact (gf_d_t (gf_xor_lt (hX _ hi) (hX lo (by omega))) (gf_ne0 hne) (gf_h_lt (fun k => gf_D_lt hQ k) _ _ _)).symm
end
/-- one step of the differences, in place -/
def gf_p1 (n : Nat) (X : Nat → Nat) (s : Nat) (v : Nat → Nat) : Nat → Nat := fun i => if s ≤ i ∧ i < n then gf_d (v i ^^^ v (i - 1)) (X i ^^^ X (i - s)) else v i
def gf_q1 (n : Nat) (X : Nat → Nat) : Nat → (Nat → Nat) → (Nat → Nat)
  | 0, v => v
  | s + 1, v => gf_p1 n X (s + 1) (gf_q1 n X s v)
/-- one step of the multiplying out, in place -/
def gf_p2 (n : Nat) (X : Nat → Nat) (k : Nat) (v : Nat → Nat) : Nat → Nat := fun i => if k ≤ i ∧ i + 1 < n then v i ^^^ gf_t (v (i + 1)) (X k) else v i
def gf_q2 (n : Nat) (X : Nat → Nat) : Nat → (Nat → Nat) → (Nat → Nat)
  | 0, v => v
  | m + 1, v => gf_q2 n X m (gf_p2 n X m v)
section
variable {n : Nat} {X c v : Nat → Nat}
theorem gf_q1_V (hc : ∀ k, c k < 256) (hX : ∀ i, i < n → X i < 256) (hI : ∀ i j, i < n → j < n → X i = X j → i = j) (hv : ∀ i, i < n → v i = gf_h c (X i) 0 n) : ∀ s i, i < n → gf_q1 n X s v i = gf_V n X c (min s i) i
  | 0, i, hi => by
    rw [Nat.zero_min]
    exact hv i hi
  | s + 1, i, hi => by
    show gf_p1 n X (s + 1) (gf_q1 n X s v) i = _
    unfold gf_p1
    by_cases hs : s + 1 ≤ i
    · rw [if_pos ⟨hs, hi⟩, gf_q1_V hc hX hI hv s i hi, gf_q1_V hc hX hI hv s (i - 1) (by omega), Nat.min_eq_left hs, Nat.min_eq_left (by omega : s ≤ i), Nat.min_eq_left (by omega : s ≤ i - 1)]
      exact (gf_V_step hc hX hI hs hi).symm
    · rw [if_neg (fun h => hs h.1), gf_q1_V hc hX hI hv s i hi, Nat.min_eq_right (by omega : i ≤ s), Nat.min_eq_right (by omega : i ≤ s + 1)]
theorem gf_q2_c (h0 : ∀ k, n ≤ k → c k = 0) : ∀ m (w : Nat → Nat), m < n → (∀ i, i < m → w i = gf_V n X c i i) → (∀ i, m ≤ i → i < n → w i = gf_Dn n X c 0 m (i - m)) → ∀ i, i < n → gf_q2 n X m w i = c i
  | 0, w, _, _, h2, i, hi => h2 i (Nat.zero_le i) hi
  | m + 1, w, hm, h1, h2, i, hi => by
    have hD : gf_Dn n X c 0 (m + 1) = gf_D n (X m) (gf_Dn n X c 0 m) := by
      show gf_D n (X (0 + m)) _ = _
      rw [Nat.zero_add]
    refine gf_q2_c h0 m (gf_p2 n X m w) (by omega) ?_ ?_ i hi
    · intro j hj
      unfold gf_p2
      rw [if_neg (fun h => by omega)]
      exact h1 j (by omega)
    · intro j hmj hj
      unfold gf_p2
      by_cases hjm : j = m
      · subst hjm
        rw [if_pos ⟨Nat.le_refl _, by omega⟩, h1 j (by omega), h2 (j + 1) (by omega) (by omega), Nat.sub_self, Nat.sub_self, hD]
        have hs := gf_h_step (N := n) (k := 0) (x := X j) (c := gf_Dn n X c 0 j) (by omega)
        have hv : gf_V n X c j j = gf_h (gf_Dn n X c 0 j) (X j) 0 (n - 0) := by unfold gf_V; rw [Nat.sub_self, Nat.sub_zero]
        rw [hv, hs, Nat.xor_comm (gf_t _ _), gf_xc]
      · have hs := gf_h_step (N := n) (k := j - m) (x := X m) (c := gf_Dn n X c 0 m) (by omega)
        have hw : w j = gf_h (gf_Dn n X c 0 m) (X m) (j - m) (n - (j - m)) := by
          rw [h2 j (by omega) hj, hD]
          show gf_h _ _ (j - (m + 1) + 1) (n - (j - (m + 1) + 1)) = _
          rw [show j - (m + 1) + 1 = j - m by omega]
        by_cases hjn : j + 1 < n
        · rw [if_pos ⟨hmj, hjn⟩, hw, hs, h2 (j + 1) (by omega) hjn, hD, show j + 1 - (m + 1) = j - m by omega, Nat.xor_comm (gf_t _ _), gf_xc]
        · rw [if_neg (fun h => hjn h.2), hw, hs]
          have hz : gf_D n (X m) (gf_Dn n X c 0 m) (j - m) = 0 := by
            rw [← hD]
            exact gf_Dn_0 h0 (m + 1) (j - m) (by omega)
          rw [hz, gf_t_0l, Nat.zero_xor]
/-- the interpolation gives the coefficients back -/
theorem gf_interp (hn : 0 < n) (hc : ∀ k, c k < 256) (h0 : ∀ k, n ≤ k → c k = 0) (hX : ∀ i, i < n → X i < 256) (hI : ∀ i j, i < n → j < n → X i = X j → i = j) (hv : ∀ i, i < n → v i = gf_h c (X i) 0 n) : ∀ i, i < n → gf_q2 n X (n - 1) (gf_q1 n X (n - 1) v) i = c i := by
  refine gf_q2_c h0 (n - 1) _ (by omega) ?_ ?_
  · intro i hi
    rw [gf_q1_V hc hX hI hv (n - 1) i (by omega), Nat.min_eq_right (by omega : i ≤ n - 1)]
  · intro i h1 h2
    have e : i = n - 1 := by omega
    subst e
    rw [gf_q1_V hc hX hI hv (n - 1) (n - 1) h2, Nat.min_self, Nat.sub_self]
    have hs := gf_h_step (N := n) (k := 0) (x := X (n - 1)) (c := gf_Dn n X c 0 (n - 1)) hn
    unfold gf_V
    rw [Nat.sub_self]
    rw [Nat.sub_zero] at hs
    rw [hs]
    have hz : gf_D n (X (n - 1)) (gf_Dn n X c 0 (n - 1)) 0 = 0 := gf_h_0 _ _ (fun j hj => gf_Dn_0 h0 (n - 1) j (by omega))
    rw [hz, gf_t_0l, Nat.zero_xor]
end
