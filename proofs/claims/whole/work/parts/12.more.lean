/-! The reference's product and powers; Horner's sums are linear; exchange of a double sum; the matrix of a content. Names: gf_, mx_ -/
theorem gf_t_2 {q a : Nat} (hq : q < 128) (ha : a < 256) : gf_t (2 * q) a = gf_x (gf_t q a) := by
  by_cases h0 : q = 0
  · subst h0
    rw [Nat.mul_zero, gf_t_0l]; decide
  by_cases h1 : a = 0
  · subst h1
    rw [gf_t_0r, gf_t_0r]; decide
  have e1 : 2 * q = gf_p (gf_e q + 1) := by
    show 2 * q = gf_x (gf_p (gf_e q))
    rw [gf_p_e (by omega) h0]
    unfold gf_x
    rw [if_pos hq]
  rw [gf_t_nz h0 h1, gf_t_nz (by omega) h1]
  show _ = gf_p (gf_e q + gf_e a + 1)
  rw [e1, gf_e_p, ← gf_p_mod, ← gf_p_mod (gf_e q + gf_e a + 1)]
  congr 1
  omega
theorem gf_odd : ∀ q, q < 128 → 2 * q + 1 = (2 * q) ^^^ 1 := by decide +kernel
/-- one turn of the reference's product -/
theorem gf_rt {a b k : Nat} (ha : a < 256) (hb : b < 256) : gf_t (b / 2 ^ k) a = if b / 2 ^ k % 2 = 1 then gf_x (gf_t (b / 2 ^ (k + 1)) a) ^^^ a else gf_x (gf_t (b / 2 ^ (k + 1)) a) := by
  have e : b / 2 ^ (k + 1) = b / 2 ^ k / 2 := by rw [Nat.pow_succ, Nat.div_div_eq_div_mul]
  have h1 : b / 2 ^ k < 256 := Nat.lt_of_le_of_lt (Nat.div_le_self _ _) hb
  rw [e]
  generalize b / 2 ^ k = z at *
  rw [← gf_t_2 (by omega) ha]
  split
  · rename_i h
    rw [show gf_t (2 * (z / 2)) a ^^^ a = gf_t (2 * (z / 2)) a ^^^ gf_t 1 a by rw [gf_t_1 ha], ← gf_xor_t (by omega) (by omega), ← gf_odd _ (by omega)]
    congr 1
    omega
  · congr 1
    omega
def gf_pw (x : Nat) : Nat → Nat
  | 0 => 1
  | k + 1 => gf_t (gf_pw x k) x
theorem gf_pw_lt (x : Nat) : ∀ k, gf_pw x k < 256
  | 0 => by show 1 < 256; decide
  | k + 1 => gf_t_lt _ _
/-- the same sum from its lowest power up -/
def gf_s (c : Nat → Nat) (x : Nat) : Nat → Nat
  | 0 => 0
  | n + 1 => gf_s c x n ^^^ gf_t (gf_pw x n) (c n)
theorem gf_h_up {c : Nat → Nat} (hc : ∀ k, c k < 256) (x : Nat) : ∀ m k, gf_h c x k (m + 1) = gf_h c x k m ^^^ gf_t (gf_pw x m) (c (k + m))
  | 0, k => by
    show gf_t 0 x ^^^ c k = 0 ^^^ gf_t 1 (c (k + 0))
    rw [gf_t_0l, gf_t_1 (hc _)]
    rfl
  | m + 1, k => by
    show gf_t (gf_h c x (k + 1) (m + 1)) x ^^^ c k = (gf_t (gf_h c x (k + 1) m) x ^^^ c k) ^^^ gf_t (gf_t (gf_pw x m) x) (c (k + (m + 1)))
    rw [gf_h_up hc x m (k + 1), gf_xor_t (gf_h_lt hc x m (k + 1)) (gf_t_lt _ _), show k + 1 + m = k + (m + 1) by omega]
    rw [gf_t_assoc (gf_pw x m) (c (k + (m + 1))) x, gf_t_assoc (gf_pw x m) x, gf_t_comm x (c (k + (m + 1)))]
    rw [Nat.xor_assoc, Nat.xor_assoc, Nat.xor_comm (c k)]
theorem gf_s_h {c : Nat → Nat} (hc : ∀ k, c k < 256) (x : Nat) : ∀ n, gf_s c x n = gf_h c x 0 n
  | 0 => rfl
  | n + 1 => by
    rw [gf_h_up hc x n 0, ← gf_s_h hc x n, Nat.zero_add]
    rfl
theorem gf_h_congr {c d : Nat → Nat} {x : Nat} : ∀ m k, (∀ i, k ≤ i → i < k + m → c i = d i) → gf_h c x k m = gf_h d x k m
  | 0, _, _ => rfl
  | m + 1, k, h => by
    show gf_t (gf_h c x (k + 1) m) x ^^^ c k = gf_t (gf_h d x (k + 1) m) x ^^^ d k
    rw [gf_h_congr m (k + 1) (fun i h1 h2 => h i (by omega) (by omega)), h k (Nat.le_refl k) (by omega)]
theorem gf_h_xor {c d : Nat → Nat} (hc : ∀ k, c k < 256) (hd : ∀ k, d k < 256) (x : Nat) : ∀ m k, gf_h (fun i => c i ^^^ d i) x k m = gf_h c x k m ^^^ gf_h d x k m
  | 0, _ => by show (0 : Nat) = 0 ^^^ 0; decide
  | m + 1, k => by
    show gf_t (gf_h (fun i => c i ^^^ d i) x (k + 1) m) x ^^^ (c k ^^^ d k) = (gf_t (gf_h c x (k + 1) m) x ^^^ c k) ^^^ (gf_t (gf_h d x (k + 1) m) x ^^^ d k)
    rw [gf_h_xor hc hd x m (k + 1), gf_xor_t (gf_h_lt hc x m _) (gf_h_lt hd x m _)]
    generalize gf_t (gf_h c x (k + 1) m) x = A
    generalize gf_t (gf_h d x (k + 1) m) x = B
    rw [Nat.xor_assoc, Nat.xor_assoc, ← Nat.xor_assoc B, Nat.xor_comm B, Nat.xor_assoc (c k)]
theorem gf_h_t {c : Nat → Nat} (hc : ∀ k, c k < 256) (x y : Nat) : ∀ m k, gf_h (fun i => gf_t (c i) y) x k m = gf_t (gf_h c x k m) y
  | 0, _ => (gf_t_0l y).symm
  | m + 1, k => by
    show gf_t (gf_h (fun i => gf_t (c i) y) x (k + 1) m) x ^^^ gf_t (c k) y = gf_t (gf_t (gf_h c x (k + 1) m) x ^^^ c k) y
    rw [gf_h_t hc x y m (k + 1), gf_xor_t (gf_t_lt _ _) (hc k), gf_t_assoc, gf_t_comm y x, ← gf_t_assoc]
theorem gf_exch {A : Nat → Nat → Nat} (hA : ∀ i j, A i j < 256) (x y k m : Nat) : ∀ n j, gf_h (fun i => gf_h (A i) y j n) x k m = gf_h (fun j => gf_h (fun i => A i j) x k m) y j n
  | 0, _ => gf_h_0 m k (fun _ _ => rfl)
  | n + 1, j => by
    show gf_h (fun i => gf_t (gf_h (A i) y (j + 1) n) y ^^^ A i j) x k m = gf_t (gf_h (fun j => gf_h (fun i => A i j) x k m) y (j + 1) n) y ^^^ gf_h (fun i => A i j) x k m
    rw [gf_h_xor (c := fun i => gf_t (gf_h (A i) y (j + 1) n) y) (d := fun i => A i j) (fun i => gf_t_lt _ _) (fun i => hA i j), gf_h_t (c := fun i => gf_h (A i) y (j + 1) n) (fun i => gf_h_lt (hA i) y _ _), gf_exch hA x y k m n (j + 1)]
/-- a sum's upper terms, and its lower -/
theorem gf_h_cut {c : Nat → Nat} (hc : ∀ k, c k < 256) (x : Nat) {n : Nat} : ∀ m k, gf_h c x k m = gf_h (fun i => if i < n then c i else 0) x k m ^^^ gf_h (fun i => if i < n then 0 else c i) x k m := by
  intro m k
  rw [← gf_h_xor (c := fun i => if i < n then c i else 0) (d := fun i => if i < n then 0 else c i) (fun i => by split; exact hc i; decide) (fun i => by split; decide; exact hc i)]
  refine gf_h_congr m k (fun i _ _ => ?_)
  show c i = (if i < n then c i else 0) ^^^ (if i < n then 0 else c i)
  split
  · rw [Nat.xor_zero]
  · rw [Nat.zero_xor]
theorem gf_h_low {c : Nat → Nat} {x n : Nat} (h0 : ∀ i, n ≤ i → c i = 0) : ∀ m, n ≤ m → gf_h c x 0 m = gf_h c x 0 n := by
  have key : ∀ d k, k ≤ n → gf_h c x k (n - k + d) = gf_h c x k (n - k) := by
    intro d k hk
    obtain ⟨e, rfl⟩ : ∃ e, n = k + e := ⟨n - k, by omega⟩
    rw [Nat.add_sub_cancel_left]
    clear hk
    induction e generalizing k with
    | zero =>
      rw [Nat.zero_add]
      exact gf_h_0 d k (fun i hi => h0 i (by omega))
    | succ e ih =>
      rw [show e + 1 + d = (e + d) + 1 by omega]
      show gf_t (gf_h c x (k + 1) (e + d)) x ^^^ c k = gf_t (gf_h c x (k + 1) e) x ^^^ c k
      rw [ih (k + 1) (fun i hi => h0 i (by omega))]
  intro m hm
  have := key (m - n) 0 (Nat.zero_le n)
  rw [Nat.sub_zero, show n + (m - n) = m by omega] at this
  exact this
/-! the matrix of a stripe: which byte stands in row r, column c; 30: none (a nought) -/
def mx_u (a b : Nat) : Nat := if 5 ≤ a then 30 else if b < 5 then 5 * a - a * (a - 1) / 2 + (b - a) else 15 + 3 * a + (b - 5)
def mx_i (r c : Nat) : Nat := if r ≤ c then mx_u r c else mx_u c r
def mx_R : List Nat := [0, 0, 0, 0, 0, 1, 1, 1, 1, 2, 2, 2, 3, 3, 4, 0, 0, 0, 1, 1, 1, 2, 2, 2, 3, 3, 3, 4, 4, 4]
def mx_C : List Nat := [0, 1, 2, 3, 4, 1, 2, 3, 4, 2, 3, 4, 3, 4, 4, 5, 6, 7, 5, 6, 7, 5, 6, 7, 5, 6, 7, 5, 6, 7]
def sm_row (j : Nat) : Nat := mx_R.getD j 0
def sm_col (j : Nat) : Nat := mx_C.getD j 0
theorem mx_rc : ∀ j, j < 30 → sm_row j < 5 ∧ sm_col j < 8 ∧ sm_row j ≤ sm_col j ∧ mx_i (sm_row j) (sm_col j) = j ∧ mx_i (sm_col j) (sm_row j) = j := by decide +kernel
theorem mx_in : ∀ r, r < 8 → ∀ c, c < 8 → (mx_i r c < 30 ∧ ((r = sm_row (mx_i r c) ∧ c = sm_col (mx_i r c)) ∨ (c = sm_row (mx_i r c) ∧ r = sm_col (mx_i r c)))) ∨ (mx_i r c = 30 ∧ 5 ≤ r ∧ 5 ≤ c) := by decide +kernel
theorem mx_sym : ∀ r, r < 8 → ∀ c, c < 8 → mx_i r c = mx_i c r := by decide +kernel
theorem mx_30 : ∀ r, r < 8 → ∀ c, c < 8 → (mx_i r c = 30 ↔ 5 ≤ r ∧ 5 ≤ c) := by decide +kernel
/-- row r of the matrices below each other, column c, of the content v -/
def mx (v : Nat → Nat) (r c : Nat) : Nat := if mx_i (r % 8) c < 30 then v (30 * (r / 8) + mx_i (r % 8) c) else 0
theorem mx_lt {v : Nat → Nat} (hv : ∀ i, v i < 256) (r c : Nat) : mx v r c < 256 := by
  unfold mx
  split
  · exact hv _
  · decide
theorem mx_s {v : Nat → Nat} {s a b : Nat} (ha : a < 8) (hb : b < 8) : mx v (8 * s + a) b = mx v (8 * s + b) a := by
  unfold mx
  rw [show (8 * s + a) % 8 = a by omega, show (8 * s + b) % 8 = b by omega, show (8 * s + a) / 8 = s by omega, show (8 * s + b) / 8 = s by omega, mx_sym a ha b hb]
theorem mx_0 {v : Nat → Nat} {r c : Nat} (hc : c < 8) (h5 : 5 ≤ r % 8) (h6 : 5 ≤ c) : mx v r c = 0 := by
  unfold mx
  rw [if_neg]
  have := (mx_30 (r % 8) (Nat.mod_lt _ (by decide)) c hc).mpr ⟨h5, h6⟩
  omega
/-- the byte i of the share of the point x -/
def mx_b (v : Nat → Nat) (x i : Nat) : Nat := gf_h (mx v i) x 0 8
