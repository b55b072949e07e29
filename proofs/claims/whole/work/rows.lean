section
/-! The field of 256 by powers of x; draft, not built yet. Names: gf_ -/
def gf_x (a : Nat) : Nat := if a < 128 then 2 * a else (2 * a) ^^^ 285
def gf_p : Nat → Nat
  | 0 => 1
  | k + 1 => gf_x (gf_p k)
def gf_LP : List Nat := [1, 2, 4, 8, 16, 32, 64, 128, 29, 58, 116, 232, 205, 135, 19, 38, 76, 152, 45, 90, 180, 117, 234, 201, 143, 3, 6, 12, 24, 48, 96, 192, 157, 39, 78, 156, 37, 74, 148, 53, 106, 212, 181, 119, 238, 193, 159, 35, 70, 140, 5, 10, 20, 40, 80, 160, 93, 186, 105, 210, 185, 111, 222, 161, 95, 190, 97, 194, 153, 47, 94, 188, 101, 202, 137, 15, 30, 60, 120, 240, 253, 231, 211, 187, 107, 214, 177, 127, 254, 225, 223, 163, 91, 182, 113, 226, 217, 175, 67, 134, 17, 34, 68, 136, 13, 26, 52, 104, 208, 189, 103, 206, 129, 31, 62, 124, 248, 237, 199, 147, 59, 118, 236, 197, 151, 51, 102, 204, 133, 23, 46, 92, 184, 109, 218, 169, 79, 158, 33, 66, 132, 21, 42, 84, 168, 77, 154, 41, 82, 164, 85, 170, 73, 146, 57, 114, 228, 213, 183, 115, 230, 209, 191, 99, 198, 145, 63, 126, 252, 229, 215, 179, 123, 246, 241, 255, 227, 219, 171, 75, 150, 49, 98, 196, 149, 55, 110, 220, 165, 87, 174, 65, 130, 25, 50, 100, 200, 141, 7, 14, 28, 56, 112, 224, 221, 167, 83, 166, 81, 162, 89, 178, 121, 242, 249, 239, 195, 155, 43, 86, 172, 69, 138, 9, 18, 36, 72, 144, 61, 122, 244, 245, 247, 243, 251, 235, 203, 139, 11, 22, 44, 88, 176, 125, 250, 233, 207, 131, 27, 54, 108, 216, 173, 71, 142]
def gf_LE : List Nat := [0, 0, 1, 25, 2, 50, 26, 198, 3, 223, 51, 238, 27, 104, 199, 75, 4, 100, 224, 14, 52, 141, 239, 129, 28, 193, 105, 248, 200, 8, 76, 113, 5, 138, 101, 47, 225, 36, 15, 33, 53, 147, 142, 218, 240, 18, 130, 69, 29, 181, 194, 125, 106, 39, 249, 185, 201, 154, 9, 120, 77, 228, 114, 166, 6, 191, 139, 98, 102, 221, 48, 253, 226, 152, 37, 179, 16, 145, 34, 136, 54, 208, 148, 206, 143, 150, 219, 189, 241, 210, 19, 92, 131, 56, 70, 64, 30, 66, 182, 163, 195, 72, 126, 110, 107, 58, 40, 84, 250, 133, 186, 61, 202, 94, 155, 159, 10, 21, 121, 43, 78, 212, 229, 172, 115, 243, 167, 87, 7, 112, 192, 247, 140, 128, 99, 13, 103, 74, 222, 237, 49, 197, 254, 24, 227, 165, 153, 119, 38, 184, 180, 124, 17, 68, 146, 217, 35, 32, 137, 46, 55, 63, 209, 91, 149, 188, 207, 205, 144, 135, 151, 178, 220, 252, 190, 97, 242, 86, 211, 171, 20, 42, 93, 158, 132, 60, 57, 83, 71, 109, 65, 162, 31, 45, 67, 216, 183, 123, 164, 118, 196, 23, 73, 236, 127, 12, 111, 246, 108, 161, 59, 82, 41, 157, 85, 170, 251, 96, 134, 177, 187, 204, 62, 90, 203, 89, 95, 176, 156, 169, 160, 81, 11, 245, 22, 235, 122, 117, 44, 215, 79, 174, 213, 233, 230, 231, 173, 232, 116, 214, 244, 234, 168, 80, 88, 175]
def gf_e (a : Nat) : Nat := gf_LE.getD a 0
def gf_t (a b : Nat) : Nat := if a = 0 ∨ b = 0 then 0 else gf_p ((gf_e a + gf_e b) % 255)
def gf_d (b a : Nat) : Nat := if a = 0 ∨ b = 0 then 0 else gf_p ((gf_e b + 255 - gf_e a) % 255)
def gf_xn : Nat → Nat → Nat
  | 0, b => b
  | k + 1, b => gf_x (gf_xn k b)
theorem gf_x_ok : ∀ a, a < 256 → gf_x a < 256 ∧ (a ≠ 0 → gf_x a ≠ 0) := by decide +kernel
theorem gf_LP_step : ∀ k, k < 254 → gf_LP.getD (k + 1) 0 = gf_x (gf_LP.getD k 0) := by decide +kernel
theorem gf_LP_last : gf_x (gf_LP.getD 254 0) = 1 := by decide +kernel
theorem gf_LE_P : ∀ k, k < 255 → gf_LE.getD (gf_LP.getD k 0) 0 = k := by decide +kernel
theorem gf_LP_E : ∀ a, a < 256 → a ≠ 0 → gf_LE.getD a 0 < 255 ∧ gf_LP.getD (gf_LE.getD a 0) 0 = a := by decide +kernel
theorem gf_p_ok (k : Nat) : gf_p k < 256 ∧ gf_p k ≠ 0 := by
  induction k with
  | zero => exact ⟨by decide, by decide⟩
  | succ k ih => exact ⟨(gf_x_ok _ ih.1).1, (gf_x_ok _ ih.1).2 ih.2⟩
theorem gf_p_L : ∀ k, k < 255 → gf_p k = gf_LP.getD k 0 := by
  intro k
  induction k with
  | zero => intro _; decide
  | succ k ih =>
    intro h
    show gf_x (gf_p k) = _
    rw [ih (by omega), gf_LP_step k (by omega)]
theorem gf_p_255 : gf_p 255 = 1 := by
  show gf_x (gf_p 254) = 1
  rw [gf_p_L 254 (by decide)]
  exact gf_LP_last
theorem gf_p_add255 (k : Nat) : gf_p (k + 255) = gf_p k := by
  induction k with
  | zero => rw [Nat.zero_add, gf_p_255]; rfl
  | succ k ih =>
    rw [show k + 1 + 255 = (k + 255) + 1 by omega]
    show gf_x (gf_p (k + 255)) = gf_x (gf_p k)
    rw [ih]
theorem gf_p_mul255 (k q : Nat) : gf_p (k + 255 * q) = gf_p k := by
  induction q with
  | zero => rw [Nat.mul_zero, Nat.add_zero]
  | succ q ih => rw [show k + 255 * (q + 1) = (k + 255 * q) + 255 by omega, gf_p_add255, ih]
theorem gf_p_mod (n : Nat) : gf_p (n % 255) = gf_p n := by
  have h := gf_p_mul255 (n % 255) (n / 255)
  rw [Nat.mod_add_div] at h
  exact h.symm
theorem gf_e_lt {a : Nat} (h : a < 256) : gf_e a < 255 := by
  by_cases h0 : a = 0
  · subst h0; decide
  · exact (gf_LP_E a h h0).1
theorem gf_p_e {a : Nat} (h : a < 256) (h0 : a ≠ 0) : gf_p (gf_e a) = a := by
  rw [gf_p_L _ (gf_e_lt h)]
  exact (gf_LP_E a h h0).2
theorem gf_e_p (k : Nat) : gf_e (gf_p k) = k % 255 := by
  rw [← gf_p_mod, gf_p_L _ (Nat.mod_lt _ (by decide))]
  exact gf_LE_P _ (Nat.mod_lt _ (by decide))
theorem gf_x_xor8 : (List.range 256).all (fun a => (List.range 256).all (fun b => gf_x (a ^^^ b) == (gf_x a ^^^ gf_x b))) = true := by decide +kernel
theorem gf_x_xor {a b : Nat} (ha : a < 256) (hb : b < 256) : gf_x (a ^^^ b) = gf_x a ^^^ gf_x b := by
  have h1 := List.all_eq_true.mp gf_x_xor8 a (List.mem_range.mpr ha)
  have h2 := List.all_eq_true.mp h1 b (List.mem_range.mpr hb)
  exact eq_of_beq h2
theorem gf_xor_lt {a b : Nat} (ha : a < 256) (hb : b < 256) : a ^^^ b < 256 := Nat.xor_lt_two_pow (n := 8) ha hb
theorem gf_xn_lt (k : Nat) {b : Nat} (hb : b < 256) : gf_xn k b < 256 := by
  induction k with
  | zero => exact hb
  | succ k ih => exact (gf_x_ok _ ih).1
theorem gf_xn_xor (k : Nat) {a b : Nat} (ha : a < 256) (hb : b < 256) : gf_xn k (a ^^^ b) = gf_xn k a ^^^ gf_xn k b := by
  induction k with
  | zero => rfl
  | succ k ih =>
    show gf_x (gf_xn k (a ^^^ b)) = gf_x (gf_xn k a) ^^^ gf_x (gf_xn k b)
    rw [ih, gf_x_xor (gf_xn_lt k ha) (gf_xn_lt k hb)]
theorem gf_xn_0 (k : Nat) : gf_xn k 0 = 0 := by
  induction k with
  | zero => rfl
  | succ k ih =>
    show gf_x (gf_xn k 0) = 0
    rw [ih]; decide
theorem gf_xn_p (k j : Nat) : gf_xn k (gf_p j) = gf_p (j + k) := by
  induction k with
  | zero => rfl
  | succ k ih =>
    show gf_x (gf_xn k (gf_p j)) = gf_x (gf_p (j + k))
    rw [ih]
theorem gf_t_0l (b : Nat) : gf_t 0 b = 0 := if_pos (Or.inl rfl)
theorem gf_t_0r (a : Nat) : gf_t a 0 = 0 := if_pos (Or.inr rfl)
theorem gf_t_nz {a b : Nat} (ha : a ≠ 0) (hb : b ≠ 0) : gf_t a b = gf_p (gf_e a + gf_e b) := by
  unfold gf_t
  rw [if_neg (fun h => h.elim ha hb), gf_p_mod]
theorem gf_t_lt (a b : Nat) : gf_t a b < 256 := by
  unfold gf_t
  split
  · decide
  · exact (gf_p_ok _).1
theorem gf_t_comm (a b : Nat) : gf_t a b = gf_t b a := by
  unfold gf_t
  rw [Nat.add_comm (gf_e a)]
  by_cases h : a = 0 ∨ b = 0
  · rw [if_pos h, if_pos h.symm]
  · rw [if_neg h, if_neg (fun q => h q.symm)]
theorem gf_t_xn {a b : Nat} (ha : a ≠ 0) (hb : b < 256) : gf_t a b = gf_xn (gf_e a) b := by
  by_cases h0 : b = 0
  · subst h0; rw [gf_t_0r, gf_xn_0]
  · rw [gf_t_nz ha h0, Nat.add_comm, ← gf_xn_p, gf_p_e hb h0]
theorem gf_t_xor {a b c : Nat} (hb : b < 256) (hc : c < 256) : gf_t a (b ^^^ c) = gf_t a b ^^^ gf_t a c := by
  by_cases h0 : a = 0
  · subst h0; rw [gf_t_0l, gf_t_0l, gf_t_0l]; rfl
  · rw [gf_t_xn h0 (gf_xor_lt hb hc), gf_t_xn h0 hb, gf_t_xn h0 hc, gf_xn_xor _ hb hc]
theorem gf_xor_t {a b c : Nat} (ha : a < 256) (hb : b < 256) : gf_t (a ^^^ b) c = gf_t a c ^^^ gf_t b c := by
  rw [gf_t_comm, gf_t_xor ha hb, gf_t_comm c a, gf_t_comm c b]
theorem gf_t_assoc (a b c : Nat) : gf_t (gf_t a b) c = gf_t a (gf_t b c) := by
  by_cases ha : a = 0
  · subst ha; rw [gf_t_0l, gf_t_0l, gf_t_0l]
  by_cases hb : b = 0
  · subst hb; rw [gf_t_0r, gf_t_0l, gf_t_0r]
  by_cases hc : c = 0
  · subst hc; rw [gf_t_0r, gf_t_0r, gf_t_0r]
  rw [gf_t_nz ha hb, gf_t_nz hb hc, gf_t_nz (gf_p_ok _).2 hc, gf_t_nz ha (gf_p_ok _).2, gf_e_p, gf_e_p]
  rw [← gf_p_mod ((gf_e a + gf_e b) % 255 + gf_e c), ← gf_p_mod (gf_e a + (gf_e b + gf_e c) % 255)]
  congr 1
  omega
theorem gf_t_1 {a : Nat} (ha : a < 256) : gf_t 1 a = a := by
  by_cases h0 : a = 0
  · subst h0; exact gf_t_0r 1
  · rw [gf_t_nz (by decide) h0, show gf_e 1 = 0 by decide, Nat.zero_add, gf_p_e ha h0]
theorem gf_d_lt (b a : Nat) : gf_d b a < 256 := by
  unfold gf_d
  split
  · decide
  · exact (gf_p_ok _).1
/-- a quotient: what a has to be multiplied by to give b -/
theorem gf_t_d {a b : Nat} (ha : a < 256) (h0 : a ≠ 0) (hb : b < 256) : gf_t a (gf_d b a) = b := by
  by_cases hb0 : b = 0
  · subst hb0; rw [show gf_d 0 a = 0 from if_pos (Or.inr rfl), gf_t_0r]
  · have hd : gf_d b a = gf_p ((gf_e b + 255 - gf_e a) % 255) := if_neg (fun h => h.elim h0 hb0)
    have ha1 := gf_e_lt ha
    have hb1 := gf_e_lt hb
    rw [hd, gf_t_nz h0 (gf_p_ok _).2, gf_e_p, ← gf_p_mod]
    rw [show (gf_e a + (gf_e b + 255 - gf_e a) % 255 % 255) % 255 = gf_e b by omega]
    exact gf_p_e hb hb0
theorem gf_d_t {a u : Nat} (ha : a < 256) (h0 : a ≠ 0) (hu : u < 256) : gf_d (gf_t a u) a = u := by
  by_cases hu0 : u = 0
  · subst hu0; rw [gf_t_0r]; exact if_pos (Or.inr rfl)
  · have ha1 := gf_e_lt ha
    have hu1 := gf_e_lt hu
    rw [gf_t_nz h0 hu0]
    unfold gf_d
    rw [if_neg (fun h => h.elim h0 (gf_p_ok _).2), gf_e_p]
    rw [show ((gf_e a + gf_e u) % 255 + 255 - gf_e a) % 255 = gf_e u by omega]
    exact gf_p_e hu hu0
theorem gf_cancel {a u v : Nat} (ha : a < 256) (h0 : a ≠ 0) (hu : u < 256) (hv : v < 256) (h : gf_t a u = gf_t a v) : u = v := by
  rw [← gf_d_t ha h0 hu, h, gf_d_t ha h0 hv]
theorem gf_xx (x y c : Nat) : (x ^^^ c) ^^^ (y ^^^ c) = x ^^^ y := by
  rw [Nat.xor_comm y c, Nat.xor_assoc, ← Nat.xor_assoc c c y, Nat.xor_self, Nat.zero_xor]
theorem gf_xc (x c : Nat) : (x ^^^ c) ^^^ c = x := by
  rw [Nat.xor_assoc, Nat.xor_self, Nat.xor_zero]
theorem gf_x0 {x y : Nat} (h : x ^^^ y = 0) : x = y := by
  have h1 := gf_xc x y
  rw [h, Nat.zero_xor] at h1
  exact h1.symm
end
section
/-! Horner's sums, divided differences, and Newton's interpolation in place; draft, not built yet. Names: gf_ -/
/-- c k, c (k + 1) .. (m of them) times the powers 0, 1 .. of x -/
def gf_h (c : Nat → Nat) (x : Nat) : Nat → Nat → Nat
  | _, 0 => 0
  | k, m + 1 => gf_t (gf_h c x (k + 1) m) x ^^^ c k
theorem gf_h_lt {c : Nat → Nat} (hc : ∀ k, c k < 256) (x : Nat) : ∀ m k, gf_h c x k m < 256
  | 0, _ => by show (0 : Nat) < 256; decide
  | m + 1, k => gf_xor_lt (gf_t_lt _ _) (hc k)
/-- the coefficients of (c - c at b) / (x - b), of c's N coefficients -/
def gf_D (N b : Nat) (c : Nat → Nat) : Nat → Nat := fun j => gf_h c b (j + 1) (N - (j + 1))
theorem gf_D_lt {N b : Nat} {c : Nat → Nat} (hc : ∀ k, c k < 256) (j : Nat) : gf_D N b c j < 256 := gf_h_lt hc b _ _
/-- Horner's sum, a step of it -/
theorem gf_h_step {N k x : Nat} {c : Nat → Nat} (h : k < N) : gf_h c x k (N - k) = gf_t (gf_D N x c k) x ^^^ c k := by
  rw [show N - k = (N - (k + 1)) + 1 by omega]
  rfl
theorem gf_L {N a b : Nat} {c : Nat → Nat} (hc : ∀ k, c k < 256) (ha : a < 256) (hb : b < 256) : ∀ m k, k + m = N → gf_h c a k m ^^^ gf_h c b k m = gf_t (a ^^^ b) (gf_h (gf_D N b c) a k m)
  | 0, k, _ => by
    show (0 : Nat) ^^^ 0 = gf_t (a ^^^ b) 0
    rw [gf_t_0r]; rfl
  | m + 1, k, hk => by
    have ih := gf_L (N := N) hc ha hb m (k + 1) (by omega)
    have hDk : gf_D N b c k = gf_h c b (k + 1) m := by
      show gf_h c b (k + 1) (N - (k + 1)) = _
      rw [show N - (k + 1) = m by omega]
    have hA := gf_h_lt hc a m (k + 1)
    have hB := gf_h_lt hc b m (k + 1)
    have hE := gf_h_lt (c := gf_D N b c) (fun j => gf_D_lt hc j) a m (k + 1)
    show (gf_t (gf_h c a (k + 1) m) a ^^^ c k) ^^^ (gf_t (gf_h c b (k + 1) m) b ^^^ c k) = gf_t (a ^^^ b) (gf_t (gf_h (gf_D N b c) a (k + 1) m) a ^^^ gf_D N b c k)
    rw [gf_xx, hDk]
    generalize gf_h c a (k + 1) m = A at *
    generalize gf_h c b (k + 1) m = B at *
    generalize gf_h (gf_D N b c) a (k + 1) m = E at *
    rw [gf_t_xor (gf_t_lt _ _) hB, ← gf_t_assoc, ← ih, gf_xor_t hA hB, gf_xor_t ha hb, gf_t_comm a B, gf_t_comm b B]
    rw [Nat.xor_assoc, ← Nat.xor_assoc (gf_t B a), Nat.xor_self, Nat.zero_xor]
theorem gf_ne0 {a b : Nat} (h : a ≠ b) : a ^^^ b ≠ 0 := fun q => h (gf_x0 q)
theorem gf_D_comm {N a b : Nat} {c : Nat → Nat} (hc : ∀ k, c k < 256) (ha : a < 256) (hb : b < 256) (hab : a ≠ b) : gf_D N a (gf_D N b c) = gf_D N b (gf_D N a c) := by
  funext j
  by_cases hj : j + 1 ≤ N
  · have h1 := gf_L (N := N) hc ha hb (N - (j + 1)) (j + 1) (by omega)
    have h2 := gf_L (N := N) hc hb ha (N - (j + 1)) (j + 1) (by omega)
    rw [Nat.xor_comm (gf_h c b _ _), h1, Nat.xor_comm b a] at h2
    exact gf_cancel (gf_xor_lt ha hb) (gf_ne0 hab) (gf_D_lt (fun k => gf_D_lt hc k) j) (gf_D_lt (fun k => gf_D_lt hc k) j) h2
  · show gf_h _ _ _ (N - (j + 1)) = gf_h _ _ _ (N - (j + 1))
    rw [show N - (j + 1) = 0 by omega]
    rfl
/-- the value at b of (c - c at a) / (x - a), and the other way round -/
theorem gf_D_sym {N a b : Nat} {c : Nat → Nat} (hc : ∀ k, c k < 256) (ha : a < 256) (hb : b < 256) (hab : a ≠ b) : gf_h (gf_D N a c) b 0 N = gf_h (gf_D N b c) a 0 N := by
  have h1 := gf_L (N := N) hc ha hb N 0 (by omega)
  have h2 := gf_L (N := N) hc hb ha N 0 (by omega)
  rw [Nat.xor_comm (gf_h c b _ _), h1, Nat.xor_comm b a] at h2
  exact (gf_cancel (gf_xor_lt ha hb) (gf_ne0 hab) (gf_h_lt (fun k => gf_D_lt hc k) _ _ _) (gf_h_lt (fun k => gf_D_lt hc k) _ _ _) h2).symm
def gf_Dn (N : Nat) (X c : Nat → Nat) (lo : Nat) : Nat → (Nat → Nat)
  | 0 => c
  | m + 1 => gf_D N (X (lo + m)) (gf_Dn N X c lo m)
theorem gf_Dn_lt {N lo : Nat} {X c : Nat → Nat} (hc : ∀ k, c k < 256) : ∀ m k, gf_Dn N X c lo m k < 256
  | 0, k => hc k
  | m + 1, k => gf_D_lt (fun j => gf_Dn_lt hc m j) k
theorem gf_h_0 {c : Nat → Nat} {x : Nat} : ∀ m k, (∀ j, k ≤ j → c j = 0) → gf_h c x k m = 0
  | 0, _, _ => rfl
  | m + 1, k, h => by
    show gf_t (gf_h c x (k + 1) m) x ^^^ c k = 0
    rw [gf_h_0 m (k + 1) (fun j hj => h j (by omega)), h k (Nat.le_refl k), gf_t_0l]; rfl
theorem gf_Dn_0 {N lo : Nat} {X c : Nat → Nat} (h0 : ∀ k, N ≤ k → c k = 0) : ∀ m k, N ≤ k + m → gf_Dn N X c lo m k = 0
  | 0, k, h => h0 k h
  | m + 1, k, h => gf_h_0 _ _ (fun j hj => gf_Dn_0 h0 m j (by omega))
section
variable {N : Nat} {X c : Nat → Nat}
theorem gf_Dn_front (hc : ∀ k, c k < 256) (hX : ∀ i, i < N → X i < 256) (hI : ∀ i j, i < N → j < N → X i = X j → i = j) (lo : Nat) : ∀ m, lo + m < N → gf_Dn N X c lo (m + 1) = gf_D N (X lo) (gf_Dn N X c (lo + 1) m)
  | 0, _ => rfl
  | m + 1, h => by
    show gf_D N (X (lo + (m + 1))) (gf_Dn N X c lo (m + 1)) = gf_D N (X lo) (gf_D N (X (lo + 1 + m)) (gf_Dn N X c (lo + 1) m))
    rw [gf_Dn_front hc hX hI lo m (by omega), show lo + 1 + m = lo + (m + 1) by omega]
    exact gf_D_comm (fun k => gf_Dn_lt hc m k) (hX _ (by omega)) (hX _ (by omega)) (fun q => by have := hI _ _ (by omega) (by omega) q; omega)
/-- the divided difference at the points i - s .. i -/
def gf_V (N : Nat) (X c : Nat → Nat) (s i : Nat) : Nat := gf_h (gf_Dn N X c (i - s) s) (X i) 0 N
theorem gf_V_lt (hc : ∀ k, c k < 256) (s i : Nat) : gf_V N X c s i < 256 := gf_h_lt (fun k => gf_Dn_lt hc s k) _ _ _
theorem gf_V_step (hc : ∀ k, c k < 256) (hX : ∀ i, i < N → X i < 256) (hI : ∀ i j, i < N → j < N → X i = X j → i = j) {s i : Nat} (hs : s + 1 ≤ i) (hi : i < N) :
    gf_V N X c (s + 1) i = gf_d (gf_V N X c s i ^^^ gf_V N X c s (i - 1)) (X i ^^^ X (i - (s + 1))) := by
  obtain ⟨lo, rfl⟩ : ∃ lo, i = lo + s + 1 := ⟨i - (s + 1), by omega⟩
  have e1 : lo + s + 1 - (s + 1) = lo := by omega
  have e2 : lo + s + 1 - s = lo + 1 := by omega
  have e3 : lo + s + 1 - 1 - s = lo := by omega
  have e4 : lo + s + 1 - 1 = lo + s := by omega
  have hne : X (lo + s + 1) ≠ X lo := fun q => by have := hI _ _ hi (by omega) q; omega
  have hQ : ∀ k, gf_Dn N X c (lo + 1) s k < 256 := fun k => gf_Dn_lt hc s k
  have key : gf_V N X c s (lo + s + 1 - 1) = gf_h (gf_Dn N X c (lo + 1) s) (X lo) 0 N := by
    unfold gf_V
    rw [e3, e4]
    cases s with
    | zero => rfl
    | succ s =>
      rw [gf_Dn_front hc hX hI lo s (by omega)]
      show _ = gf_h (gf_D N (X (lo + 1 + s)) (gf_Dn N X c (lo + 1) s)) (X lo) 0 N
      rw [show lo + 1 + s = lo + (s + 1) by omega]
      exact gf_D_sym (fun k => gf_Dn_lt hc s k) (hX _ (by omega)) (hX _ (by omega)) (fun q => by have := hI _ _ (by omega) (by omega) q; omega)
  rw [key, e1]
  have hL := gf_L (N := N) (c := gf_Dn N X c (lo + 1) s) hQ (hX _ hi) (hX lo (by omega)) N 0 (by omega)
  have hv : gf_V N X c s (lo + s + 1) = gf_h (gf_Dn N X c (lo + 1) s) (X (lo + s + 1)) 0 N := by unfold gf_V; rw [e2]
  have hw : gf_V N X c (s + 1) (lo + s + 1) = gf_h (gf_D N (X lo) (gf_Dn N X c (lo + 1) s)) (X (lo + s + 1)) 0 N := by
    unfold gf_V; rw [e1, gf_Dn_front hc hX hI lo s (by omega)]
  rw [hv, hw, hL]
  exact (gf_d_t (gf_xor_lt (hX _ hi) (hX lo (by omega))) (gf_ne0 hne) (gf_h_lt (fun k => gf_D_lt hQ k) _ _ _)).symm
end
/-- one step of the differences, in place -/
def gf_p1 (n : Nat) (X : Nat → Nat) (s : Nat) (v : Nat → Nat) : Nat → Nat := fun i => if s ≤ i ∧ i < n then gf_d (v i ^^^ v (i - 1)) (X i ^^^ X (i - s)) else v i
def gf_q1 (n : Nat) (X : Nat → Nat) : Nat → (Nat → Nat) → (Nat → Nat)
  | 0, v => v
  | s + 1, v => gf_p1 n X (s + 1) (gf_q1 n X s v)
/-- one step of the multiplying out, in place -/
def gf_p2 (n : Nat) (X : Nat → Nat) (k : Nat) (v : Nat → Nat) : Nat → Nat := fun i => if k ≤ i ∧ i + 1 < n then v i ^^^ gf_t (v (i + 1)) (X k) else v i
def gf_q2 (n : Nat) (X : Nat → Nat) : Nat → (Nat → Nat) → (Nat → Nat)
  | 0, v => v
  | m + 1, v => gf_q2 n X m (gf_p2 n X m v)
section
variable {n : Nat} {X c v : Nat → Nat}
theorem gf_q1_V (hc : ∀ k, c k < 256) (hX : ∀ i, i < n → X i < 256) (hI : ∀ i j, i < n → j < n → X i = X j → i = j) (hv : ∀ i, i < n → v i = gf_h c (X i) 0 n) : ∀ s i, i < n → gf_q1 n X s v i = gf_V n X c (min s i) i
  | 0, i, hi => by
    rw [Nat.zero_min]
    exact hv i hi
  | s + 1, i, hi => by
    show gf_p1 n X (s + 1) (gf_q1 n X s v) i = _
    unfold gf_p1
    by_cases hs : s + 1 ≤ i
    · rw [if_pos ⟨hs, hi⟩, gf_q1_V hc hX hI hv s i hi, gf_q1_V hc hX hI hv s (i - 1) (by omega), Nat.min_eq_left hs, Nat.min_eq_left (by omega : s ≤ i), Nat.min_eq_left (by omega : s ≤ i - 1)]
      exact (gf_V_step hc hX hI hs hi).symm
    · rw [if_neg (fun h => hs h.1), gf_q1_V hc hX hI hv s i hi, Nat.min_eq_right (by omega : i ≤ s), Nat.min_eq_right (by omega : i ≤ s + 1)]
theorem gf_q2_c (h0 : ∀ k, n ≤ k → c k = 0) : ∀ m (w : Nat → Nat), m < n → (∀ i, i < m → w i = gf_V n X c i i) → (∀ i, m ≤ i → i < n → w i = gf_Dn n X c 0 m (i - m)) → ∀ i, i < n → gf_q2 n X m w i = c i
  | 0, w, _, _, h2, i, hi => h2 i (Nat.zero_le i) hi
  | m + 1, w, hm, h1, h2, i, hi => by
    have hD : gf_Dn n X c 0 (m + 1) = gf_D n (X m) (gf_Dn n X c 0 m) := by
      show gf_D n (X (0 + m)) _ = _
      rw [Nat.zero_add]
    refine gf_q2_c h0 m (gf_p2 n X m w) (by omega) ?_ ?_ i hi
    · intro j hj
      unfold gf_p2
      rw [if_neg (fun h => by omega)]
      exact h1 j (by omega)
    · intro j hmj hj
      unfold gf_p2
      by_cases hjm : j = m
      · subst hjm
        rw [if_pos ⟨Nat.le_refl _, by omega⟩, h1 j (by omega), h2 (j + 1) (by omega) (by omega), Nat.sub_self, Nat.sub_self, hD]
        have hs := gf_h_step (N := n) (k := 0) (x := X j) (c := gf_Dn n X c 0 j) (by omega)
        have hv : gf_V n X c j j = gf_h (gf_Dn n X c 0 j) (X j) 0 (n - 0) := by unfold gf_V; rw [Nat.sub_self, Nat.sub_zero]
        rw [hv, hs, Nat.xor_comm (gf_t _ _), gf_xc]
      · have hs := gf_h_step (N := n) (k := j - m) (x := X m) (c := gf_Dn n X c 0 m) (by omega)
        have hw : w j = gf_h (gf_Dn n X c 0 m) (X m) (j - m) (n - (j - m)) := by
          rw [h2 j (by omega) hj, hD]
          show gf_h _ _ (j - (m + 1) + 1) (n - (j - (m + 1) + 1)) = _
          rw [show j - (m + 1) + 1 = j - m by omega]
        by_cases hjn : j + 1 < n
        · rw [if_pos ⟨hmj, hjn⟩, hw, hs, h2 (j + 1) (by omega) hjn, hD, show j + 1 - (m + 1) = j - m by omega, Nat.xor_comm (gf_t _ _), gf_xc]
        · rw [if_neg (fun h => hjn h.2), hw, hs]
          have hz : gf_D n (X m) (gf_Dn n X c 0 m) (j - m) = 0 := by
            rw [← hD]
            exact gf_Dn_0 h0 (m + 1) (j - m) (by omega)
          rw [hz, gf_t_0l, Nat.zero_xor]
/-- the interpolation gives the coefficients back -/
theorem gf_interp (hn : 0 < n) (hc : ∀ k, c k < 256) (h0 : ∀ k, n ≤ k → c k = 0) (hX : ∀ i, i < n → X i < 256) (hI : ∀ i j, i < n → j < n → X i = X j → i = j) (hv : ∀ i, i < n → v i = gf_h c (X i) 0 n) : ∀ i, i < n → gf_q2 n X (n - 1) (gf_q1 n X (n - 1) v) i = c i := by
  refine gf_q2_c h0 (n - 1) _ (by omega) ?_ ?_
  · intro i hi
    rw [gf_q1_V hc hX hI hv (n - 1) i (by omega), Nat.min_eq_right (by omega : i ≤ n - 1)]
  · intro i h1 h2
    have e : i = n - 1 := by omega
    subst e
    rw [gf_q1_V hc hX hI hv (n - 1) (n - 1) h2, Nat.min_self, Nat.sub_self]
    have hs := gf_h_step (N := n) (k := 0) (x := X (n - 1)) (c := gf_Dn n X c 0 (n - 1)) hn
    unfold gf_V
    rw [Nat.sub_self]
    rw [Nat.sub_zero] at hs
    rw [hs]
    have hz : gf_D n (X (n - 1)) (gf_Dn n X c 0 (n - 1)) 0 = 0 := gf_h_0 _ _ (fun j hj => gf_Dn_0 h0 (n - 1) j (by omega))
    rw [hz, gf_t_0l, Nat.zero_xor]
end
end
section
/-! The reference's product and powers; Horner's sums are linear; exchange of a double sum; the matrix of a content. Names: gf_, mx_ -/
theorem gf_t_2 {q a : Nat} (hq : q < 128) (ha : a < 256) : gf_t (2 * q) a = gf_x (gf_t q a) := by
  by_cases h0 : q = 0
  · subst h0
    rw [Nat.mul_zero, gf_t_0l]; decide
  by_cases h1 : a = 0
  · subst h1
    rw [gf_t_0r, gf_t_0r]; decide
  have e1 : 2 * q = gf_p (gf_e q + 1) := by
    show 2 * q = gf_x (gf_p (gf_e q))
    rw [gf_p_e (by omega) h0]
    unfold gf_x
    rw [if_pos hq]
  rw [gf_t_nz h0 h1, gf_t_nz (by omega) h1]
  show _ = gf_p (gf_e q + gf_e a + 1)
  rw [e1, gf_e_p, ← gf_p_mod, ← gf_p_mod (gf_e q + gf_e a + 1)]
  congr 1
  omega
theorem gf_odd : ∀ q, q < 128 → 2 * q + 1 = (2 * q) ^^^ 1 := by decide +kernel
/-- one turn of the reference's product -/
theorem gf_rt {a b k : Nat} (ha : a < 256) (hb : b < 256) : gf_t (b / 2 ^ k) a = if b / 2 ^ k % 2 = 1 then gf_x (gf_t (b / 2 ^ (k + 1)) a) ^^^ a else gf_x (gf_t (b / 2 ^ (k + 1)) a) := by
  have e : b / 2 ^ (k + 1) = b / 2 ^ k / 2 := by rw [Nat.pow_succ, Nat.div_div_eq_div_mul]
  have h1 : b / 2 ^ k < 256 := Nat.lt_of_le_of_lt (Nat.div_le_self _ _) hb
  rw [e]
  generalize b / 2 ^ k = z at *
  rw [← gf_t_2 (by omega) ha]
  split
  · rename_i h
    rw [show gf_t (2 * (z / 2)) a ^^^ a = gf_t (2 * (z / 2)) a ^^^ gf_t 1 a by rw [gf_t_1 ha], ← gf_xor_t (by omega) (by omega), ← gf_odd _ (by omega)]
    congr 1
    omega
  · congr 1
    omega
def gf_pw (x : Nat) : Nat → Nat
  | 0 => 1
  | k + 1 => gf_t (gf_pw x k) x
theorem gf_pw_lt (x : Nat) : ∀ k, gf_pw x k < 256
  | 0 => by show 1 < 256; decide
  | k + 1 => gf_t_lt _ _
/-- the same sum from its lowest power up -/
def gf_s (c : Nat → Nat) (x : Nat) : Nat → Nat
  | 0 => 0
  | n + 1 => gf_s c x n ^^^ gf_t (gf_pw x n) (c n)
theorem gf_h_up {c : Nat → Nat} (hc : ∀ k, c k < 256) (x : Nat) : ∀ m k, gf_h c x k (m + 1) = gf_h c x k m ^^^ gf_t (gf_pw x m) (c (k + m))
  | 0, k => by
    show gf_t 0 x ^^^ c k = 0 ^^^ gf_t 1 (c (k + 0))
    rw [gf_t_0l, gf_t_1 (hc _)]
    rfl
  | m + 1, k => by
    show gf_t (gf_h c x (k + 1) (m + 1)) x ^^^ c k = (gf_t (gf_h c x (k + 1) m) x ^^^ c k) ^^^ gf_t (gf_t (gf_pw x m) x) (c (k + (m + 1)))
    rw [gf_h_up hc x m (k + 1), gf_xor_t (gf_h_lt hc x m (k + 1)) (gf_t_lt _ _), show k + 1 + m = k + (m + 1) by omega]
    rw [gf_t_assoc (gf_pw x m) (c (k + (m + 1))) x, gf_t_assoc (gf_pw x m) x, gf_t_comm x (c (k + (m + 1)))]
    rw [Nat.xor_assoc, Nat.xor_assoc, Nat.xor_comm (c k)]
theorem gf_s_h {c : Nat → Nat} (hc : ∀ k, c k < 256) (x : Nat) : ∀ n, gf_s c x n = gf_h c x 0 n
  | 0 => rfl
  | n + 1 => by
    rw [gf_h_up hc x n 0, ← gf_s_h hc x n, Nat.zero_add]
    rfl
theorem gf_h_congr {c d : Nat → Nat} {x : Nat} : ∀ m k, (∀ i, k ≤ i → i < k + m → c i = d i) → gf_h c x k m = gf_h d x k m
  | 0, _, _ => rfl
  | m + 1, k, h => by
    show gf_t (gf_h c x (k + 1) m) x ^^^ c k = gf_t (gf_h d x (k + 1) m) x ^^^ d k
    rw [gf_h_congr m (k + 1) (fun i h1 h2 => h i (by omega) (by omega)), h k (Nat.le_refl k) (by omega)]
theorem gf_h_xor {c d : Nat → Nat} (hc : ∀ k, c k < 256) (hd : ∀ k, d k < 256) (x : Nat) : ∀ m k, gf_h (fun i => c i ^^^ d i) x k m = gf_h c x k m ^^^ gf_h d x k m
  | 0, _ => by show (0 : Nat) = 0 ^^^ 0; decide
  | m + 1, k => by
    show gf_t (gf_h (fun i => c i ^^^ d i) x (k + 1) m) x ^^^ (c k ^^^ d k) = (gf_t (gf_h c x (k + 1) m) x ^^^ c k) ^^^ (gf_t (gf_h d x (k + 1) m) x ^^^ d k)
    rw [gf_h_xor hc hd x m (k + 1), gf_xor_t (gf_h_lt hc x m _) (gf_h_lt hd x m _)]
    generalize gf_t (gf_h c x (k + 1) m) x = A
    generalize gf_t (gf_h d x (k + 1) m) x = B
    rw [Nat.xor_assoc, Nat.xor_assoc, ← Nat.xor_assoc B, Nat.xor_comm B, Nat.xor_assoc (c k)]
theorem gf_h_t {c : Nat → Nat} (hc : ∀ k, c k < 256) (x y : Nat) : ∀ m k, gf_h (fun i => gf_t (c i) y) x k m = gf_t (gf_h c x k m) y
  | 0, _ => (gf_t_0l y).symm
  | m + 1, k => by
    show gf_t (gf_h (fun i => gf_t (c i) y) x (k + 1) m) x ^^^ gf_t (c k) y = gf_t (gf_t (gf_h c x (k + 1) m) x ^^^ c k) y
    rw [gf_h_t hc x y m (k + 1), gf_xor_t (gf_t_lt _ _) (hc k), gf_t_assoc, gf_t_comm y x, ← gf_t_assoc]
theorem gf_exch {A : Nat → Nat → Nat} (hA : ∀ i j, A i j < 256) (x y k m : Nat) : ∀ n j, gf_h (fun i => gf_h (A i) y j n) x k m = gf_h (fun j => gf_h (fun i => A i j) x k m) y j n
  | 0, _ => gf_h_0 m k (fun _ _ => rfl)
  | n + 1, j => by
    show gf_h (fun i => gf_t (gf_h (A i) y (j + 1) n) y ^^^ A i j) x k m = gf_t (gf_h (fun j => gf_h (fun i => A i j) x k m) y (j + 1) n) y ^^^ gf_h (fun i => A i j) x k m
    rw [gf_h_xor (c := fun i => gf_t (gf_h (A i) y (j + 1) n) y) (d := fun i => A i j) (fun i => gf_t_lt _ _) (fun i => hA i j), gf_h_t (c := fun i => gf_h (A i) y (j + 1) n) (fun i => gf_h_lt (hA i) y _ _), gf_exch hA x y k m n (j + 1)]
/-- a sum's upper terms, and its lower -/
theorem gf_h_cut {c : Nat → Nat} (hc : ∀ k, c k < 256) (x : Nat) {n : Nat} : ∀ m k, gf_h c x k m = gf_h (fun i => if i < n then c i else 0) x k m ^^^ gf_h (fun i => if i < n then 0 else c i) x k m := by
  intro m k
  rw [← gf_h_xor (c := fun i => if i < n then c i else 0) (d := fun i => if i < n then 0 else c i) (fun i => by split; exact hc i; decide) (fun i => by split; decide; exact hc i)]
  refine gf_h_congr m k (fun i _ _ => ?_)
  show c i = (if i < n then c i else 0) ^^^ (if i < n then 0 else c i)
  split
  · rw [Nat.xor_zero]
  · rw [Nat.zero_xor]
theorem gf_h_low {c : Nat → Nat} {x n : Nat} (h0 : ∀ i, n ≤ i → c i = 0) : ∀ m, n ≤ m → gf_h c x 0 m = gf_h c x 0 n := by
  have key : ∀ d k, k ≤ n → gf_h c x k (n - k + d) = gf_h c x k (n - k) := by
    intro d k hk
    obtain ⟨e, rfl⟩ : ∃ e, n = k + e := ⟨n - k, by omega⟩
    rw [Nat.add_sub_cancel_left]
    clear hk
    induction e generalizing k with
    | zero =>
      rw [Nat.zero_add]
      exact gf_h_0 d k (fun i hi => h0 i (by omega))
    | succ e ih =>
      rw [show e + 1 + d = (e + d) + 1 by omega]
      show gf_t (gf_h c x (k + 1) (e + d)) x ^^^ c k = gf_t (gf_h c x (k + 1) e) x ^^^ c k
      rw [ih (k + 1) (fun i hi => h0 i (by omega))]
  intro m hm
  have := key (m - n) 0 (Nat.zero_le n)
  rw [Nat.sub_zero, show n + (m - n) = m by omega] at this
  exact this
/-! the matrix of a stripe: which byte stands in row r, column c; 30: none (a nought) -/
def mx_u (a b : Nat) : Nat := if 5 ≤ a then 30 else if b < 5 then 5 * a - a * (a - 1) / 2 + (b - a) else 15 + 3 * a + (b - 5)
def mx_i (r c : Nat) : Nat := if r ≤ c then mx_u r c else mx_u c r
def mx_R : List Nat := [0, 0, 0, 0, 0, 1, 1, 1, 1, 2, 2, 2, 3, 3, 4, 0, 0, 0, 1, 1, 1, 2, 2, 2, 3, 3, 3, 4, 4, 4]
def mx_C : List Nat := [0, 1, 2, 3, 4, 1, 2, 3, 4, 2, 3, 4, 3, 4, 4, 5, 6, 7, 5, 6, 7, 5, 6, 7, 5, 6, 7, 5, 6, 7]
def sm_row (j : Nat) : Nat := mx_R.getD j 0
def sm_col (j : Nat) : Nat := mx_C.getD j 0
theorem mx_rc : ∀ j, j < 30 → sm_row j < 5 ∧ sm_col j < 8 ∧ sm_row j ≤ sm_col j ∧ mx_i (sm_row j) (sm_col j) = j ∧ mx_i (sm_col j) (sm_row j) = j := by decide +kernel
theorem mx_in : ∀ r, r < 8 → ∀ c, c < 8 → (mx_i r c < 30 ∧ ((r = sm_row (mx_i r c) ∧ c = sm_col (mx_i r c)) ∨ (c = sm_row (mx_i r c) ∧ r = sm_col (mx_i r c)))) ∨ (mx_i r c = 30 ∧ 5 ≤ r ∧ 5 ≤ c) := by decide +kernel
theorem mx_sym : ∀ r, r < 8 → ∀ c, c < 8 → mx_i r c = mx_i c r := by decide +kernel
theorem mx_30 : ∀ r, r < 8 → ∀ c, c < 8 → (mx_i r c = 30 ↔ 5 ≤ r ∧ 5 ≤ c) := by decide +kernel
/-- row r of the matrices below each other, column c, of the content v -/
def mx (v : Nat → Nat) (r c : Nat) : Nat := if mx_i (r % 8) c < 30 then v (30 * (r / 8) + mx_i (r % 8) c) else 0
theorem mx_lt {v : Nat → Nat} (hv : ∀ i, v i < 256) (r c : Nat) : mx v r c < 256 := by
  unfold mx
  split
  · exact hv _
  · decide
theorem mx_s {v : Nat → Nat} {s a b : Nat} (ha : a < 8) (hb : b < 8) : mx v (8 * s + a) b = mx v (8 * s + b) a := by
  unfold mx
  rw [show (8 * s + a) % 8 = a by omega, show (8 * s + b) % 8 = b by omega, show (8 * s + a) / 8 = s by omega, show (8 * s + b) / 8 = s by omega, mx_sym a ha b hb]
theorem mx_0 {v : Nat → Nat} {r c : Nat} (hc : c < 8) (h5 : 5 ≤ r % 8) (h6 : 5 ≤ c) : mx v r c = 0 := by
  unfold mx
  rw [if_neg]
  have := (mx_30 (r % 8) (Nat.mod_lt _ (by decide)) c hc).mpr ⟨h5, h6⟩
  omega
/-- the byte i of the share of the point x -/
def mx_b (v : Nat → Nat) (x i : Nat) : Nat := gf_h (mx v i) x 0 8
end
section
/-! The store: a block of cells from the address b on. Names: sm_ -/
abbrev sm_X : Type := Nat → Nat → Nat
abbrev sm_R : Type := Nat → Nat → Option Nat
/-- what a cell is: an object of the class number ci with these slots (true: a reference); or a row: its length and kind (0 int, 1 boolean, 2 long, from 3 on references) -/
abbrev sm_K : Type := (Nat × List Bool) ⊕ (Nat × Nat)
def sm_f (b : Nat) (fl : List Bool) (x : Nat → Nat) (r : Nat → Option Nat) : List Value := (List.range fl.length).map (fun j => if fl.getD j false = true then va_rf ((r j).map (fun i => b + i)) else .int (nI (x j)))
def sm_v (b t : Nat) (x : Nat → Nat) (r : Nat → Option Nat) : (Nat → Int32) ⊕ (Nat → Int64) ⊕ (Nat → UInt32) ⊕ (Nat → UInt64) ⊕ (Nat → Option Nat) :=
  if t < 2 then .inl (fun j => nI (x j)) else if t = 2 then .inr (.inl (fun j => lN (x j))) else .inr (.inr (.inr (.inr (fun j => (r j).map (fun i => b + i)))))
def sm_E (b : Nat) (cA : Nat → ClassId) (k : sm_K) (x : Nat → Nat) (r : Nat → Option Nat) : va_E := match k with
  | .inl o => .inr (o.1, sm_f b o.2 x r)
  | .inr a => .inl (cA a.2, a.1, sm_v b a.2 x r)
def sm_W (b : Nat) (cA : Nat → ClassId) (sh : Nat → sm_K) (M : Nat) (X : sm_X) (Y : sm_R) : va_W := (List.range M).map (fun i => (b + i, sm_E b cA (sh i) (X i) (Y i)))
def sm_up (X : sm_X) (c j v : Nat) : sm_X := fun a k => if a = c ∧ k = j then v else X a k
def sm_ur (Y : sm_R) (c j : Nat) (o : Option Nat) : sm_R := fun a k => if a = c ∧ k = j then o else Y a k
section
variable {b : Nat} {cA : Nat → ClassId} {sh : Nat → sm_K} {M : Nat} {X X' : sm_X} {Y Y' : sm_R}
theorem sm_at {i : Nat} (h : i < M) : (sm_W b cA sh M X Y)[i]? = some (b + i, sm_E b cA (sh i) (X i) (Y i)) := by
  unfold sm_W
  rw [List.getElem?_map, List.getElem?_range h]
  rfl
theorem sm_off {i : Nat} (h : ¬ i < M) : (sm_W b cA sh M X Y)[i]? = none := by
  unfold sm_W
  rw [List.getElem?_map, List.getElem?_eq_none (by rw [List.length_range]; omega)]
  rfl
theorem sm_len : (sm_W b cA sh M X Y).length = M := by
  unfold sm_W
  rw [List.length_map, List.length_range]
theorem sm_set {i : Nat} {e : va_E} (h : i < M) (he : e = sm_E b cA (sh i) (X' i) (Y' i)) (ho : ∀ a, a ≠ i → X' a = X a ∧ Y' a = Y a) : (sm_W b cA sh M X Y).set i (b + i, e) = sm_W b cA sh M X' Y' := by
  subst he
  apply List.ext_getElem?
  intro j
  by_cases ej : j = i
  · subst ej
    rw [List.getElem?_set_self (by rw [sm_len]; exact h), sm_at h]
  · rw [List.getElem?_set_ne (Ne.symm ej)]
    by_cases hj : j < M
    · rw [sm_at hj, sm_at hj, (ho j ej).1, (ho j ej).2]
    · rw [sm_off hj, sm_off hj]
theorem sm_up_o {c j v a : Nat} (h : a ≠ c) : sm_up X c j v a = X a := by
  funext k
  exact if_neg (fun q => h q.1)
theorem sm_up_s {c j v : Nat} : sm_up X c j v c j = v := if_pos ⟨rfl, rfl⟩
theorem sm_up_n {c j v k : Nat} (h : k ≠ j) : sm_up X c j v c k = X c k := if_neg (fun q => h q.2)
theorem sm_ur_o {c j a : Nat} {o : Option Nat} (h : a ≠ c) : sm_ur Y c j o a = Y a := by
  funext k
  exact if_neg (fun q => h q.1)
theorem sm_ur_s {c j : Nat} {o : Option Nat} : sm_ur Y c j o c j = o := if_pos ⟨rfl, rfl⟩
theorem sm_ur_n {c j k : Nat} {o : Option Nat} (h : k ≠ j) : sm_ur Y c j o c k = Y c k := if_neg (fun q => h q.2)
/-- apart, by their numbers -/
theorem sm_D : va_D (fun q => b ≤ q) (sm_W b cA sh M X Y) := by
  have key : ∀ (k : Nat) (q : Nat × va_E), (sm_W b cA sh M X Y)[k]? = some q → q.1 = b + k := by
    intro k q hk
    by_cases hM : k < M
    · rw [sm_at hM] at hk
      cases hk
      rfl
    · rw [sm_off hM] at hk
      cases hk
  refine ⟨fun i j x y hi hj hxy => ?_, fun k q hk => ?_⟩
  · have h1 := key i x hi
    have h2 := key j y hj
    omega
  · show b ≤ q.1
    rw [key k q hk]
    omega
theorem sm_f_len {fl : List Bool} {x : Nat → Nat} {r : Nat → Option Nat} : (sm_f b fl x r).length = fl.length := by
  unfold sm_f
  rw [List.length_map, List.length_range]
theorem sm_f_at {fl : List Bool} {x : Nat → Nat} {r : Nat → Option Nat} {k : Nat} (h : k < fl.length) : (sm_f b fl x r)[k]? = some (if fl.getD k false = true then va_rf ((r k).map (fun i => b + i)) else .int (nI (x k))) := by
  unfold sm_f
  rw [List.getElem?_map, List.getElem?_range h]
  rfl
theorem sm_f_i {fl : List Bool} {x : Nat → Nat} {r : Nat → Option Nat} {k : Nat} (hf : fl[k]? = some false) : (sm_f b fl x r)[k]? = some (.int (nI (x k))) := by
  rw [sm_f_at (List.getElem?_eq_some_iff.mp hf).1, List.getD_eq_getElem?_getD, hf]
  rfl
theorem sm_f_r {fl : List Bool} {x : Nat → Nat} {r : Nat → Option Nat} {k j : Nat} (hf : fl[k]? = some true) (hr : r k = some j) : (sm_f b fl x r)[k]? = some (.ref (b + j)) := by
  rw [sm_f_at (List.getElem?_eq_some_iff.mp hf).1, List.getD_eq_getElem?_getD, hf, hr]
  rfl
theorem sm_f_set {fl : List Bool} {x x' : Nat → Nat} {r r' : Nat → Option Nat} {k : Nat} {v : Value} (h : k < fl.length) (hv : (if fl.getD k false = true then va_rf ((r' k).map (fun i => b + i)) else .int (nI (x' k))) = v) (hx : ∀ j, j ≠ k → x' j = x j) (hr : ∀ j, j ≠ k → r' j = r j) : (sm_f b fl x r).set k v = sm_f b fl x' r' := by
  apply List.ext_getElem?
  intro j
  by_cases e : j = k
  · subst e
    rw [List.getElem?_set_self (by rw [sm_f_len]; exact h), sm_f_at h, hv]
  · rw [List.getElem?_set_ne (Ne.symm e)]
    by_cases hj : j < fl.length
    · rw [sm_f_at hj, sm_f_at hj, hx j e, hr j e]
    · rw [List.getElem?_eq_none (by rw [sm_f_len]; omega), List.getElem?_eq_none (by rw [sm_f_len]; omega)]
theorem sm_f_seti {fl : List Bool} {k v c : Nat} (hf : fl[k]? = some false) : (sm_f b fl (X c) (Y c)).set k (.int (nI v)) = sm_f b fl (sm_up X c k v c) (Y c) := by
  refine sm_f_set (List.getElem?_eq_some_iff.mp hf).1 ?_ (fun j hj => sm_up_n hj) (fun _ _ => rfl)
  rw [List.getD_eq_getElem?_getD, hf, sm_up_s]
  rfl
theorem sm_f_setr {fl : List Bool} {k c q : Nat} (hf : fl[k]? = some true) : (sm_f b fl (X c) (Y c)).set k (.ref (b + q)) = sm_f b fl (X c) (sm_ur Y c k (some q) c) := by
  refine sm_f_set (List.getElem?_eq_some_iff.mp hf).1 ?_ (fun _ _ => rfl) (fun j hj => sm_ur_n hj)
  rw [List.getD_eq_getElem?_getD, hf, sm_ur_s]
  rfl
end
/-! the locals as a list: none where nothing is known -/
def sm_l : Nat → List (Option Value) → List (Nat × Value)
  | _, [] => []
  | k, none :: r => sm_l (k + 1) r
  | k, some v :: r => (k, v) :: sm_l (k + 1) r
def sm_L (ls : Array Slot) (L : List (Option Value)) : Prop := lv_has ls L.length (sm_l 0 L) ∧ ∀ v, some v ∈ L → v.category = 1
theorem sm_l_in {v : Value} : ∀ (L : List (Option Value)) (i k : Nat), L[k]? = some (some v) → (i + k, v) ∈ sm_l i L
  | [], _, _, h => by simp at h
  | none :: r, i, 0, h => by simp at h
  | some u :: r, i, 0, h => by
    rw [List.getElem?_cons_zero] at h
    cases h
    exact List.mem_cons_self
  | none :: r, i, k + 1, h => by
    rw [List.getElem?_cons_succ] at h
    have := sm_l_in r (i + 1) k h
    rw [show i + (k + 1) = i + 1 + k by omega]
    exact this
  | some u :: r, i, k + 1, h => by
    rw [List.getElem?_cons_succ] at h
    have := sm_l_in r (i + 1) k h
    rw [show i + (k + 1) = i + 1 + k by omega]
    exact List.mem_cons_of_mem _ this
theorem sm_l_of {q : Nat × Value} : ∀ (L : List (Option Value)) (i : Nat), q ∈ sm_l i L → i ≤ q.1 ∧ some q.2 ∈ L
  | [], _, h => by cases h
  | none :: r, i, h => by
    have := sm_l_of r (i + 1) h
    exact ⟨by omega, List.mem_cons_of_mem _ this.2⟩
  | some u :: r, i, h => by
    rcases List.mem_cons.mp h with rfl | h
    · exact ⟨Nat.le_refl _, List.mem_cons_self⟩
    · have := sm_l_of r (i + 1) h
      exact ⟨by omega, List.mem_cons_of_mem _ this.2⟩
theorem sm_l_set {v : Value} {q : Nat × Value} : ∀ (L : List (Option Value)) (i k : Nat), q ∈ sm_l i (L.set k (some v)) → q = (i + k, v) ∨ (q ∈ sm_l i L ∧ q.1 ≠ i + k)
  | [], _, _, h => by cases h
  | u :: r, i, 0, h => by
    rw [List.set_cons_zero] at h
    rcases List.mem_cons.mp h with rfl | h
    · exact Or.inl rfl
    · have h2 := sm_l_of r (i + 1) h
      refine Or.inr ⟨?_, by omega⟩
      cases u with
      | none => exact h
      | some u => exact List.mem_cons_of_mem _ h
  | u :: r, i, k + 1, h => by
    rw [List.set_cons_succ] at h
    cases u with
    | none =>
      rcases sm_l_set r (i + 1) k h with h | ⟨h1, h2⟩
      · exact Or.inl (by rw [h, show i + 1 + k = i + (k + 1) by omega])
      · exact Or.inr ⟨h1, by omega⟩
    | some u =>
      rcases List.mem_cons.mp h with rfl | h
      · exact Or.inr ⟨List.mem_cons_self, by show i ≠ i + (k + 1); omega⟩
      · rcases sm_l_set r (i + 1) k h with h | ⟨h1, h2⟩
        · exact Or.inl (by rw [h, show i + 1 + k = i + (k + 1) by omega])
        · exact Or.inr ⟨List.mem_cons_of_mem _ h1, by omega⟩
theorem sm_L.at {ls : Array Slot} {L : List (Option Value)} (h : sm_L ls L) {k : Nat} {v : Value} (hk : L[k]? = some (some v)) : ls[k]? = some (.val v) := by
  have := h.1.2.2 _ (sm_l_in L 0 k hk)
  rwa [Nat.zero_add] at this
theorem sm_L.set {ls : Array Slot} {L : List (Option Value)} {k : Nat} {v : Value} (h : ∀ u, some u ∈ L → u.category = 1) (hv : v.category = 1) (h1 : lv_has ls L.length ((k, v) :: (sm_l 0 L).filter (fun q => !(q.1 == k) && !(q.1 + 1 == k && q.2.category == 2)))) : sm_L ls (L.set k (some v)) := by
  refine ⟨⟨by rw [List.length_set]; exact h1.1, h1.2.1, fun q hq => h1.2.2 q ?_⟩, fun u hu => ?_⟩
  · rcases sm_l_set L 0 k hq with rfl | ⟨h2, h3⟩
    · rw [Nat.zero_add]; exact List.mem_cons_self
    · refine List.mem_cons_of_mem _ (List.mem_filter.mpr ⟨h2, ?_⟩)
      have h4 := h _ (sm_l_of L 0 h2).2
      rw [Nat.zero_add] at h3
      simp [h3, h4]
  · rcases List.mem_or_eq_of_mem_set hu with h2 | h2
    · exact h u h2
    · cases h2; exact hv
theorem sm_sl {av : List Value} (h : ∀ v ∈ av, v.category = 1) : lg_sl av = av.map Slot.val := by
  induction av with
  | nil => rfl
  | cons v r ih =>
    have h1 := h v List.mem_cons_self
    have h2 := ih (fun u hu => h u (List.mem_cons_of_mem _ hu))
    unfold lg_sl at h2 ⊢
    rw [List.flatMap_cons, h2, if_neg (by omega)]
    rfl
theorem sm_L_in (av : List Value) {n : Nat} (h : ∀ v ∈ av, v.category = 1) (hn : av.length ≤ n) : sm_L ((lg_sl av ++ List.replicate (n - (lg_sl av).length) Slot.unset).toArray) (av.map some ++ List.replicate (n - av.length) none) := by
  have e := sm_sl h
  have hl := lv_entry av (n := n) (by rw [e, List.length_map]; exact hn)
  refine ⟨⟨?_, hl.2.1, fun q hq => ?_⟩, fun v hv => ?_⟩
  · rw [hl.1, List.length_append, List.length_map, List.length_replicate]; omega
  · have h2 : ∀ (l : List (Option Value)) (i : Nat) (q : Nat × Value), q ∈ sm_l i l → ∃ k, q.1 = i + k ∧ l[k]? = some (some q.2) := by
      intro l
      induction l with
      | nil => intro i q h; cases h
      | cons u r ih =>
        intro i q h
        cases u with
        | none =>
          obtain ⟨k, h1, h2⟩ := ih (i + 1) q h
          exact ⟨k + 1, by omega, by rw [List.getElem?_cons_succ]; exact h2⟩
        | some u =>
          rcases List.mem_cons.mp h with rfl | h
          · exact ⟨0, rfl, rfl⟩
          · obtain ⟨k, h1, h2⟩ := ih (i + 1) q h
            exact ⟨k + 1, by omega, by rw [List.getElem?_cons_succ]; exact h2⟩
    obtain ⟨k, h3, h4⟩ := h2 _ 0 q hq
    rw [Nat.zero_add] at h3
    rw [h3, e, List.getElem?_toArray]
    by_cases hk : k < av.length
    · rw [List.getElem?_append_left (by rw [List.length_map]; exact hk), List.getElem?_map] at h4
      rw [List.getElem?_append_left (by rw [List.length_map]; exact hk), List.getElem?_map]
      rw [List.getElem?_eq_getElem hk] at h4 ⊢
      simp at h4 ⊢
      exact h4
    · rw [List.getElem?_append_right (by rw [List.length_map]; omega)] at h4
      have := List.eq_of_mem_replicate (List.mem_of_getElem? h4)
      cases this
  · rcases List.mem_append.mp hv with h1 | h1
    · obtain ⟨u, hu, hq⟩ := List.mem_map.mp h1
      cases hq
      exact h _ hu
    · have := List.eq_of_mem_replicate h1
      cases this
end
section
-- ===== PART A: goes FIRST, ahead of the names: the tables' words, and 'selects' of the private methods out of them =====
/-- a private method of a class that the tables say can be made, by its rows of tables_1 -/
def lw_okq (q : MethodName × Nat) : Prop := (q.1.cls ≠ "java/lang/invoke/MethodHandle" ∧ q.1.cls ≠ "java/lang/invoke/VarHandle") ∧ Cond.instantiable q.1.cls q.2 ∈ tables_1 ∧ Cond.privateMethod q.1 ∈ tables_1 ∧ Cond.instanceMethod q.1 ∈ tables_1
theorem lw_p0 : lw_okq (⟨"java/lang/Throwable", "fillInStackTrace", "(I)Ljava/lang/Throwable;"⟩, 6) := ⟨⟨by decide +kernel, by decide +kernel⟩, List.mem_of_getElem? (i := 240) (by decide +kernel), List.mem_of_getElem? (i := 238) (by decide +kernel), List.mem_of_getElem? (i := 239) (by decide +kernel)⟩
theorem lw_p1 : lw_okq (⟨"ShareShelf", "checkNotStopped", "(I)V"⟩, 10) := ⟨⟨by decide +kernel, by decide +kernel⟩, List.mem_of_getElem? (i := 20) (by decide +kernel), List.mem_of_getElem? (i := 290) (by decide +kernel), List.mem_of_getElem? (i := 291) (by decide +kernel)⟩
theorem lw_p2 : lw_okq (⟨"ShareShelf", "countLive", "()I"⟩, 10) := ⟨⟨by decide +kernel, by decide +kernel⟩, List.mem_of_getElem? (i := 20) (by decide +kernel), List.mem_of_getElem? (i := 309) (by decide +kernel), List.mem_of_getElem? (i := 310) (by decide +kernel)⟩
theorem lw_p3 : lw_okq (⟨"ShareShelf", "takeMessages", "(I)I"⟩, 10) := ⟨⟨by decide +kernel, by decide +kernel⟩, List.mem_of_getElem? (i := 20) (by decide +kernel), List.mem_of_getElem? (i := 332) (by decide +kernel), List.mem_of_getElem? (i := 333) (by decide +kernel)⟩
theorem lw_p4 : lw_okq (⟨"ShareShelf", "sendShadows", "(II)V"⟩, 10) := ⟨⟨by decide +kernel, by decide +kernel⟩, List.mem_of_getElem? (i := 20) (by decide +kernel), List.mem_of_getElem? (i := 336) (by decide +kernel), List.mem_of_getElem? (i := 337) (by decide +kernel)⟩
theorem lw_p5 : lw_okq (⟨"ShareShelf", "turnShadows", "(II)V"⟩, 10) := ⟨⟨by decide +kernel, by decide +kernel⟩, List.mem_of_getElem? (i := 20) (by decide +kernel), List.mem_of_getElem? (i := 367) (by decide +kernel), List.mem_of_getElem? (i := 368) (by decide +kernel)⟩
theorem lw_p6 : lw_okq (⟨"ShareShelf", "someNodeHasShare", "(II)Z"⟩, 10) := ⟨⟨by decide +kernel, by decide +kernel⟩, List.mem_of_getElem? (i := 20) (by decide +kernel), List.mem_of_getElem? (i := 394) (by decide +kernel), List.mem_of_getElem? (i := 395) (by decide +kernel)⟩
theorem lw_p7 : lw_okq (⟨"ShareShelf", "dropShadows", "(I)V"⟩, 10) := ⟨⟨by decide +kernel, by decide +kernel⟩, List.mem_of_getElem? (i := 20) (by decide +kernel), List.mem_of_getElem? (i := 398) (by decide +kernel), List.mem_of_getElem? (i := 399) (by decide +kernel)⟩
theorem lw_p8 : lw_okq (⟨"ShareShelf", "liveAndFresh", "(II)I"⟩, 10) := ⟨⟨by decide +kernel, by decide +kernel⟩, List.mem_of_getElem? (i := 20) (by decide +kernel), List.mem_of_getElem? (i := 428) (by decide +kernel), List.mem_of_getElem? (i := 429) (by decide +kernel)⟩
theorem lw_p9 : lw_okq (⟨"ShareShelf", "isFresh", "(II)Z"⟩, 10) := ⟨⟨by decide +kernel, by decide +kernel⟩, List.mem_of_getElem? (i := 20) (by decide +kernel), List.mem_of_getElem? (i := 432) (by decide +kernel), List.mem_of_getElem? (i := 433) (by decide +kernel)⟩
theorem lw_p10 : lw_okq (⟨"ShareShelf", "chooseLowest", "(I)V"⟩, 10) := ⟨⟨by decide +kernel, by decide +kernel⟩, List.mem_of_getElem? (i := 20) (by decide +kernel), List.mem_of_getElem? (i := 442) (by decide +kernel), List.mem_of_getElem? (i := 443) (by decide +kernel)⟩
theorem lw_p11 : lw_okq (⟨"ShareShelf$Matrices", "forgetFirstFive", "([I)V"⟩, 2) := ⟨⟨by decide +kernel, by decide +kernel⟩, List.mem_of_getElem? (i := 42) (by decide +kernel), List.mem_of_getElem? (i := 458) (by decide +kernel), List.mem_of_getElem? (i := 459) (by decide +kernel)⟩
theorem lw_p12 : lw_okq (⟨"ShareShelf$Matrices", "setFirstFive", "(I)V"⟩, 2) := ⟨⟨by decide +kernel, by decide +kernel⟩, List.mem_of_getElem? (i := 42) (by decide +kernel), List.mem_of_getElem? (i := 470) (by decide +kernel), List.mem_of_getElem? (i := 471) (by decide +kernel)⟩
theorem lw_p13 : lw_okq (⟨"ShareShelf", "checkLive", "(I)V"⟩, 10) := ⟨⟨by decide +kernel, by decide +kernel⟩, List.mem_of_getElem? (i := 20) (by decide +kernel), List.mem_of_getElem? (i := 499) (by decide +kernel), List.mem_of_getElem? (i := 500) (by decide +kernel)⟩
theorem lw_p14 : lw_okq (⟨"ShareShelf", "needsRebuild", "(II)Z"⟩, 10) := ⟨⟨by decide +kernel, by decide +kernel⟩, List.mem_of_getElem? (i := 20) (by decide +kernel), List.mem_of_getElem? (i := 521) (by decide +kernel), List.mem_of_getElem? (i := 522) (by decide +kernel)⟩
theorem lw_p15 : lw_okq (⟨"ShareShelf", "lacksHelpers", "(II)Z"⟩, 10) := ⟨⟨by decide +kernel, by decide +kernel⟩, List.mem_of_getElem? (i := 20) (by decide +kernel), List.mem_of_getElem? (i := 525) (by decide +kernel), List.mem_of_getElem? (i := 526) (by decide +kernel)⟩
def lw_privs_1 : List (MethodName × Nat) := [(⟨"java/lang/Throwable", "fillInStackTrace", "(I)Ljava/lang/Throwable;"⟩, 6), (⟨"ShareShelf", "checkNotStopped", "(I)V"⟩, 10), (⟨"ShareShelf", "countLive", "()I"⟩, 10), (⟨"ShareShelf", "takeMessages", "(I)I"⟩, 10), (⟨"ShareShelf", "sendShadows", "(II)V"⟩, 10), (⟨"ShareShelf", "turnShadows", "(II)V"⟩, 10), (⟨"ShareShelf", "someNodeHasShare", "(II)Z"⟩, 10), (⟨"ShareShelf", "dropShadows", "(I)V"⟩, 10), (⟨"ShareShelf", "liveAndFresh", "(II)I"⟩, 10), (⟨"ShareShelf", "isFresh", "(II)Z"⟩, 10), (⟨"ShareShelf", "chooseLowest", "(I)V"⟩, 10), (⟨"ShareShelf$Matrices", "forgetFirstFive", "([I)V"⟩, 2), (⟨"ShareShelf$Matrices", "setFirstFive", "(I)V"⟩, 2), (⟨"ShareShelf", "checkLive", "(I)V"⟩, 10), (⟨"ShareShelf", "needsRebuild", "(II)Z"⟩, 10), (⟨"ShareShelf", "lacksHelpers", "(II)Z"⟩, 10)]
theorem lw_r1 : ∀ q ∈ lw_privs_1, lw_okq q := List.forall_mem_cons.mpr ⟨lw_p0, List.forall_mem_cons.mpr ⟨lw_p1, List.forall_mem_cons.mpr ⟨lw_p2, List.forall_mem_cons.mpr ⟨lw_p3, List.forall_mem_cons.mpr ⟨lw_p4, List.forall_mem_cons.mpr ⟨lw_p5, List.forall_mem_cons.mpr ⟨lw_p6, List.forall_mem_cons.mpr ⟨lw_p7, List.forall_mem_cons.mpr ⟨lw_p8, List.forall_mem_cons.mpr ⟨lw_p9, List.forall_mem_cons.mpr ⟨lw_p10, List.forall_mem_cons.mpr ⟨lw_p11, List.forall_mem_cons.mpr ⟨lw_p12, List.forall_mem_cons.mpr ⟨lw_p13, List.forall_mem_cons.mpr ⟨lw_p14, List.forall_mem_cons.mpr ⟨lw_p15, fun _ h => absurd h List.not_mem_nil⟩⟩⟩⟩⟩⟩⟩⟩⟩⟩⟩⟩⟩⟩⟩⟩
theorem lw_p16 : lw_okq (⟨"ShareShelf", "rebuildShare", "(LShareShelf$Node;II)I"⟩, 10) := ⟨⟨by decide +kernel, by decide +kernel⟩, List.mem_of_getElem? (i := 20) (by decide +kernel), List.mem_of_getElem? (i := 529) (by decide +kernel), List.mem_of_getElem? (i := 530) (by decide +kernel)⟩
theorem lw_p17 : lw_okq (⟨"ShareShelf", "chooseLeastSent", "(I)V"⟩, 10) := ⟨⟨by decide +kernel, by decide +kernel⟩, List.mem_of_getElem? (i := 20) (by decide +kernel), List.mem_of_getElem? (i := 534) (by decide +kernel), List.mem_of_getElem? (i := 535) (by decide +kernel)⟩
theorem lw_p18 : lw_okq (⟨"ShareShelf", "leastSent", "(I)I"⟩, 10) := ⟨⟨by decide +kernel, by decide +kernel⟩, List.mem_of_getElem? (i := 20) (by decide +kernel), List.mem_of_getElem? (i := 538) (by decide +kernel), List.mem_of_getElem? (i := 539) (by decide +kernel)⟩
theorem lw_p19 : lw_okq (⟨"ShareShelf", "askHelpers", "(III)V"⟩, 10) := ⟨⟨by decide +kernel, by decide +kernel⟩, List.mem_of_getElem? (i := 20) (by decide +kernel), List.mem_of_getElem? (i := 542) (by decide +kernel), List.mem_of_getElem? (i := 543) (by decide +kernel)⟩
theorem lw_p20 : lw_okq (⟨"ShareShelf", "countFresh", "(I)I"⟩, 10) := ⟨⟨by decide +kernel, by decide +kernel⟩, List.mem_of_getElem? (i := 20) (by decide +kernel), List.mem_of_getElem? (i := 558) (by decide +kernel), List.mem_of_getElem? (i := 559) (by decide +kernel)⟩
theorem lw_p21 : lw_okq (⟨"ShareShelfModel", "fails", "(I)I"⟩, 21) := ⟨⟨by decide +kernel, by decide +kernel⟩, List.mem_of_getElem? (i := 592) (by decide +kernel), List.mem_of_getElem? (i := 675) (by decide +kernel), List.mem_of_getElem? (i := 676) (by decide +kernel)⟩
theorem lw_p22 : lw_okq (⟨"ShareShelfModel", "live", "()I"⟩, 21) := ⟨⟨by decide +kernel, by decide +kernel⟩, List.mem_of_getElem? (i := 592) (by decide +kernel), List.mem_of_getElem? (i := 693) (by decide +kernel), List.mem_of_getElem? (i := 694) (by decide +kernel)⟩
theorem lw_p23 : lw_okq (⟨"ShareShelfModel", "cast", "(III)V"⟩, 21) := ⟨⟨by decide +kernel, by decide +kernel⟩, List.mem_of_getElem? (i := 592) (by decide +kernel), List.mem_of_getElem? (i := 697) (by decide +kernel), List.mem_of_getElem? (i := 698) (by decide +kernel)⟩
theorem lw_p24 : lw_okq (⟨"ShareShelfModel", "settleNode", "(II)V"⟩, 21) := ⟨⟨by decide +kernel, by decide +kernel⟩, List.mem_of_getElem? (i := 592) (by decide +kernel), List.mem_of_getElem? (i := 704) (by decide +kernel), List.mem_of_getElem? (i := 705) (by decide +kernel)⟩
theorem lw_p25 : lw_okq (⟨"ShareShelfModel", "isFresh", "(II)Z"⟩, 21) := ⟨⟨by decide +kernel, by decide +kernel⟩, List.mem_of_getElem? (i := 592) (by decide +kernel), List.mem_of_getElem? (i := 723) (by decide +kernel), List.mem_of_getElem? (i := 724) (by decide +kernel)⟩
theorem lw_p26 : lw_okq (⟨"ShareShelfModel", "isWanted", "(II)Z"⟩, 21) := ⟨⟨by decide +kernel, by decide +kernel⟩, List.mem_of_getElem? (i := 592) (by decide +kernel), List.mem_of_getElem? (i := 750) (by decide +kernel), List.mem_of_getElem? (i := 751) (by decide +kernel)⟩
theorem lw_p27 : lw_okq (⟨"ShareShelfModel", "hasHelpers", "(III)Z"⟩, 21) := ⟨⟨by decide +kernel, by decide +kernel⟩, List.mem_of_getElem? (i := 592) (by decide +kernel), List.mem_of_getElem? (i := 754) (by decide +kernel), List.mem_of_getElem? (i := 755) (by decide +kernel)⟩
theorem lw_p28 : lw_okq (⟨"ShareShelfModel", "canHelp", "(IIII)Z"⟩, 21) := ⟨⟨by decide +kernel, by decide +kernel⟩, List.mem_of_getElem? (i := 592) (by decide +kernel), List.mem_of_getElem? (i := 758) (by decide +kernel), List.mem_of_getElem? (i := 759) (by decide +kernel)⟩
theorem lw_p29 : lw_okq (⟨"ShareShelfModel", "sendAll", "(IIII)I"⟩, 21) := ⟨⟨by decide +kernel, by decide +kernel⟩, List.mem_of_getElem? (i := 592) (by decide +kernel), List.mem_of_getElem? (i := 765) (by decide +kernel), List.mem_of_getElem? (i := 766) (by decide +kernel)⟩
theorem lw_p30 : lw_okq (⟨"ShareShelfModel", "fill", "(II)V"⟩, 21) := ⟨⟨by decide +kernel, by decide +kernel⟩, List.mem_of_getElem? (i := 592) (by decide +kernel), List.mem_of_getElem? (i := 781) (by decide +kernel), List.mem_of_getElem? (i := 782) (by decide +kernel)⟩
theorem lw_p31 : lw_okq (⟨"ShareShelfModel", "byteOf", "(II)I"⟩, 21) := ⟨⟨by decide +kernel, by decide +kernel⟩, List.mem_of_getElem? (i := 592) (by decide +kernel), List.mem_of_getElem? (i := 785) (by decide +kernel), List.mem_of_getElem? (i := 786) (by decide +kernel)⟩
def lw_privs_2 : List (MethodName × Nat) := [(⟨"ShareShelf", "rebuildShare", "(LShareShelf$Node;II)I"⟩, 10), (⟨"ShareShelf", "chooseLeastSent", "(I)V"⟩, 10), (⟨"ShareShelf", "leastSent", "(I)I"⟩, 10), (⟨"ShareShelf", "askHelpers", "(III)V"⟩, 10), (⟨"ShareShelf", "countFresh", "(I)I"⟩, 10), (⟨"ShareShelfModel", "fails", "(I)I"⟩, 21), (⟨"ShareShelfModel", "live", "()I"⟩, 21), (⟨"ShareShelfModel", "cast", "(III)V"⟩, 21), (⟨"ShareShelfModel", "settleNode", "(II)V"⟩, 21), (⟨"ShareShelfModel", "isFresh", "(II)Z"⟩, 21), (⟨"ShareShelfModel", "isWanted", "(II)Z"⟩, 21), (⟨"ShareShelfModel", "hasHelpers", "(III)Z"⟩, 21), (⟨"ShareShelfModel", "canHelp", "(IIII)Z"⟩, 21), (⟨"ShareShelfModel", "sendAll", "(IIII)I"⟩, 21), (⟨"ShareShelfModel", "fill", "(II)V"⟩, 21), (⟨"ShareShelfModel", "byteOf", "(II)I"⟩, 21)]
theorem lw_r2 : ∀ q ∈ lw_privs_2, lw_okq q := List.forall_mem_cons.mpr ⟨lw_p16, List.forall_mem_cons.mpr ⟨lw_p17, List.forall_mem_cons.mpr ⟨lw_p18, List.forall_mem_cons.mpr ⟨lw_p19, List.forall_mem_cons.mpr ⟨lw_p20, List.forall_mem_cons.mpr ⟨lw_p21, List.forall_mem_cons.mpr ⟨lw_p22, List.forall_mem_cons.mpr ⟨lw_p23, List.forall_mem_cons.mpr ⟨lw_p24, List.forall_mem_cons.mpr ⟨lw_p25, List.forall_mem_cons.mpr ⟨lw_p26, List.forall_mem_cons.mpr ⟨lw_p27, List.forall_mem_cons.mpr ⟨lw_p28, List.forall_mem_cons.mpr ⟨lw_p29, List.forall_mem_cons.mpr ⟨lw_p30, List.forall_mem_cons.mpr ⟨lw_p31, fun _ h => absurd h List.not_mem_nil⟩⟩⟩⟩⟩⟩⟩⟩⟩⟩⟩⟩⟩⟩⟩⟩
def lw_privs : List (MethodName × Nat) := lw_privs_1 ++ (lw_privs_2)
def lw_tbl : List Cond := k2_sels lw_privs ++ tables_1
theorem lw_privs_ok : ∀ q ∈ lw_privs, lw_okq q := by
  show ∀ q ∈ lw_privs_1 ++ (lw_privs_2), lw_okq q
  exact List.forall_mem_append.mpr ⟨lw_r1, lw_r2⟩
end
section
def RX0 : String := "ShareShelf$Galois"
def TX0 : u_T := fun k => match k with
  | 0 => ("ShareShelf$Galois", "power", "[I", true)
  | _ => ("ShareShelf$Galois", "exponent", "[I", true)
def tyX0 : Nat → FieldType := fun k => match k with
  | 0 => .array .int
  | _ => .array .int
abbrev wsX00 : List Cond := u_ws RX0 TX0 2
theorem nmX0 : ∀ a, a < 2 → ∀ b, b < 2 → a ≠ b → (TX0 a).2.1 ≠ (TX0 b).2.1 := by decide +kernel
theorem tyX0_ok : ∀ k, k < 2 → parseFieldDescriptor (TX0 k).2.2.1 = some (tyX0 k) := by decide +kernel
def RX1 : String := "ShareShelf$Item"
def TX1 : u_T := fun k => match k with
  | 0 => ("ShareShelf$Item", "newest", "I", false)
  | 1 => ("ShareShelf$Item", "length", "I", false)
  | 2 => ("ShareShelf$Item", "made", "I", false)
  | 3 => ("ShareShelf$Item", "putLength", "I", false)
  | _ => ("ShareShelf$Item", "stopped", "Z", false)
def tyX1 : Nat → FieldType := fun k => match k with
  | 0 => .int
  | 1 => .int
  | 2 => .int
  | 3 => .int
  | _ => .boolean
abbrev wsX10 : List Cond := u_ws RX1 TX1 5
theorem nmX1 : ∀ a, a < 5 → ∀ b, b < 5 → a ≠ b → (TX1 a).2.1 ≠ (TX1 b).2.1 := by decide +kernel
theorem tyX1_ok : ∀ k, k < 5 → parseFieldDescriptor (TX1 k).2.2.1 = some (tyX1 k) := by decide +kernel
def RX2 : String := "ShareShelf$Matrices"
def TX2 : u_T := fun k => match k with
  | 0 => ("ShareShelf$Matrices", "rows", "[[I", true)
  | _ => ("ShareShelf$Matrices", "values", "[I", true)
def tyX2 : Nat → FieldType := fun k => match k with
  | 0 => .array (.array .int)
  | _ => .array .int
abbrev wsX20 : List Cond := u_ws RX2 TX2 2
theorem nmX2 : ∀ a, a < 2 → ∀ b, b < 2 → a ≠ b → (TX2 a).2.1 ≠ (TX2 b).2.1 := by decide +kernel
theorem tyX2_ok : ∀ k, k < 2 → parseFieldDescriptor (TX2 k).2.2.1 = some (tyX2 k) := by decide +kernel
def RX3 : String := "ShareShelf$Node"
def TX3 : u_T := fun k => match k with
  | 0 => ("ShareShelf$Node", "point", "I", true)
  | 1 => ("ShareShelf$Node", "shares", "[LShareShelf$Share;", true)
  | 2 => ("ShareShelf$Node", "shadows", "[LShareShelf$Share;", true)
  | 3 => ("ShareShelf$Node", "live", "Z", false)
  | _ => ("ShareShelf$Node", "sent", "I", false)
def tyX3 : Nat → FieldType := fun k => match k with
  | 0 => .int
  | 1 => .array (.object "ShareShelf$Share")
  | 2 => .array (.object "ShareShelf$Share")
  | 3 => .boolean
  | _ => .int
abbrev wsX30 : List Cond := u_ws RX3 TX3 5
theorem nmX3 : ∀ a, a < 5 → ∀ b, b < 5 → a ≠ b → (TX3 a).2.1 ≠ (TX3 b).2.1 := by decide +kernel
theorem tyX3_ok : ∀ k, k < 5 → parseFieldDescriptor (TX3 k).2.2.1 = some (tyX3 k) := by decide +kernel
def RX4 : String := "ShareShelf$Share"
def TX4 : u_T := fun k => match k with
  | 0 => ("ShareShelf$Share", "version", "I", false)
  | 1 => ("ShareShelf$Share", "length", "I", false)
  | _ => ("ShareShelf$Share", "bytes", "[I", true)
def tyX4 : Nat → FieldType := fun k => match k with
  | 0 => .int
  | 1 => .int
  | _ => .array .int
abbrev wsX40 : List Cond := u_ws RX4 TX4 3
theorem nmX4 : ∀ a, a < 3 → ∀ b, b < 3 → a ≠ b → (TX4 a).2.1 ≠ (TX4 b).2.1 := by decide +kernel
theorem tyX4_ok : ∀ k, k < 3 → parseFieldDescriptor (TX4 k).2.2.1 = some (tyX4 k) := by decide +kernel
def RX5 : String := "ShareShelf$Team"
def TX5 : u_T := fun k => match k with
  | 0 => ("ShareShelf$Team", "members", "[I", true)
  | 1 => ("ShareShelf$Team", "points", "[I", true)
  | _ => ("ShareShelf$Team", "size", "I", false)
def tyX5 : Nat → FieldType := fun k => match k with
  | 0 => .array .int
  | 1 => .array .int
  | _ => .int
abbrev wsX50 : List Cond := u_ws RX5 TX5 3
theorem nmX5 : ∀ a, a < 3 → ∀ b, b < 3 → a ≠ b → (TX5 a).2.1 ≠ (TX5 b).2.1 := by decide +kernel
theorem tyX5_ok : ∀ k, k < 3 → parseFieldDescriptor (TX5 k).2.2.1 = some (tyX5 k) := by decide +kernel
def RX6 : String := "ShareShelf"
def TX6 : u_T := fun k => match k with
  | 0 => ("ShareShelf", "galois", "LShareShelf$Galois;", true)
  | 1 => ("ShareShelf", "matrices", "LShareShelf$Matrices;", true)
  | 2 => ("ShareShelf", "nodes", "[LShareShelf$Node;", true)
  | 3 => ("ShareShelf", "items", "[LShareShelf$Item;", true)
  | 4 => ("ShareShelf", "team", "LShareShelf$Team;", true)
  | 5 => ("ShareShelf", "sentBytes", "[I", true)
  | 6 => ("ShareShelf", "loaded", "[I", true)
  | 7 => ("ShareShelf", "read", "[I", true)
  | 8 => ("ShareShelf", "readLength", "I", false)
  | _ => ("ShareShelf", "stopBehind", "I", false)
def tyX6 : Nat → FieldType := fun k => match k with
  | 0 => .object "ShareShelf$Galois"
  | 1 => .object "ShareShelf$Matrices"
  | 2 => .array (.object "ShareShelf$Node")
  | 3 => .array (.object "ShareShelf$Item")
  | 4 => .object "ShareShelf$Team"
  | 5 => .array .int
  | 6 => .array .int
  | 7 => .array .int
  | 8 => .int
  | _ => .int
abbrev wsX60 : List Cond := u_ws RX6 TX6 10
theorem nmX6 : ∀ a, a < 10 → ∀ b, b < 10 → a ≠ b → (TX6 a).2.1 ≠ (TX6 b).2.1 := by decide +kernel
theorem tyX6_ok : ∀ k, k < 10 → parseFieldDescriptor (TX6 k).2.2.1 = some (tyX6 k) := by decide +kernel
def RX7 : String := "ShareShelfModel"
def TX7 : u_T := fun k => match k with
  | 0 => ("ShareShelfModel", "thrown", "I", false)
  | 1 => ("ShareShelfModel", "loaded", "[I", true)
  | 2 => ("ShareShelfModel", "read", "I", false)
  | 3 => ("ShareShelfModel", "result", "[I", true)
  | 4 => ("ShareShelfModel", "cutAt", "I", false)
  | 5 => ("ShareShelfModel", "newest", "[I", true)
  | 6 => ("ShareShelfModel", "length", "[I", true)
  | 7 => ("ShareShelfModel", "latest", "[I", true)
  | 8 => ("ShareShelfModel", "latestLength", "[I", true)
  | 9 => ("ShareShelfModel", "isStopped", "[Z", true)
  | 10 => ("ShareShelfModel", "hasFailed", "[Z", true)
  | 11 => ("ShareShelfModel", "sent", "[I", true)
  | 12 => ("ShareShelfModel", "version", "[I", true)
  | 13 => ("ShareShelfModel", "size", "[I", true)
  | 14 => ("ShareShelfModel", "bytes", "[I", true)
  | 15 => ("ShareShelfModel", "shadow", "[I", true)
  | 16 => ("ShareShelfModel", "shadowSize", "[I", true)
  | 17 => ("ShareShelfModel", "shadowBytes", "[I", true)
  | 18 => ("ShareShelfModel", "matrix", "[I", true)
  | 19 => ("ShareShelfModel", "sending", "[I", true)
  | _ => ("ShareShelfModel", "helps", "[Z", true)
def tyX7 : Nat → FieldType := fun k => match k with
  | 0 => .int
  | 1 => .array .int
  | 2 => .int
  | 3 => .array .int
  | 4 => .int
  | 5 => .array .int
  | 6 => .array .int
  | 7 => .array .int
  | 8 => .array .int
  | 9 => .array .boolean
  | 10 => .array .boolean
  | 11 => .array .int
  | 12 => .array .int
  | 13 => .array .int
  | 14 => .array .int
  | 15 => .array .int
  | 16 => .array .int
  | 17 => .array .int
  | 18 => .array .int
  | 19 => .array .int
  | _ => .array .boolean
theorem nmX7 : ∀ a, a < 21 → ∀ b, b < 21 → a ≠ b → (TX7 a).2.1 ≠ (TX7 b).2.1 := by decide +kernel
theorem tyX7_ok : ∀ k, k < 21 → parseFieldDescriptor (TX7 k).2.2.1 = some (tyX7 k) := by decide +kernel
def RL : String := "ShareShelfLaw"
abbrev sm_cl : List vw_C := [(RX0, TX0, 2), (RX1, TX1, 5), (RX2, TX2, 2), (RX3, TX3, 5), (RX4, TX4, 3), (RX5, TX5, 3), (RX6, TX6, 10), (RX7, TX7, 21)]
abbrev b_S_init : ByteArray := prog_1_method_1_code
abbrev y_S_init : MethodName := ⟨RX6, "<init>", "()V"⟩
abbrev b_G_init : ByteArray := prog_2_method_1_code
abbrev y_G_init : MethodName := ⟨RX0, "<init>", "()V"⟩
abbrev b_M_init : ByteArray := prog_4_method_1_code
abbrev y_M_init : MethodName := ⟨RX2, "<init>", "()V"⟩
abbrev b_T_init : ByteArray := prog_7_method_1_code
abbrev y_T_init : MethodName := ⟨RX5, "<init>", "()V"⟩
abbrev b_N_init : ByteArray := prog_5_method_1_code
abbrev y_N_init : MethodName := ⟨RX3, "<init>", "(I)V"⟩
abbrev b_H_init : ByteArray := prog_6_method_1_code
abbrev y_H_init : MethodName := ⟨RX4, "<init>", "()V"⟩
abbrev b_I_init : ByteArray := prog_3_method_1_code
abbrev y_I_init : MethodName := ⟨RX1, "<init>", "()V"⟩
abbrev b_L_load : ByteArray := method_3_code
abbrev y_L_load : MethodName := ⟨RL, "load", "(LShareShelf;II)I"⟩
abbrev b_S_load : ByteArray := prog_1_method_2_code
abbrev y_S_load : MethodName := ⟨RX6, "load", "(II)V"⟩
abbrev b_S_checkIndex : ByteArray := prog_1_method_16_code
abbrev y_S_checkIndex : MethodName := ⟨RX6, "checkIndex", "(II)V"⟩
abbrev b_L_put : ByteArray := method_4_code
abbrev y_L_put : MethodName := ⟨RL, "put", "(LShareShelf;II[J)I"⟩
abbrev b_S_put : ByteArray := prog_1_method_3_code
abbrev y_S_put : MethodName := ⟨RX6, "put", "(II)I"⟩
abbrev b_S_checkNotStopped : ByteArray := prog_1_method_18_code
abbrev y_S_checkNotStopped : MethodName := ⟨RX6, "checkNotStopped", "(I)V"⟩
abbrev b_S_countLive : ByteArray := prog_1_method_22_code
abbrev y_S_countLive : MethodName := ⟨RX6, "countLive", "()I"⟩
abbrev b_I_begin : ByteArray := prog_3_method_2_code
abbrev y_I_begin : MethodName := ⟨RX1, "begin", "(I)V"⟩
abbrev b_S_takeMessages : ByteArray := prog_1_method_26_code
abbrev y_S_takeMessages : MethodName := ⟨RX6, "takeMessages", "(I)I"⟩
abbrev b_S_sendShadows : ByteArray := prog_1_method_27_code
abbrev y_S_sendShadows : MethodName := ⟨RX6, "sendShadows", "(II)V"⟩
abbrev b_M_fill : ByteArray := prog_4_method_2_code
abbrev y_M_fill : MethodName := ⟨RX2, "fill", "([II)V"⟩
abbrev b_S_stripesOf : ByteArray := prog_1_method_21_code
abbrev y_S_stripesOf : MethodName := ⟨RX6, "stripesOf", "(I)I"⟩
abbrev b_H_become : ByteArray := prog_6_method_2_code
abbrev y_H_become : MethodName := ⟨RX4, "become", "(II)V"⟩
abbrev b_M_encode : ByteArray := prog_4_method_4_code
abbrev y_M_encode : MethodName := ⟨RX2, "encode", "(LShareShelf$Galois;ILShareShelf$Share;)V"⟩
abbrev b_G_valueAt : ByteArray := prog_2_method_4_code
abbrev y_G_valueAt : MethodName := ⟨RX0, "valueAt", "(I[II)I"⟩
abbrev b_G_times : ByteArray := prog_2_method_2_code
abbrev y_G_times : MethodName := ⟨RX0, "times", "(II)I"⟩
abbrev b_S_turnShadows : ByteArray := prog_1_method_28_code
abbrev y_S_turnShadows : MethodName := ⟨RX6, "turnShadows", "(II)V"⟩
abbrev b_N_turnShadow : ByteArray := prog_5_method_2_code
abbrev y_N_turnShadow : MethodName := ⟨RX3, "turnShadow", "(I)V"⟩
abbrev b_I_finish : ByteArray := prog_3_method_3_code
abbrev y_I_finish : MethodName := ⟨RX1, "finish", "(Z)V"⟩
abbrev b_L_cut : ByteArray := method_5_code
abbrev y_L_cut : MethodName := ⟨RL, "cut", "(LShareShelf;I)I"⟩
abbrev b_S_cut : ByteArray := prog_1_method_4_code
abbrev y_S_cut : MethodName := ⟨RX6, "cut", "(I)V"⟩
abbrev b_L_settle : ByteArray := method_6_code
abbrev y_L_settle : MethodName := ⟨RL, "settle", "(LShareShelf;I[J)I"⟩
abbrev b_S_settle : ByteArray := prog_1_method_5_code
abbrev y_S_settle : MethodName := ⟨RX6, "settle", "(I)Z"⟩
abbrev b_S_someNodeHasShare : ByteArray := prog_1_method_30_code
abbrev y_S_someNodeHasShare : MethodName := ⟨RX6, "someNodeHasShare", "(II)Z"⟩
abbrev b_S_dropShadows : ByteArray := prog_1_method_29_code
abbrev y_S_dropShadows : MethodName := ⟨RX6, "dropShadows", "(I)V"⟩
abbrev b_L_get : ByteArray := method_7_code
abbrev y_L_get : MethodName := ⟨RL, "get", "(LShareShelf;II[J)I"⟩
abbrev b_S_get : ByteArray := prog_1_method_6_code
abbrev y_S_get : MethodName := ⟨RX6, "get", "(II)I"⟩
abbrev b_S_checkMask : ByteArray := prog_1_method_17_code
abbrev y_S_checkMask : MethodName := ⟨RX6, "checkMask", "(I)V"⟩
abbrev b_S_liveAndFresh : ByteArray := prog_1_method_25_code
abbrev y_S_liveAndFresh : MethodName := ⟨RX6, "liveAndFresh", "(II)I"⟩
abbrev b_S_isFresh : ByteArray := prog_1_method_23_code
abbrev y_S_isFresh : MethodName := ⟨RX6, "isFresh", "(II)Z"⟩
abbrev b_S_chooseLowest : ByteArray := prog_1_method_35_code
abbrev y_S_chooseLowest : MethodName := ⟨RX6, "chooseLowest", "(I)V"⟩
abbrev b_T_clear : ByteArray := prog_7_method_2_code
abbrev y_T_clear : MethodName := ⟨RX5, "clear", "()V"⟩
abbrev b_T_add : ByteArray := prog_7_method_3_code
abbrev y_T_add : MethodName := ⟨RX5, "add", "(I)V"⟩
abbrev b_M_decode : ByteArray := prog_4_method_5_code
abbrev y_M_decode : MethodName := ⟨RX2, "decode", "(LShareShelf$Galois;[LShareShelf$Node;ILShareShelf$Team;I)V"⟩
abbrev b_M_forgetFirstFive : ByteArray := prog_4_method_6_code
abbrev y_M_forgetFirstFive : MethodName := ⟨RX2, "forgetFirstFive", "([I)V"⟩
abbrev b_G_interpolate : ByteArray := prog_2_method_5_code
abbrev y_G_interpolate : MethodName := ⟨RX0, "interpolate", "([I[II)V"⟩
abbrev b_G_over : ByteArray := prog_2_method_3_code
abbrev y_G_over : MethodName := ⟨RX0, "over", "(II)I"⟩
abbrev b_M_setFirstFive : ByteArray := prog_4_method_7_code
abbrev y_M_setFirstFive : MethodName := ⟨RX2, "setFirstFive", "(I)V"⟩
abbrev b_M_spill : ByteArray := prog_4_method_3_code
abbrev y_M_spill : MethodName := ⟨RX2, "spill", "([II)V"⟩
abbrev b_L_out : ByteArray := method_8_code
abbrev y_L_out : MethodName := ⟨RL, "out", "(LShareShelf;I[J)I"⟩
abbrev b_S_out : ByteArray := prog_1_method_7_code
abbrev y_S_out : MethodName := ⟨RX6, "out", "(I)I"⟩
abbrev b_L_object : ByteArray := method_9_code
abbrev y_L_object : MethodName := ⟨RL, "object", "(LShareShelf;II[J)I"⟩
abbrev b_S_object : ByteArray := prog_1_method_8_code
abbrev y_S_object : MethodName := ⟨RX6, "object", "(II)I"⟩
abbrev b_L_fail : ByteArray := method_10_code
abbrev y_L_fail : MethodName := ⟨RL, "fail", "(LShareShelf;I)I"⟩
abbrev b_S_fail : ByteArray := prog_1_method_9_code
abbrev y_S_fail : MethodName := ⟨RX6, "fail", "(I)V"⟩
abbrev b_S_checkLive : ByteArray := prog_1_method_19_code
abbrev y_S_checkLive : MethodName := ⟨RX6, "checkLive", "(I)V"⟩
abbrev b_L_back : ByteArray := method_11_code
abbrev y_L_back : MethodName := ⟨RL, "back", "(LShareShelf;IZ)I"⟩
abbrev b_S_back : ByteArray := prog_1_method_10_code
abbrev y_S_back : MethodName := ⟨RX6, "back", "(IZ)V"⟩
abbrev b_N_comeBack : ByteArray := prog_5_method_3_code
abbrev y_N_comeBack : MethodName := ⟨RX3, "comeBack", "(Z)V"⟩
abbrev b_L_rebuild : ByteArray := method_12_code
abbrev y_L_rebuild : MethodName := ⟨RL, "rebuild", "(LShareShelf;II[J)I"⟩
abbrev b_S_rebuild : ByteArray := prog_1_method_11_code
abbrev y_S_rebuild : MethodName := ⟨RX6, "rebuild", "(II)I"⟩
abbrev b_S_needsRebuild : ByteArray := prog_1_method_31_code
abbrev y_S_needsRebuild : MethodName := ⟨RX6, "needsRebuild", "(II)Z"⟩
abbrev b_S_lacksHelpers : ByteArray := prog_1_method_32_code
abbrev y_S_lacksHelpers : MethodName := ⟨RX6, "lacksHelpers", "(II)Z"⟩
abbrev b_S_rebuildShare : ByteArray := prog_1_method_33_code
abbrev y_S_rebuildShare : MethodName := ⟨RX6, "rebuildShare", "(LShareShelf$Node;II)I"⟩
abbrev b_S_chooseLeastSent : ByteArray := prog_1_method_36_code
abbrev y_S_chooseLeastSent : MethodName := ⟨RX6, "chooseLeastSent", "(I)V"⟩
abbrev b_S_leastSent : ByteArray := prog_1_method_37_code
abbrev y_S_leastSent : MethodName := ⟨RX6, "leastSent", "(I)I"⟩
abbrev b_S_askHelpers : ByteArray := prog_1_method_34_code
abbrev y_S_askHelpers : MethodName := ⟨RX6, "askHelpers", "(III)V"⟩
abbrev b_L_node : ByteArray := method_13_code
abbrev y_L_node : MethodName := ⟨RL, "node", "(LShareShelf;II[J)I"⟩
abbrev b_S_node : ByteArray := prog_1_method_12_code
abbrev y_S_node : MethodName := ⟨RX6, "node", "(II)I"⟩
abbrev b_S_countFresh : ByteArray := prog_1_method_24_code
abbrev y_S_countFresh : MethodName := ⟨RX6, "countFresh", "(I)I"⟩
abbrev b_N_countShadows : ByteArray := prog_5_method_4_code
abbrev y_N_countShadows : MethodName := ⟨RX3, "countShadows", "()I"⟩
abbrev b_L_share : ByteArray := method_14_code
abbrev y_L_share : MethodName := ⟨RL, "share", "(LShareShelf;III[J)I"⟩
abbrev b_S_share : ByteArray := prog_1_method_13_code
abbrev y_S_share : MethodName := ⟨RX6, "share", "(III)I"⟩
abbrev b_L_byteAt : ByteArray := method_15_code
abbrev y_L_byteAt : MethodName := ⟨RL, "byteAt", "(LShareShelf;III[J)I"⟩
abbrev b_S_byteAt : ByteArray := prog_1_method_14_code
abbrev y_S_byteAt : MethodName := ⟨RX6, "byteAt", "(III)I"⟩
abbrev b_L_field : ByteArray := method_16_code
abbrev y_L_field : MethodName := ⟨RL, "field", "(LShareShelf;III[J)I"⟩
abbrev b_S_field : ByteArray := prog_1_method_15_code
abbrev y_S_field : MethodName := ⟨RX6, "field", "(III)I"⟩
abbrev b_S_isByte : ByteArray := prog_1_method_20_code
abbrev y_S_isByte : MethodName := ⟨RX6, "isByte", "(I)Z"⟩
abbrev b_R_init : ByteArray := prog_9_method_1_code
abbrev y_R_init : MethodName := ⟨RX7, "<init>", "()V"⟩
abbrev b_R_thrown : ByteArray := prog_9_method_2_code
abbrev y_R_thrown : MethodName := ⟨RX7, "thrown", "()I"⟩
abbrev b_R_field : ByteArray := prog_9_method_10_code
abbrev y_R_field : MethodName := ⟨RX7, "field", "(III)I"⟩
abbrev b_R_within : ByteArray := prog_9_method_4_code
abbrev y_R_within : MethodName := ⟨RX7, "within", "(III)Z"⟩
abbrev b_R_fails : ByteArray := prog_9_method_3_code
abbrev y_R_fails : MethodName := ⟨RX7, "fails", "(I)I"⟩
abbrev b_R_times : ByteArray := prog_9_method_8_code
abbrev y_R_times : MethodName := ⟨RX7, "times", "(II)I"⟩
abbrev b_R_load : ByteArray := prog_9_method_11_code
abbrev y_R_load : MethodName := ⟨RX7, "load", "(II)V"⟩
abbrev b_R_put : ByteArray := prog_9_method_15_code
abbrev y_R_put : MethodName := ⟨RX7, "put", "(II)I"⟩
abbrev b_R_isObject : ByteArray := prog_9_method_5_code
abbrev y_R_isObject : MethodName := ⟨RX7, "isObject", "(I)Z"⟩
abbrev b_R_live : ByteArray := prog_9_method_12_code
abbrev y_R_live : MethodName := ⟨RX7, "live", "()I"⟩
abbrev b_R_cast : ByteArray := prog_9_method_13_code
abbrev y_R_cast : MethodName := ⟨RX7, "cast", "(III)V"⟩
abbrev b_R_at : ByteArray := prog_9_method_7_code
abbrev y_R_at : MethodName := ⟨RX7, "at", "(II)I"⟩
abbrev b_R_settleNode : ByteArray := prog_9_method_14_code
abbrev y_R_settleNode : MethodName := ⟨RX7, "settleNode", "(II)V"⟩
abbrev b_R_cut : ByteArray := prog_9_method_16_code
abbrev y_R_cut : MethodName := ⟨RX7, "cut", "(I)V"⟩
abbrev b_R_settle : ByteArray := prog_9_method_17_code
abbrev y_R_settle : MethodName := ⟨RX7, "settle", "(I)Z"⟩
abbrev b_R_get : ByteArray := prog_9_method_20_code
abbrev y_R_get : MethodName := ⟨RX7, "get", "(II)I"⟩
abbrev b_R_isOffered : ByteArray := prog_9_method_19_code
abbrev y_R_isOffered : MethodName := ⟨RX7, "isOffered", "(II)Z"⟩
abbrev b_R_isFresh : ByteArray := prog_9_method_18_code
abbrev y_R_isFresh : MethodName := ⟨RX7, "isFresh", "(II)Z"⟩
abbrev b_R_out : ByteArray := prog_9_method_21_code
abbrev y_R_out : MethodName := ⟨RX7, "out", "(I)I"⟩
abbrev b_R_object : ByteArray := prog_9_method_22_code
abbrev y_R_object : MethodName := ⟨RX7, "object", "(II)I"⟩
abbrev b_R_fail : ByteArray := prog_9_method_23_code
abbrev y_R_fail : MethodName := ⟨RX7, "fail", "(I)V"⟩
abbrev b_R_isNode : ByteArray := prog_9_method_6_code
abbrev y_R_isNode : MethodName := ⟨RX7, "isNode", "(I)Z"⟩
abbrev b_R_back : ByteArray := prog_9_method_24_code
abbrev y_R_back : MethodName := ⟨RX7, "back", "(IZ)V"⟩
abbrev b_R_rebuild : ByteArray := prog_9_method_30_code
abbrev y_R_rebuild : MethodName := ⟨RX7, "rebuild", "(II)I"⟩
abbrev b_R_isWanted : ByteArray := prog_9_method_27_code
abbrev y_R_isWanted : MethodName := ⟨RX7, "isWanted", "(II)Z"⟩
abbrev b_R_hasHelpers : ByteArray := prog_9_method_28_code
abbrev y_R_hasHelpers : MethodName := ⟨RX7, "hasHelpers", "(III)Z"⟩
abbrev b_R_canHelp : ByteArray := prog_9_method_26_code
abbrev y_R_canHelp : MethodName := ⟨RX7, "canHelp", "(IIII)Z"⟩
abbrev b_R_stripes : ByteArray := prog_9_method_25_code
abbrev y_R_stripes : MethodName := ⟨RX7, "stripes", "(I)I"⟩
abbrev b_R_sendAll : ByteArray := prog_9_method_29_code
abbrev y_R_sendAll : MethodName := ⟨RX7, "sendAll", "(IIII)I"⟩
abbrev b_R_node : ByteArray := prog_9_method_31_code
abbrev y_R_node : MethodName := ⟨RX7, "node", "(II)I"⟩
abbrev b_R_share : ByteArray := prog_9_method_32_code
abbrev y_R_share : MethodName := ⟨RX7, "share", "(III)I"⟩
abbrev b_R_byteAt : ByteArray := prog_9_method_35_code
abbrev y_R_byteAt : MethodName := ⟨RX7, "byteAt", "(III)I"⟩
abbrev b_R_fill : ByteArray := prog_9_method_34_code
abbrev y_R_fill : MethodName := ⟨RX7, "fill", "(II)V"⟩
abbrev b_R_byteOf : ByteArray := prog_9_method_33_code
abbrev y_R_byteOf : MethodName := ⟨RX7, "byteOf", "(II)I"⟩
abbrev b_R_power : ByteArray := prog_9_method_9_code
abbrev y_R_power : MethodName := ⟨RX7, "power", "(II)I"⟩
/-- the words that go down into every method: those of the tables that stay -/
def sm_gd (w : Cond) : Bool := k2_isCode w || goodWord w
def sm_ws : List Cond := lw_tbl.filter sm_gd
theorem sm_in {w : Cond} (h : w ∈ lw_tbl) (hg : sm_gd w = true) : w ∈ sm_ws := List.mem_filter.mpr ⟨h, hg⟩
theorem sm_inT {w : Cond} (i : Nat) (h : tables_1[i]? = some w) (hg : sm_gd w = true) : w ∈ sm_ws := sm_in (List.mem_append_right _ (List.mem_of_getElem? h)) hg
theorem sm_inS {w : Cond} (i : Nat) (h : (k2_sels lw_privs)[i]? = some w) (hg : sm_gd w = true) : w ∈ sm_ws := sm_in (List.mem_append_left _ (List.mem_of_getElem? h)) hg
theorem sm_good (w : Cond) (h : w ∈ sm_ws) : w ∈ sm_ws ∧ ((w.onTables && w.keeps) = true ∨ ∃ ty, w = .arrayClass ty) := by
  refine ⟨h, ?_⟩
  have h2 := (List.mem_filter.mp h).2
  simp only [sm_gd, Bool.or_eq_true] at h2
  rcases h2 with h2 | h2
  · cases w <;> first | (simp [k2_isCode] at h2; done) | exact Or.inl rfl
  · exact good_of_word h2
theorem in_X0 : ∀ w ∈ u_ws RX0 TX0 2, w ∈ sm_ws := by decide +kernel
theorem in_X1 : ∀ w ∈ u_ws RX1 TX1 5, w ∈ sm_ws := by decide +kernel
theorem in_X2 : ∀ w ∈ u_ws RX2 TX2 2, w ∈ sm_ws := by decide +kernel
theorem in_X3 : ∀ w ∈ u_ws RX3 TX3 5, w ∈ sm_ws := by decide +kernel
theorem in_X4 : ∀ w ∈ u_ws RX4 TX4 3, w ∈ sm_ws := by decide +kernel
theorem in_X5 : ∀ w ∈ u_ws RX5 TX5 3, w ∈ sm_ws := by decide +kernel
theorem in_X6 : ∀ w ∈ u_ws RX6 TX6 10, w ∈ sm_ws := by decide +kernel
theorem in_X7 : ∀ w ∈ u_ws RX7 TX7 21, w ∈ sm_ws := by decide +kernel
end
section
def va_AOA (t : FieldType) (U : State) : Prop := (Cond.arrayOver (.array t)).before #[] U = true
theorem va_AOA.use {t : FieldType} {A : Array Value} {U : State} (h : va_AOA t U) : (Cond.arrayOver (.array t)).before A U = true := h
/-! ===== BEGIN new T[n][m]: the outer array a place, the inner ones among the pooled ===== -/
/-- f, but v at every address of l -/
def vr_up {α : Type} (f : Nat → α) (l : List Nat) (v : α) : Nat → α := fun a => if a ∈ l then v else f a
theorem vr_up_in {α : Type} {f : Nat → α} {l : List Nat} {v : α} {a : Nat} (h : a ∈ l) : vr_up f l v a = v := if_pos h
theorem vr_up_ne {α : Type} {f : Nat → α} {l : List Nat} {v : α} {a : Nat} (h : a ∉ l) : vr_up f l v a = f a := if_neg h
theorem vr_rows {L l : List Nat} {f : Nat → va_E} {e : va_E} (h : ∀ a, a ∈ l → a ∉ L) : va_pl L f ++ l.map (fun a => (a, e)) = va_pl (L ++ l) (vr_up f l e) := by
  unfold va_pl
  rw [List.map_append]
  congr 1
  · apply List.map_congr_left
    intro a ha
    rw [vr_up_ne (fun q => h a q ha)]
  · apply List.map_congr_left
    intro a ha
    rw [vr_up_in ha]
theorem vr_lay {X rows : va_W} {x : Nat × va_E} {pl : va_W} {D : va_G} {cl : List vw_C} {H : Heap} (hP : va_P D cl (((X ++ pl) ++ [x]) ++ rows) H) : va_P D cl ((X ++ [x]) ++ (pl ++ rows)) H := by
  rw [List.append_assoc (X ++ pl)] at hP
  have h := va_P.swap hP
  rw [← List.append_assoc X] at h
  have h2 := va_P.swap h
  rw [List.append_assoc (X ++ [x])] at h2
  exact h2
theorem vr_layD {X rows : va_W} {x : Nat × va_E} {pl : va_W} {A : Nat → Prop} (hD : va_D A (((X ++ pl) ++ [x]) ++ rows)) : va_D A ((X ++ [x]) ++ (pl ++ rows)) := by
  rw [List.append_assoc (X ++ pl)] at hD
  have h := va_D.swap hD
  rw [← List.append_assoc X] at h
  have h2 := va_D.swap h
  rw [List.append_assoc (X ++ [x])] at h2
  exact h2
theorem vr_outer (c : ClassId) (N h0 : Nat) : ∀ i : Nat, Jvm.Free.Multi.outerC c N h0 i = arrV c N (fun j => va_rf (if j < i then some (h0 + 1 + j) else none))
  | 0 => by
    show ({ cls := c, slots := Array.replicate N .null, vm := .none } : Cell) = _
    rw [arrV_new]
    refine congrArg (arrV c N) (funext fun j => ?_)
    simp [va_rf]
  | i + 1 => by
    show (Jvm.Free.Multi.outerC c N h0 i).setSlot i (.ref (h0 + 1 + i)) = _
    rw [vr_outer c N h0 i, arrV_store]
    refine congrArg (arrV c N) (funext fun j => ?_)
    by_cases e : j = i
    · subst e
      simp [updV, va_rf]
    · by_cases h : j < i
      · simp [updV, e, h, Nat.lt_succ_of_lt h]
      · simp [updV, e, h, show ¬ j < i + 1 by omega]
section VGM
variable {p : Program} {l : Launch} {e : Env} {R : Room} {s : State} {m : MethodId} {args : Array Value} {below : List Frame} {meth : Method} {c : Code} {H : Heap} {locs : List Loc} {cells slots : Nat} {Q : State → Prop}
variable {cc : ByteArray} {pc : Nat} {ls : Array Slot} {rest : List Value} {D : va_G} {cl : List vw_C} {A : Nat → Prop} {a : Nat} {tys : List (ClassId × FieldType)} {ws : va_W} {H0 : Heap}
theorem va_mna {X : va_W} {L : List Nat} {f : Nat → va_E} {cc : ByteArray} (hexec : p.tables.exec = Jvm.exec) (hb : c.code = cc) {own : String} {index : Nat} {ty : FieldType} {cy : ClassId} (hown : s.vm.findClass own = some m.cls) (hclink : (Cond.classLink own index ("[" ++ (FieldType.array ty).toString)).before args s = true) (hover : va_AOA ty s) (harr : (Cond.arrayClass ty).before args s = true) (hcy : s.vm.findClass (FieldType.array ty).toString = some cy)
    (hK : va_K D cl tys s) (hP : va_P D cl (X ++ va_pl L f) H) (hD : va_D A (X ++ va_pl L f)) (hS : va_S A H0 H locs) (hA : ∀ q, H0.size ≤ q → A q) {n k : Int32} {N' K' : Nat} {z : vp_A} (hn : ¬ n < 0) (hk : ¬ k < 0) (hN : n.toNatClampNeg = N') (hM : k.toNatClampNeg = K')
    (hb1 : N' * 4 ≤ 536870912) (hb2 : K' * componentBytes ty ≤ 536870912) (hb3 : K' ≤ 536870912) (hdf : fits ty (defaultValue ty) = true) (hdd : (defaultValue ty).isDefault = true) (hcells : cells + (1 + N') ≤ R.cells) (hslots : slots + (N' + N' * K') ≤ R.slots) (hz : ∀ c : ClassId, Jvm.Free.Multi.innerC c K' (defaultValue ty) = vp_cell c z) (hdg : decode cc pc = .ok (.multianewarray index 2, 4))
    (kk : ∀ (q : Nat) (r : Nat → Nat) (cA : ClassId) (H1 : Heap), (∀ i j : Nat, i < N' → j < N' → r i = r j → i = j) → (∀ i : Nat, i < N' → r i ∉ L) → va_K D cl (tys ++ [(cA, .array ty)]) s →
      va_P D cl ((X ++ [(q, .inl (cA, N', .inr (.inr (.inr (.inr (fun i => if i < N' then some (r i) else none))))))]) ++ va_pl (L ++ (List.range N').map r) (vr_up f ((List.range N').map r) (.inl (cy, z)))) H1 → va_D A ((X ++ [(q, .inl (cA, N', .inr (.inr (.inr (.inr (fun i => if i < N' then some (r i) else none))))))]) ++ va_pl (L ++ (List.range N').map r) (vr_up f ((List.range N').map r) (.inl (cy, z)))) → va_S A H0 H1 locs →
      W p l e R s m args below meth c H1 locs (cells + 1 + N') (slots + N' + N' * K') Q (F0 m (pc + 4) ls (.ref q :: rest))) : W p l e R s m args below meth c H locs cells slots Q (F0 m pc ls (.int k :: .int n :: rest)) := by
  subst hN
  subst hM
  intro T hT Xs
  obtain ⟨vm₁, cA, comp, -, fA, fC, hO, -, X', step⟩ := Xs.multianewarray2F hexec hown hclink (va_AOA.use hover) harr (g := F0 m pc ls (.int k :: .int n :: rest)) rfl (by rw [hb]; exact hdg) rfl hn hk hb1 hb2 hb3 hdf hdd hcells hslots
  have ec : some cy = some comp := hcy.symm.trans fC
  cases ec
  generalize hF : Jvm.Free.Multi.fill (T.setVm vm₁) cA cy n.toNatClampNeg k.toNatClampNeg (defaultValue ty) n.toNatClampNeg = F at X' step
  have hTh : (T.setVm vm₁).heap = H := hT
  obtain ⟨f1, f2, -, -⟩ := Jvm.Free.Multi.fill_facts (T.setVm vm₁) cA cy n.toNatClampNeg k.toNatClampNeg (defaultValue ty) n.toNatClampNeg
  rw [hF, hTh] at f1 f2
  have hold : ∀ x : Nat, x < H.size → F.heap[x]? = H[x]? := fun x hx => by
    have := Jvm.Free.Multi.fill_old (T.setVm vm₁) cA cy n.toNatClampNeg k.toNatClampNeg (defaultValue ty) (a := x) (by rw [hTh]; exact hx) n.toNatClampNeg
    rw [hF, hTh] at this
    exact this
  have hrow : ∀ j : Nat, j < n.toNatClampNeg → F.heap[H.size + 1 + j]? = some (vp_cell cy z) := fun j hj => by
    have := Jvm.Free.Multi.fill_inner (T.setVm vm₁) cA cy n.toNatClampNeg k.toNatClampNeg (defaultValue ty) n.toNatClampNeg j hj
    rw [hF, hTh, hz] at this
    exact this
  have hout : Jvm.Free.Multi.outerC cA n.toNatClampNeg H.size n.toNatClampNeg = vp_cell cA (n.toNatClampNeg, .inr (.inr (.inr (.inr (fun i => if i < n.toNatClampNeg then some (H.size + 1 + i) else none))))) := by
    rw [vp_cell_q]
    exact vr_outer cA n.toNatClampNeg H.size n.toNatClampNeg
  rw [hout] at f2
  have hlt : ∀ a, a ∈ L → a < H.size := fun a ha => by
    obtain ⟨k9, hk9⟩ := va_pl_get (X := X) (f := f) ha
    exact (hP k9 _ hk9).lt
  have hnl : ∀ i : Nat, i < n.toNatClampNeg → H.size + 1 + i ∉ L := fun i _ h => by
    have := hlt _ h
    omega
  have hnm : ∀ a, a ∈ (List.range n.toNatClampNeg).map (fun i => H.size + 1 + i) → a ∉ L := fun a ha h => by
    obtain ⟨i, -, rfl⟩ := List.mem_map.mp ha
    have := hlt _ h
    omega
  have hP0 : va_P D cl (X ++ va_pl L f) F.heap := hP.kept (fun k9 x hx => hold x.1 ((hP k9 x hx).lt))
  have hP1 : va_P D cl ((X ++ va_pl L f) ++ [(H.size, .inl (cA, n.toNatClampNeg, .inr (.inr (.inr (.inr (fun i => if i < n.toNatClampNeg then some (H.size + 1 + i) else none))))))]) F.heap := hP0.app (fun k9 x hx => by
    have h0 : k9 < 1 := (List.getElem?_eq_some_iff.mp hx).1
    rw [show k9 = 0 by omega] at hx
    cases hx
    exact f2)
  have hP2 : va_P D cl (((X ++ va_pl L f) ++ [(H.size, .inl (cA, n.toNatClampNeg, .inr (.inr (.inr (.inr (fun i => if i < n.toNatClampNeg then some (H.size + 1 + i) else none))))))]) ++ ((List.range n.toNatClampNeg).map (fun i => H.size + 1 + i)).map (fun a => (a, .inl (cy, z)))) F.heap := hP1.app (fun k9 x hx => by
    obtain ⟨a, ha, rfl⟩ := List.mem_map.mp (List.mem_of_getElem? hx)
    obtain ⟨i, hi, rfl⟩ := List.mem_map.mp ha
    exact hrow i (List.mem_range.mp hi))
  have hD2 : va_D A (((X ++ va_pl L f) ++ [(H.size, .inl (cA, n.toNatClampNeg, .inr (.inr (.inr (.inr (fun i => if i < n.toNatClampNeg then some (H.size + 1 + i) else none))))))]) ++ ((List.range n.toNatClampNeg).map (fun i => H.size + 1 + i)).map (fun a => (a, .inl (cy, z)))) := by
    have hD1 := hD.push (e := .inl (cA, n.toNatClampNeg, .inr (.inr (.inr (.inr (fun i => if i < n.toNatClampNeg then some (H.size + 1 + i) else none)))))) hP rfl (hA _ hS.1)
    generalize hW1 : (X ++ va_pl L f) ++ [(H.size, .inl (cA, n.toNatClampNeg, .inr (.inr (.inr (.inr (fun i => if i < n.toNatClampNeg then some (H.size + 1 + i) else none))))))] = W1 at hD1 hP1 ⊢
    have hle : ∀ (k9 : Nat) (x : Nat × va_E), W1[k9]? = some x → x.1 ≤ H.size := fun k9 x hx => by
      rw [← hW1] at hx
      by_cases hl : k9 < (X ++ va_pl L f).length
      · rw [List.getElem?_append_left hl] at hx
        exact Nat.le_of_lt ((hP k9 x hx).lt)
      · rw [List.getElem?_append_right (by omega)] at hx
        have h0 : k9 - (X ++ va_pl L f).length < 1 := (List.getElem?_eq_some_iff.mp hx).1
        rw [show k9 - (X ++ va_pl L f).length = 0 by omega] at hx
        cases hx
        exact Nat.le_refl _
    have hr : ∀ (k9 : Nat) (x : Nat × va_E), (((List.range n.toNatClampNeg).map (fun i => H.size + 1 + i)).map (fun a => ((a, .inl (cy, z)) : Nat × va_E)))[k9]? = some x → x.1 = H.size + 1 + k9 := fun k9 x hx => by
      rw [List.getElem?_map, List.getElem?_map] at hx
      by_cases h9 : k9 < n.toNatClampNeg
      · rw [List.getElem?_range h9] at hx
        cases hx
        rfl
      · have hn0 : (List.range n.toNatClampNeg)[k9]? = none := List.getElem?_eq_none (by rw [List.length_range]; omega)
        rw [hn0] at hx
        cases hx
    refine ⟨fun i j x y hi hj hxy => ?_, fun k9 x hx => ?_⟩
    · by_cases h1 : i < W1.length <;> by_cases h2 : j < W1.length
      · rw [List.getElem?_append_left h1] at hi
        rw [List.getElem?_append_left h2] at hj
        exact hD1.1 i j x y hi hj hxy
      · rw [List.getElem?_append_left h1] at hi
        rw [List.getElem?_append_right (by omega)] at hj
        have := hle _ _ hi
        have := hr _ _ hj
        omega
      · rw [List.getElem?_append_right (by omega)] at hi
        rw [List.getElem?_append_left h2] at hj
        have := hle _ _ hj
        have := hr _ _ hi
        omega
      · rw [List.getElem?_append_right (by omega)] at hi hj
        have := hr _ _ hi
        have := hr _ _ hj
        omega
    · by_cases h1 : k9 < W1.length
      · rw [List.getElem?_append_left h1] at hx
        exact hD1.2 k9 x hx
      · rw [List.getElem?_append_right (by omega)] at hx
        have := hr _ _ hx
        exact hA _ (by have := hS.1; omega)
  have hAr : ArrOfT s cA (.array ty) := fun N9 z9 => by
    obtain ⟨-, k9, hk9, cm9, hkk9⟩ := (hO 0 0 0).1
    exact ⟨(fun q hq => by cases hq), k9, hk9, cm9, hkk9⟩
  have hK2 : va_K D cl (tys ++ [(cA, .array ty)]) s := ⟨hK.1, fun k9 x hx => by
    by_cases hl : k9 < tys.length
    · rw [List.getElem?_append_left hl] at hx
      exact hK.2 k9 x hx
    · rw [List.getElem?_append_right (by omega)] at hx
      have h0 : k9 - tys.length < 1 := (List.getElem?_eq_some_iff.mp hx).1
      rw [show k9 - tys.length = 0 by omega] at hx
      cases hx
      exact ⟨hAr, fA⟩⟩
  obtain ⟨t, a1, b1⟩ := kk H.size (fun i => H.size + 1 + i) cA F.heap (fun i j _ _ h => by have h9 : H.size + 1 + i = H.size + 1 + j := h; omega) hnl hK2 (by rw [← vr_rows hnm]; exact vr_lay hP2) (by rw [← vr_rows hnm]; exact vr_layD hD2) ⟨by rw [f1]; have := hS.1; omega, fun x h1 h2 => (hold x (Nat.lt_of_lt_of_le h1 hS.1)).trans (hS.2.1 x h1 h2), hS.2.2⟩ F rfl X'
  refine ⟨t, step t ?_, b1⟩
  have e : T.heap.size = H.size := by rw [hT]
  rw [e]
  exact a1
end VGM
/-! ===== END ===== -/

/-! ===== BEGIN exceptions that leave a method, and their catching by the caller (launches without stack traces) ===== -/
section VXA
/-! The laws vx_back, vx_callV, vx_callS, vx_callSW, vx_throw0, vx_throwS follow proofs of the library, with one case more: JvmDerived/Free/Laws.lean (Back.of_free), Shelf42/LK1.lean (callV, callS), Shelf/KitTraced.lean (throwNew0V, throwNewS). -/
/-- where a method has thrown q: the class by its name, the cell, what was written, the world -/
def vx_T (XC : String → State → State → Prop) (st : State) (q : Addr) (t : State) (mc ms : Nat) (free : Addr → Prop) : Prop :=
  ∃ (E : String) (ce : Cell) (L : List Loc), XC E st t ∧ t.heap[q]? = some ce ∧ ce.vm = .none ∧ st.vm.findClass E = some ce.cls ∧ st.WarmedH t.vm ∧ st.sameButNew ({ t with vm := st.vm } : State) L mc ms ∧ ∀ z ∈ L, free z.base
def vx_Q (Qc : Array Value → State → Outcome → State → Prop) (XC : String → State → State → Prop) (mc ms : Nat) (free : Addr → Prop) : Array Value → State → Outcome → State → Prop := fun a st o t =>
  (Qc a st o t ∧ ∃ L, FrameEnd st o t L mc ms ∧ ∀ q ∈ L, free q.base) ∨ ∃ q, o = .threw q ∧ vx_T XC st q t mc ms free
/-- a callee that returns or throws -/
def vx_Met (l : Launch) (y : MethodName) (ws : List Cond) (rm : Room) (Pc : Array Value → State → Prop) (Qc : Array Value → State → Outcome → State → Prop) (XC : String → State → State → Prop) (mc ms : Nat) (free : Addr → Prop) : Prop :=
  MetFree l y (headSpec ws rm) Pc (fun _ _ _ _ _ => True) (vx_Q Qc XC mc ms free)
def vx_Post (XC : String → State → State → Prop) (mc ms : Nat) (free : Addr → Prop) : Pt → Array Value → Addr → Pt → Prop := fun A a q B =>
  ∃ (g : JFrame) (mk : MethodId) (t : State) (L : List Loc) (E : String) (ce : Cell), B.U.heap = t.heap ∧ B.U.vm = t.vm ∧ XC E (A.U.calling g mk a) t ∧ t.heap[q]? = some ce ∧ ce.vm = .none ∧ A.U.vm.findClass E = some ce.cls ∧ B.locs = A.locs ++ L ∧ (∀ z ∈ L, free z.base) ∧ B.cells = A.cells + mc ∧ B.slots = A.slots + ms
def vx_Back (l : Launch) (R : Room) (p : Program) (e : Env) (below : List Frame) (s : State) (sargs : Array Value) (y : MethodName) (len W9 : Nat)
    (Pre : Pt → Array Value → Prop) (Post : Pt → Array Value → Option Value → Pt → Prop) (PostX : Pt → Array Value → Addr → Pt → Prop) : Prop :=
  ∀ (m : MethodId) (meth : Method) (c : Code) (A : Pt) (g : JFrame) (ig : Instr) (mk : MethodId) (a : Array Value),
    Stand p l e R s m sargs below meth c A.U A.locs A.cells A.slots → g.method = m → g.locals.size = c.maxLocals → decode c.code g.pc = .ok (ig, len) →
    2 * g.monitorRoom + (g.stack.map fun v => v.category).sum ≤ W9 → A.U.methodNamed? y = some mk → Pre A a →
    (∃ (v : Option Value) (B : Pt), Stand p l e R s m sargs below meth c B.U B.locs B.cells B.slots ∧ Post A a v B ∧
      Steps p.tables e below (doInvoke e (A.U.setTop g) [] mk a).1 (B.U.setTop { g with pc := g.pc + len, stack := v.toList ++ g.stack })) ∨
    (∃ (q : Addr) (B : Pt), Stand p l e R s m sargs below meth c B.U B.locs B.cells B.slots ∧ PostX A a q B ∧
      Steps p.tables e below (doInvoke e (A.U.setTop g) [] mk a).1 ((B.U.setTop g).pushFrame (.throwing q)))
section Payer
variable {l : Launch} {R : Room} {p : Program} {e : Env} {below : List Frame} {s : State} {sargs : Array Value} {y : MethodName} {len W9 : Nat}
theorem vx_back {ws : List Cond} {rm : Room} {Pc : Array Value → State → Prop} {Qc : Array Value → State → Outcome → State → Prop} {XC : String → State → State → Prop} {mc ms : Nat} {free : Addr → Prop} {bytes : ByteArray} {maxL : Nat} {ret : Option FieldType}
    (hM : vx_Met l y ws rm Pc Qc XC mc ms free) (hblind : FrameBlind Pc) (hrc : rm.cells = mc) (hrs : rm.slots = ms)
    (hframes : rm.frames + 1 ≤ R.frames) (hlocals : W9 + (maxL + 11) + rm.locals ≤ R.locals)
    (hws : ∀ w ∈ ws, ∀ a' U, s.WarmedH U.vm → w.before a' U = true) (hcode : Cond.code y bytes maxL ret ∈ ws) (hinit : ∀ a' U, s.WarmedH U.vm → (Cond.initialized y.cls).before a' U = true) :
    vx_Back l R p e below s sargs y len W9 (PreOf R mc ms Pc) (PostOf Qc mc ms free) (vx_Post XC mc ms free) := by
  intro m meth c A g ig mk a X hg hsize hdg hW hn hp
  have h1 : (headSpec ws rm).pre.before a A.U = true := atoms_intro fun w hw => hws w hw _ _ X.warmed
  have h2 : (Cond.code y bytes maxL ret).before a A.U = true := hws _ hcode _ _ X.warmed
  have h3 : (Cond.initialized y.cls).before a A.U = true := hinit _ _ X.warmed
  have h4 : A.cells + (headSpec ws rm).room.cells ≤ R.cells := by rw [show (headSpec ws rm).room.cells = mc from hrc]; exact hp.1
  have h5 : A.slots + (headSpec ws rm).room.slots ≤ R.slots := by rw [show (headSpec ws rm).room.slots = ms from hrs]; exact hp.2.1
  have hPc : Pc a (A.U.calling g mk a) := hblind _ _ _ _ hp.2.2
  obtain ⟨U, Ls, c0, s0⟩ := A
  dsimp only [Pt.U, Pt.locs, Pt.cells, Pt.slots] at h1 h2 h3 h4 h5 X hn hPc ⊢
  obtain ⟨methY, cY, hmY, hcY, -, hlY, -, -, -, -⟩ := Cond.code_spec hn h2
  obtain ⟨kY, hkY, -⟩ := className_of_methodNamed hn
  have hinitY : kY.init = .initialized := Cond.initialized_spec (findClass_of_methodNamed hn) hkY h3
  have h : At U g.method c below := by rw [hg]; exact X.here
  have hlocals9 : W9 + (maxL + 11) + (headSpec ws rm).room.locals ≤ R.locals := hlocals
  have happ : (headSpec ws rm).appliesLoose y e.platform (U.calling g mk a) = true :=
    Spec.appliesLoose_calling (g := g) h hdg hn hkY hinitY
      (X.room_calling (g := g) (R' := (headSpec ws rm).room) hsize hmY hcY hframes (by rw [hlY]; omega) h4 h5) h1
  obtain ⟨mid, hmid⟩ := h.above
  have hfr : (U.setTop g).frames = (.java g :: mid) ++ below := by rw [State.frames_setTop' g h.top, hmid]; rfl
  obtain ⟨o, s₂, hsteps, -, hend, hq⟩ := Steps.callFree hM p X.admits X.cas X.clock (acts := []) hfr happ hPc trivial
  have hq' : vx_Q Qc XC mc ms free a (U.calling g mk a) o s₂ := hq
  rw [State.frames_setTop' g h.top] at hend
  obtain ⟨g₀, hg0⟩ := Option.isSome_iff_exists.mp h.top
  obtain ⟨r, hr⟩ := State.topJava?_eq_some.mp hg0
  have hr' : (({ U with heap := s₂.heap, slotsUsed := s₂.slotsUsed } : State).setVm s₂.vm).frames = .java g₀ :: r := hr
  rcases hq' with ⟨hqc, L, hfe, hL⟩ | ⟨q, rfl, E, ce, L, hx, hce, hcv, hcl, hW₂, hsm, hL⟩
  · obtain ⟨⟨v, rfl⟩, hW₂, e2, q2, q3, q4, q5, q6⟩ := id hfe
    have e3 : s₂ = ({ (U.calling g mk a).setFrames s₂.frames with heap := s₂.heap, slotsUsed := s₂.slotsUsed } : State).setVm s₂.vm := by
      have : s₂ = ({ s₂ with vm := (U.calling g mk a).vm } : State).setVm s₂.vm := rfl
      rw [e2] at this
      exact this
    obtain ⟨c₂, i₂, len₂, hc₂, hd₂, hf₂⟩ := hend
    have hW' : U.WarmedH s₂.vm := hW₂
    have hcc : c₂ = c := by
      have h1 : s₂.code? g.method = U.code? g.method := by
        rw [State.code?_eq, State.code?_eq, hW'.alike.method?]
      exact Option.some.inj (hc₂.symm.trans (h1.trans h.code))
    subst hcc
    have hlen : len₂ = len := by rw [hdg] at hd₂; cases hd₂; rfl
    subst hlen
    have hs₂ : s₂ = (({ U with heap := s₂.heap, slotsUsed := s₂.slotsUsed } : State).setVm s₂.vm).setTop { g with pc := g.pc + len₂, stack := v.toList ++ g.stack } := by
      refine e3.trans ?_
      rw [hf₂, State.calling_eq h.top, State.setFrames_setFrames, State.setTop_of_frames _ hr', hr]
      rfl
    have hsame : U.sameButNew ({ U with heap := s₂.heap, slotsUsed := s₂.slotsUsed } : State) L mc ms := by
      refine ⟨?_, q2, q3, q4, q5, q6⟩
      obtain ⟨t, ht, -⟩ := State.frames_cons hr
      show ({ U with heap := s₂.heap, slotsUsed := s₂.slotsUsed } : State) = { U.setFrames U.frames with heap := s₂.heap, slotsUsed := s₂.slotsUsed }
      rw [State.setFrames_self ht]
    subst hg
    refine Or.inl ⟨v, ⟨(({ U with heap := s₂.heap, slotsUsed := s₂.slotsUsed } : State).setVm s₂.vm), Ls ++ L, c0 + mc, s0 + ms⟩,
      ⟨X.admits, X.cas, X.clock, X.frames, X.room, X.hears, X.method, X.code, (X.here.setHeapUsed s₂.heap s₂.slotsUsed).setVm hW'.alike, X.tail, State.WarmedH.trans X.warmed hW', X.limits, X.bytes, X.same.trans (hsame.setVm s.vm)⟩,
      ⟨g, mk, s₂, L, rfl, rfl, hqc, rfl, hL, rfl, rfl⟩, ?_⟩
    show Steps p.tables e below _ ((({ U with heap := s₂.heap, slotsUsed := s₂.slotsUsed } : State).setVm s₂.vm).setTop { g with pc := g.pc + len₂, stack := v.toList ++ g.stack })
    rw [← hs₂]
    exact hsteps
  · obtain ⟨e2, q2, q3, q4, q5, q6⟩ := id hsm
    have e3 : s₂ = ({ (U.calling g mk a).setFrames s₂.frames with heap := s₂.heap, slotsUsed := s₂.slotsUsed } : State).setVm s₂.vm := by
      have : s₂ = ({ s₂ with vm := (U.calling g mk a).vm } : State).setVm s₂.vm := rfl
      rw [e2] at this
      exact this
    have hf₂ : s₂.frames = .throwing q :: .java g :: U.frames.tail := hend
    have hW' : U.WarmedH s₂.vm := hW₂
    have hs₂ : s₂ = ((({ U with heap := s₂.heap, slotsUsed := s₂.slotsUsed } : State).setVm s₂.vm).setTop g).pushFrame (.throwing q) := by
      refine e3.trans ?_
      rw [hf₂, State.calling_eq h.top, State.setFrames_setFrames, State.pushFrame, State.frames_setTop _ hr', State.setTop_of_frames _ hr', State.setFrames_setFrames, hr]
      rfl
    have hsame : U.sameButNew ({ U with heap := s₂.heap, slotsUsed := s₂.slotsUsed } : State) L mc ms := by
      refine ⟨?_, q2, q3, q4, q5, q6⟩
      obtain ⟨t, ht, -⟩ := State.frames_cons hr
      show ({ U with heap := s₂.heap, slotsUsed := s₂.slotsUsed } : State) = { U.setFrames U.frames with heap := s₂.heap, slotsUsed := s₂.slotsUsed }
      rw [State.setFrames_self ht]
    subst hg
    refine Or.inr ⟨q, ⟨(({ U with heap := s₂.heap, slotsUsed := s₂.slotsUsed } : State).setVm s₂.vm), Ls ++ L, c0 + mc, s0 + ms⟩,
      ⟨X.admits, X.cas, X.clock, X.frames, X.room, X.hears, X.method, X.code, (X.here.setHeapUsed s₂.heap s₂.slotsUsed).setVm hW'.alike, X.tail, State.WarmedH.trans X.warmed hW', X.limits, X.bytes, X.same.trans (hsame.setVm s.vm)⟩,
      ⟨g, mk, s₂, L, E, ce, rfl, rfl, hx, hce, hcv, hcl, rfl, hL, rfl, rfl⟩, ?_⟩
    show Steps p.tables e below _ (((({ U with heap := s₂.heap, slotsUsed := s₂.slotsUsed } : State).setVm s₂.vm).setTop g).pushFrame (.throwing q))
    rw [← hs₂]
    exact hsteps
end Payer
section Calls
variable {p : Program} {l : Launch} {e : Env} {R : Room} {s : State} {m : MethodId} {args : Array Value} {below : List Frame} {meth : Method} {c : Code} {T : State} {locs : List Loc} {cells slots : Nat}
theorem vx_callV (X : Stand p l e R s m args below meth c T locs cells slots) (hexec : p.tables.exec = Jvm.exec) {own C : String} {index : Nat} {y : MethodName} {bytes : ByteArray} {maxL : Nat} {ret : Option FieldType}
    (hown : s.vm.findClass own = some m.cls) (hlink : (Cond.methodLink own index y).before args s = true) (hinst : (Cond.instanceMethod y).before args s = true) (hsel : (Cond.selects C y y).before args s = true)
    (hcode : (Cond.code y bytes maxL ret).before args s = true) (hy : y.cls ≠ "java/lang/invoke/MethodHandle" ∧ y.cls ≠ "java/lang/invoke/VarHandle")
    {W9 : Nat} {Pre : Pt → Array Value → Prop} {Post : Pt → Array Value → Option Value → Pt → Prop} {PostX : Pt → Array Value → Addr → Pt → Prop} (hK : vx_Back l R p e below s args y 3 W9 Pre Post PostX)
    {b : Addr} {cellB : Cell} (hcell : T.heap[b]? = some cellB) (hobj : cellB.vm.isStatics = false) (hcls : s.vm.findClass C = some cellB.cls)
    {g : JFrame} (hg : g.method = m) (hsize : g.locals.size = c.maxLocals) {argsL rest : List Value} (hlen : ∀ sig, parseMethodDescriptor y.desc = some sig → argsL.length = sig.parameters.length)
    (hstack : g.stack = argsL.reverse ++ .ref b :: rest) (hW : 2 * g.monitorRoom + (rest.map fun v => v.category).sum ≤ W9) (hdg : decode c.code g.pc = .ok (.invokevirtual index, 3))
    (hpre : ∀ vm₁, s.WarmedH vm₁ → Pre ⟨T.setVm vm₁, locs, cells, slots⟩ (Value.ref b :: argsL).toArray) :
    (∃ (v : Option Value) (vm₁ : Vm) (B : Pt), s.WarmedH vm₁ ∧ Stand p l e R s m args below meth c B.U B.locs B.cells B.slots ∧ Post ⟨T.setVm vm₁, locs, cells, slots⟩ (Value.ref b :: argsL).toArray v B ∧
      ∀ target, Steps p.tables e below (B.U.setTop { g with pc := g.pc + 3, stack := v.toList ++ rest }) target → Steps p.tables e below (T.setTop g) target) ∨
    (∃ (q : Addr) (vm₁ : Vm) (B : Pt), s.WarmedH vm₁ ∧ Stand p l e R s m args below meth c B.U B.locs B.cells B.slots ∧ PostX ⟨T.setVm vm₁, locs, cells, slots⟩ (Value.ref b :: argsL).toArray q B ∧
      Steps p.tables e below (T.setTop g) ((B.U.setTop { g with stack := rest }).pushFrame (.throwing q))) := by
  obtain ⟨mk, methM, hnamed, hmethM, hstM, habM⟩ := Cond.instanceMethod_spec hinst
  obtain ⟨methM', cM, hmethM', -, -, -, -, -, -, hsigM⟩ := Cond.code_spec hnamed hcode
  cases hmethM.symm.trans hmethM'
  obtain ⟨c2, r2, m2, q1, q2, q3, q4, kP, hkP, hkPi⟩ := Cond.selects_spec hsel
  cases hcls.symm.trans q1
  cases (State.methodFound?_of_named hnamed hy).symm.trans q2
  cases hnamed.symm.trans q3
  have hselP : selectMethod e.platform s.vm cellB.cls mk = .method mk := by rw [Launch.admits_selectMethod X.admits]; exact q4
  obtain ⟨vm₁, X₁, hstep₁⟩ := X.invokevirtual hexec hown hlink hnamed hmethM hstM hkP hkPi hy (a := b) (cell := cellB) hcell
    (fun z h => by rw [h] at hobj; cases hobj) hselP hmethM habM hkP hkPi (g := g) hg (argsL := argsL) (rest := rest) (hlen _ hsigM) hstack hdg
  rcases hK m meth c ⟨T.setVm vm₁, locs, cells, slots⟩ { g with stack := rest } (.invokevirtual index) mk (Value.ref b :: argsL).toArray X₁ hg hsize hdg hW (X₁.named hnamed) (hpre vm₁ X₁.warmed) with ⟨v, B, X', hpost, hsteps⟩ | ⟨q, B, X', hpost, hsteps⟩
  · exact Or.inl ⟨v, vm₁, B, X₁.warmed, X', hpost, fun target h => hstep₁ _ fun acts => by rw [doInvoke_state]; exact hsteps.trans h⟩
  · exact Or.inr ⟨q, vm₁, B, X₁.warmed, X', hpost, hstep₁ _ fun acts => by rw [doInvoke_state]; exact hsteps⟩
theorem vx_callS (X : Stand p l e R s m args below meth c T locs cells slots) (hexec : p.tables.exec = Jvm.exec) {own : String} {index : Nat} {y : MethodName} {bytes : ByteArray} {maxL : Nat} {ret : Option FieldType}
    (hown : s.vm.findClass own = some m.cls) (hlink : (Cond.methodLink own index y).before args s = true) (hstat : (Cond.static y).before args s = true) (hinit : (Cond.initialized y.cls).before args s = true)
    (hcode : (Cond.code y bytes maxL ret).before args s = true) (hy : y.cls ≠ "java/lang/invoke/MethodHandle" ∧ y.cls ≠ "java/lang/invoke/VarHandle")
    {W9 : Nat} {Pre : Pt → Array Value → Prop} {Post : Pt → Array Value → Option Value → Pt → Prop} {PostX : Pt → Array Value → Addr → Pt → Prop} (hK : vx_Back l R p e below s args y 3 W9 Pre Post PostX)
    {g : JFrame} (hg : g.method = m) (hsize : g.locals.size = c.maxLocals) {argsL rest : List Value} (hlen : ∀ sig, parseMethodDescriptor y.desc = some sig → argsL.length = sig.parameters.length)
    (hstack : g.stack = argsL.reverse ++ rest) (hW : 2 * g.monitorRoom + (rest.map fun v => v.category).sum ≤ W9) (hdg : decode c.code g.pc = .ok (.invokestatic index, 3))
    (hpre : ∀ vm₁, s.WarmedH vm₁ → Pre ⟨T.setVm vm₁, locs, cells, slots⟩ argsL.toArray) :
    (∃ (v : Option Value) (vm₁ : Vm) (B : Pt), s.WarmedH vm₁ ∧ Stand p l e R s m args below meth c B.U B.locs B.cells B.slots ∧ Post ⟨T.setVm vm₁, locs, cells, slots⟩ argsL.toArray v B ∧
      ∀ target, Steps p.tables e below (B.U.setTop { g with pc := g.pc + 3, stack := v.toList ++ rest }) target → Steps p.tables e below (T.setTop g) target) ∨
    (∃ (q : Addr) (vm₁ : Vm) (B : Pt), s.WarmedH vm₁ ∧ Stand p l e R s m args below meth c B.U B.locs B.cells B.slots ∧ PostX ⟨T.setVm vm₁, locs, cells, slots⟩ argsL.toArray q B ∧
      Steps p.tables e below (T.setTop g) ((B.U.setTop { g with stack := rest }).pushFrame (.throwing q))) := by
  obtain ⟨mk, hnamed⟩ := Cond.code_named hcode
  obtain ⟨methM, cM, hmethM, -, -, -, -, -, -, hsigM⟩ := Cond.code_spec hnamed hcode
  have hstatic : methM.isStatic = true := Cond.static_spec hnamed hmethM hstat
  obtain ⟨kP, hkP, -⟩ := className_of_methodNamed hnamed
  have hinitP : kP.init = .initialized := Cond.initialized_spec (findClass_of_methodNamed hnamed) hkP hinit
  obtain ⟨vm₁, X₁, hstep₁⟩ := X.invokestatic hexec hown hlink hnamed hmethM hstatic hkP hinitP hy (g := g) hg (argsL := argsL) (rest := rest) (hlen _ hsigM) hstack hdg
  rcases hK m meth c ⟨T.setVm vm₁, locs, cells, slots⟩ { g with stack := rest } (.invokestatic index) mk argsL.toArray X₁ hg hsize hdg hW (X₁.named hnamed) (hpre vm₁ X₁.warmed) with ⟨v, B, X', hpost, hsteps⟩ | ⟨q, B, X', hpost, hsteps⟩
  · exact Or.inl ⟨v, vm₁, B, X₁.warmed, X', hpost, fun target h => hstep₁ _ fun acts => by rw [doInvoke_state]; exact hsteps.trans h⟩
  · exact Or.inr ⟨q, vm₁, B, X₁.warmed, X', hpost, hstep₁ _ fun acts => by rw [doInvoke_state]; exact hsteps⟩
end Calls
theorem vx_cls {s : State} {T : State} {vm₁ : Vm} {E : String} {k : ClassId} (hW : s.WarmedH vm₁) (h : (T.setVm vm₁).vm.findClass E = some k) : s.vm.findClass E = some k := by
  have h1 : vm₁.findClass E = some k := h
  rw [hW.alike.findClass] at h1
  exact h1
/-- the method's frame g, with q thrown over it -/
def vx_W (p : Program) (l : Launch) (e : Env) (R : Room) (s : State) (m : MethodId) (args : Array Value) (below : List Frame) (meth : Method) (c : Code) (H : Heap) (locs : List Loc) (cells slots : Nat) (Q : State → Prop) (g : JFrame) (q : Addr) : Prop :=
  ∀ T : State, T.heap = H → Stand p l e R s m args below meth c T locs cells slots → ∃ t, Steps p.tables e below ((T.setTop g).pushFrame (.throwing q)) t ∧ Q t
def vx_Run (p : Program) (l : Launch) (e : Env) (R : Room) (s : State) (m : MethodId) (args : Array Value) (below : List Frame) (meth : Method) (c : Code) (H : Heap) (locs : List Loc) (cells slots mc ms : Nat) (g : JFrame) (rest : List Value) (Qa : State → Outcome → State → Prop) (XC : String → State → State → Prop) (free : Addr → Prop) : Prop :=
  ∀ T : State, T.heap = H → Stand p l e R s m args below meth c T locs cells slots →
    (∃ (v : Option Value) (st₀ t T' : State) (L : List Loc), st₀.heap = H ∧ Stand p l e R s m args below meth c T' (locs ++ L) (cells + mc) (slots + ms) ∧ (∀ q ∈ L, free q.base) ∧ T'.heap = t.heap ∧ T'.vm = t.vm ∧ Qa st₀ (.returned v) t ∧
      Goes p e below T g T' { g with pc := g.pc + 3, stack := v.toList ++ rest }) ∨
    (∃ (q : Addr) (st₀ t T' : State) (L : List Loc) (E : String) (ce : Cell), st₀.heap = H ∧ Stand p l e R s m args below meth c T' (locs ++ L) (cells + mc) (slots + ms) ∧ (∀ z ∈ L, free z.base) ∧ T'.heap = t.heap ∧ T'.vm = t.vm ∧ XC E st₀ t ∧ t.heap[q]? = some ce ∧ ce.vm = .none ∧ s.vm.findClass E = some ce.cls ∧
      Steps p.tables e below (T.setTop g) ((T'.setTop { g with stack := rest }).pushFrame (.throwing q)))
def vx_X {S : Type} (px : S → Prop) (B : String → S → State → Prop) (A : Nat → Prop) : String → State → State → Prop := fun E st t => ∃ u : S, px u ∧ B E u t ∧ va_F A st t
section Runs
variable {p : Program} {l : Launch} {e : Env} {R : Room} {s : State} {m : MethodId} {args : Array Value} {below : List Frame} {meth : Method} {c : Code} {H : Heap} {locs : List Loc} {cells slots : Nat}
variable {y : MethodName} {bytes cc : ByteArray} {maxL nL mc ms n index : Nat} {ret : Option FieldType} {ws : List Cond} {rm : Room} {Pc : Array Value → State → Prop} {Qc : Array Value → State → Outcome → State → Prop} {XC : String → State → State → Prop} {free : Addr → Prop} {Ts : List Cond} {own C : String} {b : Addr} {As rest : List Value} {g : JFrame}
theorem vx_callBack (cb : CallB R s args own index y bytes maxL ret ws rm mc ms n) (hM : vx_Met l y ws rm Pc Qc XC mc ms free) (hbl : FrameBlind Pc) : vx_Back l R p e below s args y 3 8 (PreOf R mc ms Pc) (PostOf Qc mc ms free) (vx_Post XC mc ms free) := by
  obtain ⟨hrc, hrs, hfr, hlo, hws, hcw, -, hini, -⟩ := cb
  exact vx_back (bytes := bytes) (maxL := maxL) (ret := ret) hM hbl hrc hrs hfr hlo hws hcw (fun a' U hW => word_at hW (Or.inl (by first | rfl | simp [Cond.onTables, Cond.keeps, Cond.steady])) hini)
theorem vx_runV (S : CallFix p m c cc nL s args Ts own) (hM : vx_Met l y ws rm Pc Qc XC mc ms free) (cw : CallW R s args own C index y bytes maxL ret ws rm mc ms n) (hp : PreV s H C b Pc As)
    (hg : g.method = m) (hn : As.length = n) (hsize : g.locals.size = nL) (hstack : g.stack = As.reverse ++ .ref b :: rest) (hW : 2 * g.monitorRoom + (rest.map fun v => v.category).sum ≤ 8) (hdg : decode cc g.pc = .ok (.invokevirtual index, 3)) (hf : cells + mc ≤ R.cells ∧ slots + ms ≤ R.slots) :
    vx_Run p l e R s m args below meth c H locs cells slots mc ms g rest (Qc (Value.ref b :: As).toArray) XC free := by
  have hK : vx_Back l R p e below s args y 3 8 (PreOf R mc ms Pc) (PostOf Qc mc ms free) (vx_Post XC mc ms free) := vx_callBack cw.1 hM hp.1
  obtain ⟨⟨-, -, -, -, -, -, hcode, -, hy, hlen, hl⟩, hin, hse⟩ := cw
  obtain ⟨hx, hb, hml, ho, -⟩ := S
  obtain ⟨-, ⟨cellB, hcB, hoB, hclB⟩, hPc⟩ := hp
  intro T hT X
  rcases vx_callV X hx (C := C) (bytes := bytes) (maxL := maxL) (ret := ret) ho hl hin hse hcode hy hK (by rw [hT]; exact hcB) hoB hclB hg (hsize.trans hml.symm) (argsL := As) (rest := rest) (fun sig h => hn.trans (hlen sig h)) hstack hW (by rw [hb]; exact hdg)
    (fun vm₁ hW₁ => ⟨hf.1, hf.2, hPc (T.setVm vm₁) hT hW₁⟩) with ⟨v, vm₁, ⟨U', l2, c2, s2⟩, hW₁, X', ⟨g', mk, t, L, e1, e2, hq, h1, hL, h2, h3⟩, st⟩ | ⟨q, vm₁, ⟨U', l2, c2, s2⟩, hW₁, X', ⟨g', mk, t, L, E, ce, e1, e2, hq, hce, hcv, hcl, h1, hL, h2, h3⟩, st⟩
  · dsimp only [Pt.U, Pt.locs, Pt.cells, Pt.slots] at X' e1 e2 h1 h2 h3 st
    subst h1; subst h2; subst h3
    exact Or.inl ⟨v, (T.setVm vm₁).calling g' mk (Value.ref b :: As).toArray, t, U', L, hT, X', hL, e1, e2, hq, st⟩
  · dsimp only [Pt.U, Pt.locs, Pt.cells, Pt.slots] at X' e1 e2 h1 h2 h3 st hcl
    subst h1; subst h2; subst h3
    exact Or.inr ⟨q, (T.setVm vm₁).calling g' mk (Value.ref b :: As).toArray, t, U', L, E, ce, hT, X', hL, e1, e2, hq, hce, hcv, vx_cls hW₁ hcl, st⟩
theorem vx_runS (S : CallFix p m c cc nL s args Ts own) (hM : vx_Met l y ws rm Pc Qc XC mc ms free) (cw : CallB R s args own index y bytes maxL ret ws rm mc ms n ∧ (Cond.static y).before args s = true) (hp : PreS s H Pc As)
    (hg : g.method = m) (hn : As.length = n) (hsize : g.locals.size = nL) (hstack : g.stack = As.reverse ++ rest) (hW : 2 * g.monitorRoom + (rest.map fun v => v.category).sum ≤ 8) (hdg : decode cc g.pc = .ok (.invokestatic index, 3)) (hf : cells + mc ≤ R.cells ∧ slots + ms ≤ R.slots) :
    vx_Run p l e R s m args below meth c H locs cells slots mc ms g rest (Qc As.toArray) XC free := by
  have hK : vx_Back l R p e below s args y 3 8 (PreOf R mc ms Pc) (PostOf Qc mc ms free) (vx_Post XC mc ms free) := vx_callBack cw.1 hM hp.1
  obtain ⟨⟨-, -, -, -, -, -, hcode, hini, hy, hlen, hl⟩, hstt⟩ := cw
  obtain ⟨hx, hb, hml, ho, -⟩ := S
  intro T hT X
  rcases vx_callS X hx (bytes := bytes) (maxL := maxL) (ret := ret) ho hl hstt hini hcode hy hK hg (hsize.trans hml.symm) (argsL := As) (rest := rest) (fun sig h => hn.trans (hlen sig h)) hstack hW (by rw [hb]; exact hdg)
    (fun vm₁ hW₁ => ⟨hf.1, hf.2, hp.2 (T.setVm vm₁) hT hW₁⟩) with ⟨v, vm₁, ⟨U', l2, c2, s2⟩, hW₁, X', ⟨g', mk, t, L, e1, e2, hq, h1, hL, h2, h3⟩, st⟩ | ⟨q, vm₁, ⟨U', l2, c2, s2⟩, hW₁, X', ⟨g', mk, t, L, E, ce, e1, e2, hq, hce, hcv, hcl, h1, hL, h2, h3⟩, st⟩
  · dsimp only [Pt.U, Pt.locs, Pt.cells, Pt.slots] at X' e1 e2 h1 h2 h3 st
    subst h1; subst h2; subst h3
    exact Or.inl ⟨v, (T.setVm vm₁).calling g' mk As.toArray, t, U', L, hT, X', hL, e1, e2, hq, st⟩
  · dsimp only [Pt.U, Pt.locs, Pt.cells, Pt.slots] at X' e1 e2 h1 h2 h3 st hcl
    subst h1; subst h2; subst h3
    exact Or.inr ⟨q, (T.setVm vm₁).calling g' mk As.toArray, t, U', L, E, ce, hT, X', hL, e1, e2, hq, hce, hcv, vx_cls hW₁ hcl, st⟩
end Runs
section Rows
variable {p : Program} {l : Launch} {e : Env} {R : Room} {s : State} {m : MethodId} {args : Array Value} {below : List Frame} {meth : Method} {c : Code} {H : Heap} {locs : List Loc} {cells slots : Nat} {Q : State → Prop}
variable {mc ms : Nat} {free : Addr → Prop} {A0 A1 : Nat → Prop} {H0 : Heap} {a : Array Value} {pc : Nat} {ls : Array Slot} {st0 rest : List Value}
theorem vx_keep {st₀ t T' : State} {L : List Loc} (h0 : st₀.heap = H) (e1 : T'.heap = t.heap) (hS : va_S A0 H0 H locs) (hA : ∀ q, q < H.size → A1 q → A0 q) (hf : ∀ q, free q → A0 q) (hL : ∀ q ∈ L, free q.base) (hF : va_F A1 st₀ t) :
    H.size ≤ T'.heap.size ∧ (∀ q : Nat, q < H.size → ¬ A1 q → T'.heap[q]? = H[q]?) ∧ va_S A0 H0 T'.heap (locs ++ L) := by
  obtain ⟨hz, hk⟩ := hF
  rw [h0] at hz hk
  exact ⟨by rw [e1]; exact hz, fun q h1 h2 => by rw [e1]; exact hk q h1 h2,
    ⟨Nat.le_trans hS.1 (by rw [e1]; exact hz), fun q h1 h2 => by rw [e1, hk q (Nat.lt_of_lt_of_le h1 hS.1) (fun z => h2 (hA q (Nat.lt_of_lt_of_le h1 hS.1) z))]; exact hS.2.1 q h1 h2, fun q hq => by
      rcases List.mem_append.mp hq with h | h
      · exact hS.2.2 q h
      · exact hf _ (hL q h)⟩⟩
theorem vx_calli {S SX : Type} {post : Int32 → S → Prop} {px : SX → Prop} {B : S → State → Prop} {BX : String → SX → State → Prop} {AX : Nat → Prop} (hr : vx_Run p l e R s m args below meth c H locs cells slots mc ms (F0 m pc ls st0) rest (va_Qi post B A1 a) (vx_X px BX AX) free) (hS : va_S A0 H0 H locs) (hA : ∀ q, q < H.size → A1 q → A0 q) (hf : ∀ q, free q → A0 q) (hAX : ∀ q, q < H.size → AX q → A0 q)
    (kx : ∀ (E : String) (ce : Cell) (q9 : Addr) (u : SX) (t : State) (H1 : Heap) (locs1 : List Loc), t.heap = H1 → s.vm.Alike t.vm → px u → BX E u t → H.size ≤ H1.size → (∀ q : Nat, q < H.size → ¬ AX q → H1[q]? = H[q]?) → va_S A0 H0 H1 locs1 → H1[q9]? = some ce → ce.vm = .none → s.vm.findClass E = some ce.cls → vx_W p l e R s m args below meth c H1 locs1 (cells + mc) (slots + ms) Q (F0 m pc ls rest) q9)
    (kk : ∀ (r : Int32) (u : S) (t : State) (H1 : Heap) (locs1 : List Loc), t.heap = H1 → s.vm.Alike t.vm → post r u → B u t → H.size ≤ H1.size → (∀ q : Nat, q < H.size → ¬ A1 q → H1[q]? = H[q]?) → va_S A0 H0 H1 locs1 → W p l e R s m args below meth c H1 locs1 (cells + mc) (slots + ms) Q (F0 m (pc + 3) ls (.int r :: rest))) : W p l e R s m args below meth c H locs cells slots Q (F0 m pc ls st0) := by
  intro T hT X
  rcases hr T hT X with ⟨v, st₀, t, T', L, h0, X', hL, e1, e2, ⟨⟨r, u, hv, hp, hb⟩, hF⟩, st⟩ | ⟨q, st₀, t, T', L, E, ce, h0, X', hL, e1, e2, ⟨u, hp, hb, hF⟩, hce, hcv, hcl, st⟩
  · cases hv
    obtain ⟨k1, k2, k3⟩ := vx_keep h0 e1 hS hA hf hL hF
    obtain ⟨t2, a1, b1⟩ := kk r u t T'.heap (locs ++ L) e1.symm (by rw [← e2]; exact X'.warmed.alike) hp hb k1 k2 k3 T' rfl X'
    exact ⟨t2, st t2 a1, b1⟩
  · obtain ⟨k1, k2, k3⟩ := vx_keep h0 e1 hS hAX hf hL hF
    obtain ⟨t2, a1, b1⟩ := kx E ce q u t T'.heap (locs ++ L) e1.symm (by rw [← e2]; exact X'.warmed.alike) hp hb k1 k2 k3 (by rw [e1]; exact hce) hcv hcl T' rfl X'
    exact ⟨t2, st.trans a1, b1⟩
theorem vx_calll {S SX : Type} {post : Int64 → S → Prop} {px : SX → Prop} {B : S → State → Prop} {BX : String → SX → State → Prop} {AX : Nat → Prop} (hr : vx_Run p l e R s m args below meth c H locs cells slots mc ms (F0 m pc ls st0) rest (va_Ql post B A1 a) (vx_X px BX AX) free) (hS : va_S A0 H0 H locs) (hA : ∀ q, q < H.size → A1 q → A0 q) (hf : ∀ q, free q → A0 q) (hAX : ∀ q, q < H.size → AX q → A0 q)
    (kx : ∀ (E : String) (ce : Cell) (q9 : Addr) (u : SX) (t : State) (H1 : Heap) (locs1 : List Loc), t.heap = H1 → s.vm.Alike t.vm → px u → BX E u t → H.size ≤ H1.size → (∀ q : Nat, q < H.size → ¬ AX q → H1[q]? = H[q]?) → va_S A0 H0 H1 locs1 → H1[q9]? = some ce → ce.vm = .none → s.vm.findClass E = some ce.cls → vx_W p l e R s m args below meth c H1 locs1 (cells + mc) (slots + ms) Q (F0 m pc ls rest) q9)
    (kk : ∀ (r : Int64) (u : S) (t : State) (H1 : Heap) (locs1 : List Loc), t.heap = H1 → s.vm.Alike t.vm → post r u → B u t → H.size ≤ H1.size → (∀ q : Nat, q < H.size → ¬ A1 q → H1[q]? = H[q]?) → va_S A0 H0 H1 locs1 → W p l e R s m args below meth c H1 locs1 (cells + mc) (slots + ms) Q (F0 m (pc + 3) ls (.long r :: rest))) : W p l e R s m args below meth c H locs cells slots Q (F0 m pc ls st0) := by
  intro T hT X
  rcases hr T hT X with ⟨v, st₀, t, T', L, h0, X', hL, e1, e2, ⟨⟨r, u, hv, hp, hb⟩, hF⟩, st⟩ | ⟨q, st₀, t, T', L, E, ce, h0, X', hL, e1, e2, ⟨u, hp, hb, hF⟩, hce, hcv, hcl, st⟩
  · cases hv
    obtain ⟨k1, k2, k3⟩ := vx_keep h0 e1 hS hA hf hL hF
    obtain ⟨t2, a1, b1⟩ := kk r u t T'.heap (locs ++ L) e1.symm (by rw [← e2]; exact X'.warmed.alike) hp hb k1 k2 k3 T' rfl X'
    exact ⟨t2, st t2 a1, b1⟩
  · obtain ⟨k1, k2, k3⟩ := vx_keep h0 e1 hS hAX hf hL hF
    obtain ⟨t2, a1, b1⟩ := kx E ce q u t T'.heap (locs ++ L) e1.symm (by rw [← e2]; exact X'.warmed.alike) hp hb k1 k2 k3 (by rw [e1]; exact hce) hcv hcl T' rfl X'
    exact ⟨t2, st.trans a1, b1⟩
theorem vx_callf {S SX : Type} {post : UInt32 → S → Prop} {px : SX → Prop} {B : S → State → Prop} {BX : String → SX → State → Prop} {AX : Nat → Prop} (hr : vx_Run p l e R s m args below meth c H locs cells slots mc ms (F0 m pc ls st0) rest (va_Qf post B A1 a) (vx_X px BX AX) free) (hS : va_S A0 H0 H locs) (hA : ∀ q, q < H.size → A1 q → A0 q) (hf : ∀ q, free q → A0 q) (hAX : ∀ q, q < H.size → AX q → A0 q)
    (kx : ∀ (E : String) (ce : Cell) (q9 : Addr) (u : SX) (t : State) (H1 : Heap) (locs1 : List Loc), t.heap = H1 → s.vm.Alike t.vm → px u → BX E u t → H.size ≤ H1.size → (∀ q : Nat, q < H.size → ¬ AX q → H1[q]? = H[q]?) → va_S A0 H0 H1 locs1 → H1[q9]? = some ce → ce.vm = .none → s.vm.findClass E = some ce.cls → vx_W p l e R s m args below meth c H1 locs1 (cells + mc) (slots + ms) Q (F0 m pc ls rest) q9)
    (kk : ∀ (r : UInt32) (u : S) (t : State) (H1 : Heap) (locs1 : List Loc), t.heap = H1 → s.vm.Alike t.vm → post r u → B u t → H.size ≤ H1.size → (∀ q : Nat, q < H.size → ¬ A1 q → H1[q]? = H[q]?) → va_S A0 H0 H1 locs1 → W p l e R s m args below meth c H1 locs1 (cells + mc) (slots + ms) Q (F0 m (pc + 3) ls (.float r :: rest))) : W p l e R s m args below meth c H locs cells slots Q (F0 m pc ls st0) := by
  intro T hT X
  rcases hr T hT X with ⟨v, st₀, t, T', L, h0, X', hL, e1, e2, ⟨⟨r, u, hv, hp, hb⟩, hF⟩, st⟩ | ⟨q, st₀, t, T', L, E, ce, h0, X', hL, e1, e2, ⟨u, hp, hb, hF⟩, hce, hcv, hcl, st⟩
  · cases hv
    obtain ⟨k1, k2, k3⟩ := vx_keep h0 e1 hS hA hf hL hF
    obtain ⟨t2, a1, b1⟩ := kk r u t T'.heap (locs ++ L) e1.symm (by rw [← e2]; exact X'.warmed.alike) hp hb k1 k2 k3 T' rfl X'
    exact ⟨t2, st t2 a1, b1⟩
  · obtain ⟨k1, k2, k3⟩ := vx_keep h0 e1 hS hAX hf hL hF
    obtain ⟨t2, a1, b1⟩ := kx E ce q u t T'.heap (locs ++ L) e1.symm (by rw [← e2]; exact X'.warmed.alike) hp hb k1 k2 k3 (by rw [e1]; exact hce) hcv hcl T' rfl X'
    exact ⟨t2, st.trans a1, b1⟩
theorem vx_calld {S SX : Type} {post : UInt64 → S → Prop} {px : SX → Prop} {B : S → State → Prop} {BX : String → SX → State → Prop} {AX : Nat → Prop} (hr : vx_Run p l e R s m args below meth c H locs cells slots mc ms (F0 m pc ls st0) rest (va_Qd post B A1 a) (vx_X px BX AX) free) (hS : va_S A0 H0 H locs) (hA : ∀ q, q < H.size → A1 q → A0 q) (hf : ∀ q, free q → A0 q) (hAX : ∀ q, q < H.size → AX q → A0 q)
    (kx : ∀ (E : String) (ce : Cell) (q9 : Addr) (u : SX) (t : State) (H1 : Heap) (locs1 : List Loc), t.heap = H1 → s.vm.Alike t.vm → px u → BX E u t → H.size ≤ H1.size → (∀ q : Nat, q < H.size → ¬ AX q → H1[q]? = H[q]?) → va_S A0 H0 H1 locs1 → H1[q9]? = some ce → ce.vm = .none → s.vm.findClass E = some ce.cls → vx_W p l e R s m args below meth c H1 locs1 (cells + mc) (slots + ms) Q (F0 m pc ls rest) q9)
    (kk : ∀ (r : UInt64) (u : S) (t : State) (H1 : Heap) (locs1 : List Loc), t.heap = H1 → s.vm.Alike t.vm → post r u → B u t → H.size ≤ H1.size → (∀ q : Nat, q < H.size → ¬ A1 q → H1[q]? = H[q]?) → va_S A0 H0 H1 locs1 → W p l e R s m args below meth c H1 locs1 (cells + mc) (slots + ms) Q (F0 m (pc + 3) ls (.double r :: rest))) : W p l e R s m args below meth c H locs cells slots Q (F0 m pc ls st0) := by
  intro T hT X
  rcases hr T hT X with ⟨v, st₀, t, T', L, h0, X', hL, e1, e2, ⟨⟨r, u, hv, hp, hb⟩, hF⟩, st⟩ | ⟨q, st₀, t, T', L, E, ce, h0, X', hL, e1, e2, ⟨u, hp, hb, hF⟩, hce, hcv, hcl, st⟩
  · cases hv
    obtain ⟨k1, k2, k3⟩ := vx_keep h0 e1 hS hA hf hL hF
    obtain ⟨t2, a1, b1⟩ := kk r u t T'.heap (locs ++ L) e1.symm (by rw [← e2]; exact X'.warmed.alike) hp hb k1 k2 k3 T' rfl X'
    exact ⟨t2, st t2 a1, b1⟩
  · obtain ⟨k1, k2, k3⟩ := vx_keep h0 e1 hS hAX hf hL hF
    obtain ⟨t2, a1, b1⟩ := kx E ce q u t T'.heap (locs ++ L) e1.symm (by rw [← e2]; exact X'.warmed.alike) hp hb k1 k2 k3 (by rw [e1]; exact hce) hcv hcl T' rfl X'
    exact ⟨t2, st.trans a1, b1⟩
theorem vx_callv {S SX : Type} {post : S → Prop} {px : SX → Prop} {B : S → State → Prop} {BX : String → SX → State → Prop} {AX : Nat → Prop} (hr : vx_Run p l e R s m args below meth c H locs cells slots mc ms (F0 m pc ls st0) rest (va_Qv post B A1 a) (vx_X px BX AX) free) (hS : va_S A0 H0 H locs) (hA : ∀ q, q < H.size → A1 q → A0 q) (hf : ∀ q, free q → A0 q) (hAX : ∀ q, q < H.size → AX q → A0 q)
    (kx : ∀ (E : String) (ce : Cell) (q9 : Addr) (u : SX) (t : State) (H1 : Heap) (locs1 : List Loc), t.heap = H1 → s.vm.Alike t.vm → px u → BX E u t → H.size ≤ H1.size → (∀ q : Nat, q < H.size → ¬ AX q → H1[q]? = H[q]?) → va_S A0 H0 H1 locs1 → H1[q9]? = some ce → ce.vm = .none → s.vm.findClass E = some ce.cls → vx_W p l e R s m args below meth c H1 locs1 (cells + mc) (slots + ms) Q (F0 m pc ls rest) q9)
    (kk : ∀ (u : S) (t : State) (H1 : Heap) (locs1 : List Loc), t.heap = H1 → s.vm.Alike t.vm → post u → B u t → H.size ≤ H1.size → (∀ q : Nat, q < H.size → ¬ A1 q → H1[q]? = H[q]?) → va_S A0 H0 H1 locs1 → W p l e R s m args below meth c H1 locs1 (cells + mc) (slots + ms) Q (F0 m (pc + 3) ls (rest))) : W p l e R s m args below meth c H locs cells slots Q (F0 m pc ls st0) := by
  intro T hT X
  rcases hr T hT X with ⟨v, st₀, t, T', L, h0, X', hL, e1, e2, ⟨⟨u, hv, hp, hb⟩, hF⟩, st⟩ | ⟨q, st₀, t, T', L, E, ce, h0, X', hL, e1, e2, ⟨u, hp, hb, hF⟩, hce, hcv, hcl, st⟩
  · cases hv
    obtain ⟨k1, k2, k3⟩ := vx_keep h0 e1 hS hA hf hL hF
    obtain ⟨t2, a1, b1⟩ := kk u t T'.heap (locs ++ L) e1.symm (by rw [← e2]; exact X'.warmed.alike) hp hb k1 k2 k3 T' rfl X'
    exact ⟨t2, st t2 a1, b1⟩
  · obtain ⟨k1, k2, k3⟩ := vx_keep h0 e1 hS hAX hf hL hF
    obtain ⟨t2, a1, b1⟩ := kx E ce q u t T'.heap (locs ++ L) e1.symm (by rw [← e2]; exact X'.warmed.alike) hp hb k1 k2 k3 (by rw [e1]; exact hce) hcv hcl T' rfl X'
    exact ⟨t2, st.trans a1, b1⟩
/-- caught by the row x of this method's table; the rows ahead don't take it -/
theorem vx_catch {own name : String} {E : String} {ce : Cell} {q : Addr} (hown : s.vm.findClass own = some m.cls) (pre : List ExceptionTableEntry) (x : ExceptionTableEntry) (suf : List ExceptionTableEntry) (hsplit : c.exceptionTable.toList = pre ++ x :: suf)
    (hpass : ∀ z ∈ pre, covers z pc = false ∨ (z.catchType ≠ 0 ∧ ∃ nm : String, (Cond.classLink own z.catchType nm).before args s = true ∧ va_Nc E nm s)) (hx : covers x pc = true) (h0 : x.catchType ≠ 0)
    (hlink : (Cond.classLink own x.catchType name).before args s = true) (hcast : (Cond.castable E name).before args s = true) (hcell : H[q]? = some ce) (hv : ce.vm = .none) (hcl : s.vm.findClass E = some ce.cls)
    (kk : W p l e R s m args below meth c H locs cells slots Q (F0 m x.handlerPc ls [.ref q])) : vx_W p l e R s m args below meth c H locs cells slots Q (F0 m pc ls rest) q := by
  intro T hT X
  have hpl : e.platform.magicAccessors = ({} : Platform).magicAccessors := by rw [X.admits.platform]
  obtain ⟨c3, c4, hc3, hc4, hasg⟩ := Cond.castable_spec hcast
  cases Option.some.inj (hc3.symm.trans hcl)
  obtain ⟨c5, hc5, hcl5⟩ := Cond.classLink_spec hown hlink e.platform hpl
  cases Option.some.inj (hc4.symm.trans hc5)
  obtain ⟨vm', X', st⟩ := X.thenCaughtThrough q (g := F0 m pc ls rest) rfl (Steps.refl _) (by rw [hT]; exact hcell) (by rw [hv]; rfl) (by obtain ⟨k9, h9, -⟩ := Vm.findClass_spec hcl; exact ⟨k9, h9⟩) pre x suf hsplit
    (fun z hz => by
      rcases hpass z hz with h | ⟨hz0, nm, hl1, hn1⟩
      · exact Or.inl h
      · obtain ⟨c6, hc6, hcl6⟩ := Cond.classLink_spec hown hl1 e.platform hpl
        obtain ⟨a8, b8, h1, h2, h3⟩ := hn1
        cases Option.some.inj (h1.symm.trans hcl)
        cases Option.some.inj (h2.symm.trans hc6)
        exact Or.inr ⟨hz0, _, hcl6, h3⟩) hx (Or.inr ⟨h0, c4, hcl5, hasg⟩)
  obtain ⟨t, a1, b1⟩ := kk (T.setVm vm') hT X'
  exact ⟨t, st.trans a1, b1⟩
end Rows
section Ends
variable {p : Program} {l : Launch} {e : Env} {R : Room} {s : State} {m : MethodId} {args : Array Value} {below : List Frame} {meth : Method} {c : Code} {H : Heap} {locs : List Loc} {cells slots : Nat} {Q : State → Prop}
variable {mc ms : Nat} {free : Addr → Prop} {A0 A1 : Nat → Prop} {H0 : Heap} {a : Array Value} {ls : Array Slot} {st0 rest : List Value}
variable {Qc : Array Value → State → Outcome → State → Prop} {XC : String → State → State → Prop}
/-- what a body that may throw owes at its end -/
def vx_MQ (below : List Frame) (Qc : Array Value → State → Outcome → State → Prop) (XC : String → State → State → Prop) (a : Array Value) (s : State) (mc ms : Nat) (free : Addr → Prop) : State → Prop := fun t =>
  ∃ o, t.status = .running ∧ Ended t below o ∧ vx_Q Qc XC mc ms free a s o t
theorem vx_ret {g : JFrame} {mc ms : Nat} (k : W p l e R s m args below meth c H locs cells slots (MQ below Qc args s mc ms free) g) : W p l e R s m args below meth c H locs cells slots (vx_MQ below Qc XC args s mc ms free) g := by
  intro T hT X
  obtain ⟨t, a1, o, b1, b2, b3, b4⟩ := k T hT X
  exact ⟨t, a1, o, b1, b2, Or.inl ⟨b3, b4⟩⟩
/-- not caught here: it goes on to the caller -/
theorem vx_widen {g : JFrame} {q : Addr} {k n : Nat} (h1 : cells ≤ k) (h2 : slots ≤ n) (kk : vx_W p l e R s m args below meth c H locs k n Q g q) : vx_W p l e R s m args below meth c H locs cells slots Q g q := fun T hT X => kk T hT (stand_widen X h1 h2)
theorem vx_out {pc : Nat} {E : String} {ce : Cell} {q : Addr} {mc ms : Nat} (hout : ∀ x ∈ c.exceptionTable.toList, covers x pc = false) (hlocks : meth.locks = false) (hcell : H[q]? = some ce) (hv : ce.vm = .none) (hcl : s.vm.findClass E = some ce.cls)
    (hx : ∀ t : State, t.heap = H → s.vm.Alike t.vm → XC E s t) (hf : ∀ z ∈ locs, free z.base) (hc : cells ≤ mc) (hs : slots ≤ ms) :
    vx_W p l e R s m args below meth c H locs cells slots (vx_MQ below Qc XC args s mc ms free) (F0 m pc ls rest) q := by
  intro T hT X
  obtain ⟨st1, hrun, hend, hW, hsm⟩ := X.leaveThrown q (g := F0 m pc ls rest) rfl rfl rfl hout hlocks
  have hcell9 : (T.setFrames (.throwing q :: below)).heap[q]? = some ce := by
    show T.heap[q]? = some ce
    rw [hT]; exact hcell
  exact ⟨_, st1, .threw q, hrun, hend, Or.inr ⟨q, rfl, E, ce, locs, hx _ hT hW.alike, hcell9, hv, hcl, hW, hsm.mono hc hs, hf⟩⟩
theorem vx_frame {U : State} {k n : Nat} (h : s.sameButNew ({ U with vm := s.vm } : State) locs k n) : s.heap.size ≤ U.heap.size ∧ ∀ q : Nat, q < s.heap.size → (∀ z ∈ locs, z.base ≠ q) → U.heap[q]? = s.heap[q]? := by
  obtain ⟨-, h2, -, -, -, h6⟩ := h
  refine ⟨h2, fun q hq hz => ?_⟩
  obtain ⟨c9, e1, e2, e3, e4⟩ := h6 q _ (Array.getElem?_eq_getElem hq)
  have hs : c9.slots = (s.heap[q]).slots := Array.ext_getElem? fun i => e4 i fun hm => hz _ hm rfl
  have h9 : c9 = s.heap[q] := by
    rw [hs] at e2
    exact e2
  have e5 : U.heap[q]? = some c9 := e1
  rw [e5, h9, Array.getElem?_eq_getElem hq]
/-- the words of a throw but the four that speak of the heap -/
def vx_no (w : Cond) : Bool := decide (w ≠ .isRef (.static Bundle.tN "UNASSIGNED_STACK" Bundle.steD)) && decide (w ≠ .isRef (.static Bundle.tN "SUPPRESSED_SENTINEL" Bundle.listD)) && decide (w ≠ .laysStatic Bundle.tN "UNASSIGNED_STACK" Bundle.steD) && decide (w ≠ .laysStatic Bundle.tN "SUPPRESSED_SENTINEL" Bundle.listD)
def vx_at0 (own : String) (ic : Nat) (X : String) (names : List String) : List Cond := (Bundle.ownAtoms0 own ic X names).filter vx_no
def vx_atS (own : String) (ic : Nat) (X : String) (names : List String) : List Cond := (Bundle.ownAtoms own ic X names).filter vx_no
/-- a word that the tables alone decide, or a good one -/
def vx_ot (w : Cond) : Bool := w.onTables || goodWord w
theorem vx_ot_at {args a' : Array Value} {s U : State} {w : Cond} (hW : s.WarmedH U.vm) (hvm : s.vm = U.vm) (hg : vx_ot w = true) (h : w.before args s = true) : w.before a' U = true := by
  simp only [vx_ot, Bool.or_eq_true] at hg
  rcases hg with hg | hg
  · exact va_tabs hg hvm h
  · exact word_at hW (good_of_word hg) h
/-- a list's words: the good ones out of the method's own list, the others by premises of their own -/
theorem vx_hat {args : Array Value} {s : State} {L B : List Cond} (h1 : ∀ w ∈ L.filter goodWord, w.before args s = true) (h2 : ∀ w ∈ L.filter (fun w => !goodWord w), w ∈ B) (h3 : ∀ w ∈ B, w.before args s = true) : ∀ w ∈ L, w.before args s = true := by
  intro w hw
  by_cases g : goodWord w = true
  · exact h1 w (List.mem_filter.mpr ⟨hw, g⟩)
  · refine h3 w (h2 w (List.mem_filter.mpr ⟨hw, ?_⟩))
    show (!goodWord w) = true
    cases hgw : goodWord w
    · rfl
    · exact absurd hgw g
theorem vx_c {args : Array Value} {s : State} {w : Cond} {B : List Cond} (h : w.before args s = true) (t : ∀ w ∈ B, w.before args s = true) : ∀ w' ∈ w :: B, w'.before args s = true := fun w' h' => (List.mem_cons.mp h').elim (fun e => by rw [e]; exact h) (t w')
theorem vx_n {args : Array Value} {s : State} : ∀ w ∈ ([] : List Cond), w.before args s = true := fun _ h => nomatch h
theorem vx_own {args : Array Value} {s : State} {L : List Cond} (h1 : ∀ w ∈ L.filter vx_no, w.before args s = true)
    (hU : (Cond.isRef (.static Bundle.tN "UNASSIGNED_STACK" Bundle.steD)).before args s = true) (hN : (Cond.isRef (.static Bundle.tN "SUPPRESSED_SENTINEL" Bundle.listD)).before args s = true)
    (lU : (Cond.laysStatic Bundle.tN "UNASSIGNED_STACK" Bundle.steD).before args s = true) (lN : (Cond.laysStatic Bundle.tN "SUPPRESSED_SENTINEL" Bundle.listD).before args s = true) : ∀ w ∈ L, w.before args s = true := by
  intro w hw
  by_cases e1 : w = .isRef (.static Bundle.tN "UNASSIGNED_STACK" Bundle.steD)
  · rw [e1]; exact hU
  · by_cases e2 : w = .isRef (.static Bundle.tN "SUPPRESSED_SENTINEL" Bundle.listD)
    · rw [e2]; exact hN
    · by_cases e3 : w = .laysStatic Bundle.tN "UNASSIGNED_STACK" Bundle.steD
      · rw [e3]; exact lU
      · by_cases e4 : w = .laysStatic Bundle.tN "SUPPRESSED_SENTINEL" Bundle.listD
        · rw [e4]; exact lN
        · exact h1 w (List.mem_filter.mpr ⟨hw, by unfold vx_no; rw [decide_eq_true e1, decide_eq_true e2, decide_eq_true e3, decide_eq_true e4]; rfl⟩)
/-- where a static field lies, its class's statics cell in H -/
def vx_L (C n d : String) (A : Nat → Prop) (U : State) (H : Heap) : Prop := ∃ (c : ClassId) (k : Class) (i : Nat) (f : Field) (a : Nat) (cell : Cell), U.vm.findClass C = some c ∧ U.fieldFound? C n d = some (c, k, i, f) ∧ f.isStatic = true ∧ k.statics = some a ∧ H[a]? = some cell ∧ cell.vm.isStatics = true ∧ cell.cls = c ∧ f.slot < cell.slots.size ∧ k.staticTypes[f.slot]? = some f.type ∧ ¬ A a
theorem vx_L.moved {C n d : String} {A : Nat → Prop} {u U : State} {H : Heap} (hvm : u.vm.Alike U.vm) (h : vx_L C n d A u H) : vx_L C n d A U H := by
  obtain ⟨c, k, i, f, a, cell, h1, h2, h3, h4, h5, h6, h7, h8, h9, h10⟩ := h
  obtain ⟨k', hi', he⟩ := State.fieldFound?_setVm hvm h2
  exact ⟨c, k', i, f, a, cell, by rw [hvm.findClass]; exact h1, hi', h3, by rw [he]; exact h4, h5, h6, h7, h8, by rw [he]; exact h9, h10⟩
theorem vx_L.kept {C n d : String} {A : Nat → Prop} {U : State} {H H1 : Heap} (h : vx_L C n d A U H) (hq : ∀ a : Nat, a < H.size → ¬ A a → H1[a]? = H[a]?) : vx_L C n d A U H1 := by
  obtain ⟨c, k, i, f, a, cell, h1, h2, h3, h4, h5, h6, h7, h8, h9, h10⟩ := h
  exact ⟨c, k, i, f, a, cell, h1, h2, h3, h4, by rw [hq a (Array.getElem?_eq_some_iff.mp h5).1 h10]; exact h5, h6, h7, h8, h9, h10⟩
theorem vx_L.narrow {C n d : String} {A B : Nat → Prop} {U : State} {H : Heap} (h : vx_L C n d A U H) (hAB : ∀ q, B q → A q) : vx_L C n d B U H := by
  obtain ⟨c, k, i, f, a, cell, h1, h2, h3, h4, h5, h6, h7, h8, h9, h10⟩ := h
  exact ⟨c, k, i, f, a, cell, h1, h2, h3, h4, h5, h6, h7, h8, h9, fun z => h10 (hAB _ z)⟩
theorem vx_L.word {C n d : String} {A : Nat → Prop} {s : State} {args : Array Value} (h : vx_L C n d A s s.heap) : (Cond.laysStatic C n d).before args s = true := by
  obtain ⟨c, k, i, f, a, cell, h1, h2, h3, h4, h5, h6, h7, h8, h9, -⟩ := h
  show (Cond.laysStatic C n d).holds args s none s [] = true
  exact Cond.laysStatic_of h1 h2 h3 h4 h5 h6 h7 h8 h9
/-- .. and what it holds: null or some reference -/
def vx_Zq (C n d : String) (A : Nat → Prop) (U : State) (H : Heap) : Prop := va_Zq C n d A U H ∧ vx_L C n d A U H
theorem vx_Zq.moved {C n d : String} {A : Nat → Prop} {u U : State} {H : Heap} (hvm : u.vm.Alike U.vm) (h : vx_Zq C n d A u H) : vx_Zq C n d A U H := ⟨va_Zq.moved hvm h.1, vx_L.moved hvm h.2⟩
theorem vx_Zq.kept {C n d : String} {A : Nat → Prop} {U : State} {H H1 : Heap} (h : vx_Zq C n d A U H) (hq : ∀ a : Nat, a < H.size → ¬ A a → H1[a]? = H[a]?) : vx_Zq C n d A U H1 := ⟨va_Zq.kept h.1 hq, vx_L.kept h.2 hq⟩
theorem vx_Zq.narrow {C n d : String} {A B : Nat → Prop} {U : State} {H : Heap} (h : vx_Zq C n d A U H) (hAB : ∀ q, B q → A q) : vx_Zq C n d B U H := ⟨va_Zq.narrow h.1 hAB, vx_L.narrow h.2 hAB⟩
theorem vx_Zqof {args : Array Value} {s : State} {C n d : String} {A : Nat → Prop} (hl : (Cond.laysStatic C n d).before args s = true) (hini : (Cond.initialized C).before args s = true) (h : (Cond.isRef (.static C n d)).before args s = true) (hA : ∀ a : Nat, a < s.heap.size → ¬ A a) : vx_Zq C n d A s s.heap := by
  refine ⟨va_Zqof hl hini h hA, ?_⟩
  obtain ⟨c, k, i, f, a, cell, h1, h2, h3, h4, h5, h6, h7, h8, h9⟩ := Cond.laysStatic_spec hl
  exact ⟨c, k, i, f, a, cell, h1, h2, h3, h4, h5, h6, h7, h8, h9, hA a (Array.getElem?_eq_some_iff.mp h5).1⟩
theorem vx_isRef {C n d : String} {v : Value} {A : Nat → Prop} {s : State} {args : Array Value} (h : va_Z C n d v A s s.heap) (hv : v.isRef = true) : (Cond.isRef (.static C n d)).before args s = true := by
  obtain ⟨cf, kf, fi, f, a, cell, h1, h2, h3, h4, h5, h6, h7, -⟩ := h
  have he : (Term.static C n d).eval args s none [] s = some v := by
    simp [Term.eval, State.fieldNamed?, h1, h2, h4, h5, h6, h7]
  simp only [Cond.before, Cond.holds, Cond.value, he]
  cases v <;> simp_all [Value.isRef]
theorem vx_isRefq {C n d : String} {A : Nat → Prop} {s : State} {args : Array Value} (h : va_Zq C n d A s s.heap) : (Cond.isRef (.static C n d)).before args s = true := by
  rcases h with h | ⟨t, h⟩
  · exact vx_isRef h rfl
  · exact vx_isRef h rfl
/-- the same frame, seen from here: as if the method were called anew in this heap -/
theorem vx_rebase {T : State} (X : Stand p l e R s m args below meth c T locs cells slots) {R' : Room} (hf : R'.frames ≤ R.frames) (hl : R'.locals ≤ R.locals) (hc : cells + R'.cells ≤ R.cells) (hs : slots + R'.slots ≤ R.slots) :
    Stand p l e R' ((T.setVm s.vm).setFrames (.invoking m args :: below)) m args below meth c T [] 0 0 := by
  have htop : (T.setVm s.vm).topJava?.isSome := X.here.top
  have hF : ((T.setVm s.vm).setFrames (.invoking m args :: below)).frames = .invoking m args :: below := State.frames_setFrames _ (State.cur_lt_of_top htop)
  obtain ⟨g₀, hg0⟩ := Option.isSome_iff_exists.mp htop
  obtain ⟨r, hr⟩ := State.topJava?_eq_some.mp hg0
  have hl9 : e.platform.stackLimits (T.setVm s.vm).me = e.platform.stackLimits s.me := X.limits
  have hb9 : (T.setVm s.vm).me.stackBytes = s.me.stackBytes := X.bytes
  refine ⟨X.admits, X.cas, X.clock, hF, ?_, X.hears, X.method, X.code, X.here, X.tail, X.warmed, ?_, ?_, ?_⟩
  · have h := X.room
    have hU : ((T.setVm s.vm).setFrames (.invoking m args :: below)).localsInUse = s.localsInUse := by
      rw [State.localsInUse_invoking hF (meth := meth) (c := c) X.method X.code, State.localsInUse_invoking X.frames X.method X.code]
    simp only [State.hasRoom, Bool.and_eq_true, decide_eq_true_eq] at h ⊢
    obtain ⟨⟨⟨⟨h1, h2, h3, h4, h5, h6⟩, h7⟩, h8⟩, h9⟩ := h
    rw [X.frames, List.length_cons] at h2 h3
    have q1 := X.heapSize
    have q2 := X.used
    simp only [hF, hU, List.length_cons, State.stackLimits_setFrames, State.stackBytes_setFrames, hl9, hb9]
    refine ⟨⟨⟨⟨by omega, by omega, by omega, by omega, by omega, h6⟩, ?_⟩, ?_⟩, X.book⟩
    · show T.heap.size + R'.cells ≤ e.platform.maxCells
      omega
    · show T.slotsUsed + R'.slots ≤ e.platform.maxSlots
      omega
  · rw [State.stackLimits_setFrames]; rfl
  · rw [State.stackBytes_setFrames]; rfl
  · refine ⟨?_, Nat.le_refl _, Nat.le_refl _, ?_, ?_, fun a c9 h9 => ⟨c9, h9, rfl, rfl, fun _ _ => rfl⟩⟩
    · obtain ⟨t, ht, -⟩ := State.frames_cons hr
      show T.setVm s.vm = { ((T.setVm s.vm).setFrames (.invoking m args :: below)).setFrames (T.setVm s.vm).frames with heap := T.heap, slotsUsed := T.slotsUsed }
      rw [State.setFrames_setFrames, State.setFrames_self ht]
      rfl
    · show T.slotsUsed = T.slotsUsed + ((T.heap.toList.drop T.heap.size).map (·.slots.size)).sum
      rw [List.drop_eq_nil_of_le (Nat.le_of_eq Array.length_toList)]
      rfl
    · show ((T.heap.toList.drop T.heap.size).map (·.slots.size)).sum ≤ 0
      rw [List.drop_eq_nil_of_le (Nat.le_of_eq Array.length_toList)]
      exact Nat.le_refl _
/-- 'throw new E()': new; dup; invokespecial; athrow -/
theorem vx_throw0 {cc : ByteArray} {pc : Nat} (hexec : p.tables.exec = Jvm.exec) (hb : c.code = cc) (hl : l.stackTraces = false) {own cls : String} {names : List String} {ik ic mc ms : Nat} {A : Nat → Prop}
    (hown : s.vm.findClass own = some m.cls) (hcls : Bundle.fit cls = true) (hnames : ∀ n ∈ names, Bundle.fit n = true)
    (hk : (Cond.classLink own ik cls).before args s = true) (hini : (Cond.initialized cls).before args s = true) (hat : ∀ w ∈ vx_at0 own ic cls names, w.before args s = true)
    (hgood : ∀ w ∈ Cond.classLink own ik cls :: Cond.initialized cls :: vx_at0 own ic cls names, vx_ot w = true)
    (hU : vx_Zq Bundle.tN "UNASSIGNED_STACK" Bundle.steD A s s.heap) (hN : vx_Zq Bundle.tN "SUPPRESSED_SENTINEL" Bundle.listD A s s.heap) (hS : va_S A s.heap H locs) (hsize : ls.size = c.maxLocals)
    (d0 : decode cc pc = .ok (.new ik, 3)) (d3 : decode cc (pc + 3) = .ok (.dup, 1)) (d4 : decode cc (pc + 4) = .ok (.invokespecial ic, 3)) (d7 : decode cc (pc + 7) = .ok (.athrow, 1))
    (hout : ∀ x ∈ c.exceptionTable.toList, covers x (pc + 7) = false)
    (hRframes : names.length + 3 < R.frames) (hRlocals : (rest.map fun v => v.category).sum + (13 * (names.length + 1) + 42) ≤ R.locals) (hRcells : cells + 1 ≤ R.cells) (hRslots : slots + 6 ≤ R.slots) (hlocks : meth.locks = false)
    (hx : ∀ t : State, s.vm.Alike t.vm → H.size ≤ t.heap.size → (∀ q : Nat, q < H.size → t.heap[q]? = H[q]?) → XC cls s t)
    (hf : ∀ z ∈ locs, free z.base) (hc : cells + 1 ≤ mc) (hs : slots + 6 ≤ ms) :
    W p l e R s m args below meth c H locs cells slots (vx_MQ below Qc XC args s mc ms free) (F0 m pc ls rest) := by
  intro T hT X
  have htr : e.platform.stackTraces = false := (show e.platform.stackTraces = l.stackTraces by rw [X.admits.platform]).trans hl
  have Y := vx_rebase X (R' := { frames := R.frames, locals := R.locals, cells := 1, slots := 6 }) (Nat.le_refl _) (Nat.le_refl _) hRcells hRslots
  obtain ⟨s', hA⟩ : ∃ z, z = (T.setVm s.vm).setFrames (.invoking m args :: below) := ⟨_, rfl⟩
  rw [← hA] at Y
  have hvm : s'.vm = s.vm := by rw [hA]; rfl
  have hhp : s'.heap = H := by rw [hA]; exact hT
  have hW0 : s.WarmedH s'.vm := by rw [hvm]; exact State.WarmedH.refl s
  have hat' : ∀ w ∈ vx_at0 own ic cls names, w.before args s' = true := fun w hw => vx_ot_at hW0 hvm.symm (hgood w (List.mem_cons_of_mem _ (List.mem_cons_of_mem _ hw))) (hat w hw)
  have hk' : (Cond.classLink own ik cls).before args s' = true := vx_ot_at hW0 hvm.symm (hgood _ List.mem_cons_self) hk
  have hini' : (Cond.initialized cls).before args s' = true := vx_ot_at hW0 hvm.symm (hgood _ (List.mem_cons_of_mem _ List.mem_cons_self)) hini
  have hU' : vx_Zq Bundle.tN "UNASSIGNED_STACK" Bundle.steD A s' s'.heap := by rw [hhp]; exact vx_Zq.moved hW0.alike (hU.kept hS.2.1)
  have hN' : vx_Zq Bundle.tN "SUPPRESSED_SENTINEL" Bundle.listD A s' s'.heap := by rw [hhp]; exact vx_Zq.moved hW0.alike (hN.kept hS.2.1)
  have h : ∀ w ∈ Bundle.ownAtoms0 own ic cls names, w.before args s' = true := vx_own hat' (vx_isRefq hU'.1) (vx_isRefq hN'.1) hU'.2.word hN'.2.word
  have hown' : s'.vm.findClass own = some m.cls := by rw [hvm]; exact hown
  have hins : (Cond.instantiable cls 6).before args s' = true := h _ (by simp [Bundle.ownAtoms0])
  obtain ⟨vm₁, cX, kX, hfX, hkX, -, -, X₁, st1⟩ := Y.newCold hexec (own := own) (C := cls) (index := ik) (n := 6) hown' hk' hins hini'
    (g := F0 m pc ls rest) rfl (by rw [hb]; exact d0) (Nat.le_refl _) (Nat.le_refl _)
  generalize hT1 : (T.setVm vm₁).pushCell { cls := cX, slots := kX.instanceTypes.map defaultValue, vm := .none } = T1 at X₁ st1
  have hcat : (Value.ref T.heap.size).category = 1 := rfl
  have hcellA : T1.heap[T.heap.size]? = some (freshCell cX kX) := by rw [← hT1]; exact State.heap_pushCell_size _ _
  have d3' : decode c.code (pc + 3) = .ok (.dup, 1) := by rw [hb]; exact d3
  obtain ⟨U, hsteps, hrun, hend, hW, hsame, ce, hce, hO⟩ := X₁.ctorThrow0 hexec htr (own := own) (cls := cls) (names := names) (ic := ic) hown' hcls hnames h (fun x hx => nomatch hx) hfX hkX hcellA (by rw [hhp, hT]; exact Nat.le_refl _)
    (g := { method := m, pc := pc + 4, locals := ls, stack := .ref T.heap.size :: .ref T.heap.size :: rest, locked := none }) rfl hsize rfl rfl (rest := rest) rfl
    (by rw [hb]; exact d4) (by rw [hb]; exact d7) hout hRframes (by simp only [List.map_cons, List.sum_cons, hcat]; omega) hlocks
  obtain ⟨f1, f2⟩ := vx_frame hsame
  rw [hhp] at f1 f2
  have hWs : s.WarmedH U.vm := State.WarmedH.trans hW0 hW
  have hcl : s.vm.findClass cls = some ce.cls := by
    have h9 := hO.cls
    rw [hvm] at h9
    exact h9
  have hall : s.sameButNew ({ U with vm := s.vm } : State) locs mc ms := by
    subst hA
    obtain ⟨e1, e2⟩ := hsame
    rw [State.setFrames_setFrames] at e1
    have h2 : (T.setVm s.vm).sameButNew ({ U with vm := s.vm } : State) [] (0 + 1) (0 + 6) := ⟨e1, e2⟩
    have h3 := X.same.trans h2
    rw [List.append_nil] at h3
    exact h3.mono hc hs
  refine ⟨U, ?_, .threw T.heap.size, hrun, hend, Or.inr ⟨T.heap.size, rfl, cls, ce, locs, hx U hWs.alike f1 (fun q hq => f2 q hq (fun z hz => nomatch hz)), hce, hO.vm, hcl, hWs, hall, hf⟩⟩
  refine st1 _ ?_
  show Steps p.tables e below (T1.setTop { method := m, pc := pc + 3, locals := ls, stack := .ref T.heap.size :: rest, locked := none }) _
  jvm_step X₁.here [X₁.here.top, hexec, d3', Value.category]
  exact hsteps
/-- 'throw new E("text")': new; dup; ldc; invokespecial; athrow -/
theorem vx_throwS {cc : ByteArray} {pc : Nat} (hexec : p.tables.exec = Jvm.exec) (hb : c.code = cc) (hl : l.stackTraces = false) {own cls text : String} {names : List String} {ik is ic mc ms sa : Nat} {A : Nat → Prop}
    (hown : s.vm.findClass own = some m.cls) (hcls : Bundle.fit cls = true) (hnames : ∀ n ∈ names, Bundle.fit n = true)
    (hk : (Cond.classLink own ik cls).before args s = true) (hini : (Cond.initialized cls).before args s = true) (hstr : vk_R own is text sa s) (hat : ∀ w ∈ vx_atS own ic cls names, w.before args s = true)
    (hgood : ∀ w ∈ Cond.classLink own ik cls :: Cond.initialized cls :: vx_atS own ic cls names, vx_ot w = true)
    (hU : vx_Zq Bundle.tN "UNASSIGNED_STACK" Bundle.steD A s s.heap) (hN : vx_Zq Bundle.tN "SUPPRESSED_SENTINEL" Bundle.listD A s s.heap) (hS : va_S A s.heap H locs) (hsize : ls.size = c.maxLocals)
    (d0 : decode cc pc = .ok (.new ik, 3)) (d3 : decode cc (pc + 3) = .ok (.dup, 1)) (d4 : decode cc (pc + 4) = .ok (.ldc is, 2)) (d6 : decode cc (pc + 6) = .ok (.invokespecial ic, 3)) (d9 : decode cc (pc + 9) = .ok (.athrow, 1))
    (hout : ∀ x ∈ c.exceptionTable.toList, covers x (pc + 9) = false)
    (hRframes : names.length + 3 < R.frames) (hRlocals : (rest.map fun v => v.category).sum + (13 * (names.length + 1) + 43) ≤ R.locals) (hRcells : cells + 1 ≤ R.cells) (hRslots : slots + 6 ≤ R.slots) (hlocks : meth.locks = false)
    (hx : ∀ t : State, s.vm.Alike t.vm → H.size ≤ t.heap.size → (∀ q : Nat, q < H.size → t.heap[q]? = H[q]?) → XC cls s t)
    (hf : ∀ z ∈ locs, free z.base) (hc : cells + 1 ≤ mc) (hs : slots + 6 ≤ ms) :
    W p l e R s m args below meth c H locs cells slots (vx_MQ below Qc XC args s mc ms free) (F0 m pc ls rest) := by
  intro T hT X
  have htr : e.platform.stackTraces = false := (show e.platform.stackTraces = l.stackTraces by rw [X.admits.platform]).trans hl
  have Y := vx_rebase X (R' := { frames := R.frames, locals := R.locals, cells := 1, slots := 6 }) (Nat.le_refl _) (Nat.le_refl _) hRcells hRslots
  obtain ⟨s', hA⟩ : ∃ z, z = (T.setVm s.vm).setFrames (.invoking m args :: below) := ⟨_, rfl⟩
  rw [← hA] at Y
  have hvm : s'.vm = s.vm := by rw [hA]; rfl
  have hhp : s'.heap = H := by rw [hA]; exact hT
  have hW0 : s.WarmedH s'.vm := by rw [hvm]; exact State.WarmedH.refl s
  have hat' : ∀ w ∈ vx_atS own ic cls names, w.before args s' = true := fun w hw => vx_ot_at hW0 hvm.symm (hgood w (List.mem_cons_of_mem _ (List.mem_cons_of_mem _ hw))) (hat w hw)
  have hk' : (Cond.classLink own ik cls).before args s' = true := vx_ot_at hW0 hvm.symm (hgood _ List.mem_cons_self) hk
  have hini' : (Cond.initialized cls).before args s' = true := vx_ot_at hW0 hvm.symm (hgood _ (List.mem_cons_of_mem _ List.mem_cons_self)) hini
  have hU' : vx_Zq Bundle.tN "UNASSIGNED_STACK" Bundle.steD A s' s'.heap := by rw [hhp]; exact vx_Zq.moved hW0.alike (hU.kept hS.2.1)
  have hN' : vx_Zq Bundle.tN "SUPPRESSED_SENTINEL" Bundle.listD A s' s'.heap := by rw [hhp]; exact vx_Zq.moved hW0.alike (hN.kept hS.2.1)
  have h : ∀ w ∈ Bundle.ownAtoms own ic cls names, w.before args s' = true := vx_own hat' (vx_isRefq hU'.1) (vx_isRefq hN'.1) hU'.2.word hN'.2.word
  have hown' : s'.vm.findClass own = some m.cls := by rw [hvm]; exact hown
  have hins : (Cond.instantiable cls 6).before args s' = true := h _ (by simp [Bundle.ownAtoms])
  obtain ⟨vm₁, cX, kX, hfX, hkX, -, -, X₁, st1⟩ := Y.newCold hexec (own := own) (C := cls) (index := ik) (n := 6) hown' hk' hins hini'
    (g := F0 m pc ls rest) rfl (by rw [hb]; exact d0) (Nat.le_refl _) (Nat.le_refl _)
  generalize hT1 : (T.setVm vm₁).pushCell { cls := cX, slots := kX.instanceTypes.map defaultValue, vm := .none } = T1 at X₁ st1
  have hcat : (Value.ref T.heap.size).category = 1 := rfl
  have hcellA : T1.heap[T.heap.size]? = some (freshCell cX kX) := by rw [← hT1]; exact State.heap_pushCell_size _ _
  have d3' : decode c.code (pc + 3) = .ok (.dup, 1) := by rw [hb]; exact d3
  have d4' : decode c.code (pc + 4) = .ok (.ldc is, 2) := by rw [hb]; exact d4
  have hstr' : vk_R own is text sa s' := vk_R.warm hW0 hstr
  obtain ⟨U, hsteps, hrun, hend, hW, hsame, ce, hce, hO⟩ := X₁.ctorThrowS hexec htr (own := own) (cls := cls) (names := names) (ic := ic) hown' hcls hnames h (fun x hx => nomatch hx) hfX hkX hcellA (by rw [hhp, hT]; exact Nat.le_refl _) (msg := .ref sa) rfl
    (g := { method := m, pc := pc + 6, locals := ls, stack := .ref sa :: .ref T.heap.size :: .ref T.heap.size :: rest, locked := none }) rfl hsize rfl rfl (rest := rest) rfl
    (by rw [hb]; exact d6) (by rw [hb]; exact d9) hout hRframes (by simp only [List.map_cons, List.sum_cons, hcat]; omega) hlocks
  obtain ⟨f1, f2⟩ := vx_frame hsame
  rw [hhp] at f1 f2
  have hWs : s.WarmedH U.vm := State.WarmedH.trans hW0 hW
  have hcl : s.vm.findClass cls = some ce.cls := by
    have h9 := hO.cls
    rw [hvm] at h9
    exact h9
  have hall : s.sameButNew ({ U with vm := s.vm } : State) locs mc ms := by
    subst hA
    obtain ⟨e1, e2⟩ := hsame
    rw [State.setFrames_setFrames] at e1
    have h2 : (T.setVm s.vm).sameButNew ({ U with vm := s.vm } : State) [] (0 + 1) (0 + 6) := ⟨e1, e2⟩
    have h3 := X.same.trans h2
    rw [List.append_nil] at h3
    exact h3.mono hc hs
  refine ⟨U, ?_, .threw T.heap.size, hrun, hend, Or.inr ⟨T.heap.size, rfl, cls, ce, locs, hx U hWs.alike f1 (fun q hq => f2 q hq (fun z hz => nomatch hz)), hce, hO.vm, hcl, hWs, hall, hf⟩⟩
  refine st1 _ ?_
  show Steps p.tables e below (T1.setTop { method := m, pc := pc + 3, locals := ls, stack := .ref T.heap.size :: rest, locked := none }) _
  jvm_step X₁.here [X₁.here.top, hexec, d3', Value.category]
  exact X₁.ldcString hexec (own := own) (text := text) (index := is) (a := sa) hown' hstr'.1 hstr'.2
    (g := { method := m, pc := pc + 4, locals := ls, stack := .ref T.heap.size :: .ref T.heap.size :: rest, locked := none }) rfl d4' _ hsteps
/-- 'throw new E("text")', the text by a wide index -/
theorem vx_throwSW {cc : ByteArray} {pc : Nat} (hexec : p.tables.exec = Jvm.exec) (hb : c.code = cc) (hl : l.stackTraces = false) {own cls text : String} {names : List String} {ik is ic mc ms sa : Nat} {A : Nat → Prop}
    (hown : s.vm.findClass own = some m.cls) (hcls : Bundle.fit cls = true) (hnames : ∀ n ∈ names, Bundle.fit n = true)
    (hk : (Cond.classLink own ik cls).before args s = true) (hini : (Cond.initialized cls).before args s = true) (hstr : vk_R own is text sa s) (hat : ∀ w ∈ vx_atS own ic cls names, w.before args s = true)
    (hgood : ∀ w ∈ Cond.classLink own ik cls :: Cond.initialized cls :: vx_atS own ic cls names, vx_ot w = true)
    (hU : vx_Zq Bundle.tN "UNASSIGNED_STACK" Bundle.steD A s s.heap) (hN : vx_Zq Bundle.tN "SUPPRESSED_SENTINEL" Bundle.listD A s s.heap) (hS : va_S A s.heap H locs) (hsize : ls.size = c.maxLocals)
    (d0 : decode cc pc = .ok (.new ik, 3)) (d3 : decode cc (pc + 3) = .ok (.dup, 1)) (d4 : decode cc (pc + 4) = .ok (.ldc_w is, 3)) (d7 : decode cc (pc + 7) = .ok (.invokespecial ic, 3)) (d10 : decode cc (pc + 10) = .ok (.athrow, 1))
    (hout : ∀ x ∈ c.exceptionTable.toList, covers x (pc + 10) = false)
    (hRframes : names.length + 3 < R.frames) (hRlocals : (rest.map fun v => v.category).sum + (13 * (names.length + 1) + 43) ≤ R.locals) (hRcells : cells + 1 ≤ R.cells) (hRslots : slots + 6 ≤ R.slots) (hlocks : meth.locks = false)
    (hx : ∀ t : State, s.vm.Alike t.vm → H.size ≤ t.heap.size → (∀ q : Nat, q < H.size → t.heap[q]? = H[q]?) → XC cls s t)
    (hf : ∀ z ∈ locs, free z.base) (hc : cells + 1 ≤ mc) (hs : slots + 6 ≤ ms) :
    W p l e R s m args below meth c H locs cells slots (vx_MQ below Qc XC args s mc ms free) (F0 m pc ls rest) := by
  intro T hT X
  have htr : e.platform.stackTraces = false := (show e.platform.stackTraces = l.stackTraces by rw [X.admits.platform]).trans hl
  have Y := vx_rebase X (R' := { frames := R.frames, locals := R.locals, cells := 1, slots := 6 }) (Nat.le_refl _) (Nat.le_refl _) hRcells hRslots
  obtain ⟨s', hA⟩ : ∃ z, z = (T.setVm s.vm).setFrames (.invoking m args :: below) := ⟨_, rfl⟩
  rw [← hA] at Y
  have hvm : s'.vm = s.vm := by rw [hA]; rfl
  have hhp : s'.heap = H := by rw [hA]; exact hT
  have hW0 : s.WarmedH s'.vm := by rw [hvm]; exact State.WarmedH.refl s
  have hat' : ∀ w ∈ vx_atS own ic cls names, w.before args s' = true := fun w hw => vx_ot_at hW0 hvm.symm (hgood w (List.mem_cons_of_mem _ (List.mem_cons_of_mem _ hw))) (hat w hw)
  have hk' : (Cond.classLink own ik cls).before args s' = true := vx_ot_at hW0 hvm.symm (hgood _ List.mem_cons_self) hk
  have hini' : (Cond.initialized cls).before args s' = true := vx_ot_at hW0 hvm.symm (hgood _ (List.mem_cons_of_mem _ List.mem_cons_self)) hini
  have hU' : vx_Zq Bundle.tN "UNASSIGNED_STACK" Bundle.steD A s' s'.heap := by rw [hhp]; exact vx_Zq.moved hW0.alike (hU.kept hS.2.1)
  have hN' : vx_Zq Bundle.tN "SUPPRESSED_SENTINEL" Bundle.listD A s' s'.heap := by rw [hhp]; exact vx_Zq.moved hW0.alike (hN.kept hS.2.1)
  have h : ∀ w ∈ Bundle.ownAtoms own ic cls names, w.before args s' = true := vx_own hat' (vx_isRefq hU'.1) (vx_isRefq hN'.1) hU'.2.word hN'.2.word
  have hown' : s'.vm.findClass own = some m.cls := by rw [hvm]; exact hown
  have hins : (Cond.instantiable cls 6).before args s' = true := h _ (by simp [Bundle.ownAtoms])
  obtain ⟨vm₁, cX, kX, hfX, hkX, -, -, X₁, st1⟩ := Y.newCold hexec (own := own) (C := cls) (index := ik) (n := 6) hown' hk' hins hini'
    (g := F0 m pc ls rest) rfl (by rw [hb]; exact d0) (Nat.le_refl _) (Nat.le_refl _)
  generalize hT1 : (T.setVm vm₁).pushCell { cls := cX, slots := kX.instanceTypes.map defaultValue, vm := .none } = T1 at X₁ st1
  have hcat : (Value.ref T.heap.size).category = 1 := rfl
  have hcellA : T1.heap[T.heap.size]? = some (freshCell cX kX) := by rw [← hT1]; exact State.heap_pushCell_size _ _
  have d3' : decode c.code (pc + 3) = .ok (.dup, 1) := by rw [hb]; exact d3
  have d4' : decode c.code (pc + 4) = .ok (.ldc_w is, 3) := by rw [hb]; exact d4
  have hstr' : vk_R own is text sa s' := vk_R.warm hW0 hstr
  obtain ⟨U, hsteps, hrun, hend, hW, hsame, ce, hce, hO⟩ := X₁.ctorThrowS hexec htr (own := own) (cls := cls) (names := names) (ic := ic) hown' hcls hnames h (fun x hx => nomatch hx) hfX hkX hcellA (by rw [hhp, hT]; exact Nat.le_refl _) (msg := .ref sa) rfl
    (g := { method := m, pc := pc + 7, locals := ls, stack := .ref sa :: .ref T.heap.size :: .ref T.heap.size :: rest, locked := none }) rfl hsize rfl rfl (rest := rest) rfl
    (by rw [hb]; exact d7) (by rw [hb]; exact d10) hout hRframes (by simp only [List.map_cons, List.sum_cons, hcat]; omega) hlocks
  obtain ⟨f1, f2⟩ := vx_frame hsame
  rw [hhp] at f1 f2
  have hWs : s.WarmedH U.vm := State.WarmedH.trans hW0 hW
  have hcl : s.vm.findClass cls = some ce.cls := by
    have h9 := hO.cls
    rw [hvm] at h9
    exact h9
  have hall : s.sameButNew ({ U with vm := s.vm } : State) locs mc ms := by
    subst hA
    obtain ⟨e1, e2⟩ := hsame
    rw [State.setFrames_setFrames] at e1
    have h2 : (T.setVm s.vm).sameButNew ({ U with vm := s.vm } : State) [] (0 + 1) (0 + 6) := ⟨e1, e2⟩
    have h3 := X.same.trans h2
    rw [List.append_nil] at h3
    exact h3.mono hc hs
  refine ⟨U, ?_, .threw T.heap.size, hrun, hend, Or.inr ⟨T.heap.size, rfl, cls, ce, locs, hx U hWs.alike f1 (fun q hq => f2 q hq (fun z hz => nomatch hz)), hce, hO.vm, hcl, hWs, hall, hf⟩⟩
  refine st1 _ ?_
  show Steps p.tables e below (T1.setTop { method := m, pc := pc + 3, locals := ls, stack := .ref T.heap.size :: rest, locked := none }) _
  jvm_step X₁.here [X₁.here.top, hexec, d3', Value.category]
  exact X₁.ldcStringW hexec (own := own) (text := text) (index := is) (a := sa) hown' hstr'.1 hstr'.2
    (g := { method := m, pc := pc + 4, locals := ls, stack := .ref T.heap.size :: .ref T.heap.size :: rest, locked := none }) rfl d4' _ hsteps
end Ends
section Bodies
variable {l : Launch}
theorem vx_ofW {y : MethodName} {ws ws' : List Cond} {rm : Room} {Pc : Array Value → State → Prop} {Qc : Array Value → State → Outcome → State → Prop} {XC : String → State → State → Prop} {mc ms : Nat} {free : Addr → Prop} {cc : ByteArray} {maxL : Nat} {ret : Option FieldType}
    (hy : plainName y.cls = true) (hw : ws = Cond.code y cc maxL ret :: ws')
    (body : ∀ p e s m args below meth c s₁, BodyLoose p l y (headSpec ws rm) cc maxL ret e s m args below meth c s₁ → c.maxLocals = maxL → (∀ x ∈ c.exceptionTable.toList, False) → Pc args s →
      W p l e (headSpec ws rm).room s m args below meth c s.heap [] 0 0 (vx_MQ below Qc XC args s mc ms free) (entryFrame m args maxL)) : vx_Met l y ws rm Pc Qc XC mc ms free := by
  refine MetFree.of_bodyS (code := cc) (maxLocals := maxL) (ret := ret) hy ?_ ?_
  · intro args s m h hn
    obtain ⟨meth, c, h1, h2, h3, h4, h5, h6, -, -⟩ := Cond.code_spec hn (atoms_spec (ws := ws) h _ (by rw [hw]; exact List.mem_cons_self))
    exact ⟨meth, c, h1, h2, h3, h4, h5, h6⟩
  · intro p e s m args below meth c s₁ B hml hP _
    have hh0 : s₁.heap = s.heap := by rw [B.state]; rfl
    have ht : ∀ x ∈ c.exceptionTable.toList, False := by
      obtain ⟨meth9, c9, h1, h2, -, -, -, -, h7, -⟩ := Cond.code_spec B.named (atoms_spec (ws := ws) B.pre _ (by rw [hw]; exact List.mem_cons_self))
      cases Option.some.inj (h1.symm.trans B.method)
      cases Option.some.inj (h2.symm.trans (Stand.of_body B).code)
      intro x hx
      rw [Array.isEmpty_iff.mp h7] at hx
      cases hx
    obtain ⟨t, a1, o, b1, b2, b3⟩ := body p e s m args below meth c s₁ B hml ht hP s₁ hh0 (Stand.of_body B)
    exact ⟨t, o, a1, b1, b2, b3⟩
/-- the table of a body with handlers -/
theorem vx_table {p : Program} {x y : MethodName} {S : Spec} {cc bytes : ByteArray} {maxL maxL' : Nat} {ret ret' : Option FieldType} {e : Env} {s s₁ : State} {m : MethodId} {args : Array Value} {below : List Frame} {meth : Method} {c : Code} {hh : List (Nat × Nat × Nat × Nat)}
    (B : BodyLoose p l y S cc maxL ret e s m args below meth c s₁) (h : (Cond.codeWith y bytes maxL' ret' hh).before args s = true) : c.exceptionTable.toList = tableOf hh := by
  obtain ⟨m9, meth9, c9, hn9, h1, h2, -, -, h6, -⟩ := Cond.codeWith_spec h
  cases Option.some.inj (hn9.symm.trans B.named)
  cases Option.some.inj (h1.symm.trans B.method)
  cases Option.some.inj (h2.symm.trans (Stand.of_body B).code)
  rw [← h6, table_eq]
end Bodies
end VXA
/-! ===== END ===== -/
/-! ===== BEGIN a static call of a method with an exception table ===== -/
section VXS
variable {p : Program} {l : Launch} {e : Env} {R : Room} {s : State} {m : MethodId} {args : Array Value} {below : List Frame} {meth : Method} {c : Code} {T : State} {H : Heap} {locs : List Loc} {cells slots : Nat}
abbrev vx_CSW (R : Room) (s : State) (args : Array Value) (own : String) (index : Nat) (y : MethodName) (bytes : ByteArray) (maxL : Nat) (ret : Option FieldType) (hh : List (Nat × Nat × Nat × Nat)) (ws : List Cond) (rm : Room) (mc ms n : Nat) : Prop :=
  (rm.cells = mc ∧ rm.slots = ms ∧ rm.frames + 1 ≤ R.frames ∧ 8 + (maxL + 11) + rm.locals ≤ R.locals ∧ (∀ w ∈ ws, ∀ (a' : Array Value) (U : State), s.WarmedH U.vm → w.before a' U = true) ∧ Cond.codeWith y bytes maxL ret hh ∈ ws) ∧
  (Cond.codeWith y bytes maxL ret hh).before args s = true ∧ (Cond.initialized y.cls).before args s = true ∧ (y.cls ≠ "java/lang/invoke/MethodHandle" ∧ y.cls ≠ "java/lang/invoke/VarHandle") ∧
  (∀ sig, parseMethodDescriptor y.desc = some sig → n = sig.parameters.length) ∧ (Cond.methodLink own index y).before args s = true ∧ (Cond.static y).before args s = true
theorem vx_cwSW {own : String} {index maxL mc ms : Nat} {y : MethodName} {bytes : ByteArray} {ret : Option FieldType} {hh : List (Nat × Nat × Nat × Nat)} {Ts ws ws' : List Cond} {rm : Room} (n : Nat) (ht : ∀ w ∈ Ts, w.before args s = true) (hT : GoodIn Ts (va_wsS own index y ws)) (hw : ws = Cond.codeWith y bytes maxL ret hh :: ws') (hrc : rm.cells = mc) (hrs : rm.slots = ms)
    (hd : y.cls ≠ "java/lang/invoke/MethodHandle" ∧ y.cls ≠ "java/lang/invoke/VarHandle" ∧ (parseMethodDescriptor y.desc).map (fun d => d.parameters.length) = some n) (hR : rm.frames + 1 ≤ R.frames ∧ 8 + (maxL + 11) + rm.locals ≤ R.locals) :
    vx_CSW R s args own index y bytes maxL ret hh ws rm mc ms n := by
  have ok : ∀ w ∈ va_wsS own index y ws, w.before args s = true := fun w h => ht w (hT w h).1
  have hG : GoodIn Ts ws := fun w h => hT w (by unfold va_wsS; exact List.mem_append_right _ h)
  have hc : Cond.codeWith y bytes maxL ret hh ∈ ws := by rw [hw]; exact List.mem_cons_self
  refine ⟨⟨hrc, hrs, hR.1, hR.2, pay_in ht hG, hc⟩, ht _ (hG _ hc).1, ok _ (by simp [va_wsS]), ⟨hd.1, hd.2.1⟩, fun sig h => ?_, ok _ (by simp [va_wsS]), ok _ (by simp [va_wsS])⟩
  have h2 := hd.2.2
  rw [h] at h2
  exact (Option.some.inj h2).symm
theorem vx_callSW (X : Stand p l e R s m args below meth c T locs cells slots) (hexec : p.tables.exec = Jvm.exec) {own : String} {index : Nat} {y : MethodName} {bytes : ByteArray} {maxL : Nat} {ret : Option FieldType} {hh : List (Nat × Nat × Nat × Nat)}
    (hown : s.vm.findClass own = some m.cls) (hlink : (Cond.methodLink own index y).before args s = true) (hstat : (Cond.static y).before args s = true) (hinit : (Cond.initialized y.cls).before args s = true)
    (hcode : (Cond.codeWith y bytes maxL ret hh).before args s = true) (hy : y.cls ≠ "java/lang/invoke/MethodHandle" ∧ y.cls ≠ "java/lang/invoke/VarHandle")
    {W9 : Nat} {Pre : Pt → Array Value → Prop} {Post : Pt → Array Value → Option Value → Pt → Prop} (hK : Back l R p e below s args y 3 W9 Pre Post)
    {g : JFrame} (hg : g.method = m) (hsize : g.locals.size = c.maxLocals) {argsL rest : List Value} (hlen : ∀ sig, parseMethodDescriptor y.desc = some sig → argsL.length = sig.parameters.length)
    (hstack : g.stack = argsL.reverse ++ rest) (hW : 2 * g.monitorRoom + (rest.map fun v => v.category).sum ≤ W9) (hdg : decode c.code g.pc = .ok (.invokestatic index, 3))
    (hpre : ∀ vm₁, s.WarmedH vm₁ → Pre ⟨T.setVm vm₁, locs, cells, slots⟩ argsL.toArray) :
    ∃ (v : Option Value) (vm₁ : Vm) (B : Pt), s.WarmedH vm₁ ∧ Stand p l e R s m args below meth c B.U B.locs B.cells B.slots ∧ Post ⟨T.setVm vm₁, locs, cells, slots⟩ argsL.toArray v B ∧
      ∀ target, Steps p.tables e below (B.U.setTop { g with pc := g.pc + 3, stack := v.toList ++ rest }) target → Steps p.tables e below (T.setTop g) target := by
  obtain ⟨mk, methM, cM, hnamed, hmethM, -, -, -, -, -, -, hsigM⟩ := Cond.codeWith_spec hcode
  have hstatic : methM.isStatic = true := Cond.static_spec hnamed hmethM hstat
  obtain ⟨kP, hkP, -⟩ := className_of_methodNamed hnamed
  have hinitP : kP.init = .initialized := Cond.initialized_spec (findClass_of_methodNamed hnamed) hkP hinit
  obtain ⟨vm₁, X₁, hstep₁⟩ := X.invokestatic hexec hown hlink hnamed hmethM hstatic hkP hinitP hy (g := g) hg (argsL := argsL) (rest := rest) (hlen _ hsigM) hstack hdg
  obtain ⟨v, B, X', hpost, hsteps⟩ := hK m meth c ⟨T.setVm vm₁, locs, cells, slots⟩ { g with stack := rest } (.invokestatic index) mk argsL.toArray X₁ hg hsize hdg hW (X₁.named hnamed) (hpre vm₁ X₁.warmed)
  exact ⟨v, vm₁, B, X₁.warmed, X', hpost, fun target h => hstep₁ _ fun acts => by rw [doInvoke_state]; exact hsteps.trans h⟩
theorem vx_runSW {y : MethodName} {bytes cc : ByteArray} {maxL nL mc ms n index : Nat} {ret : Option FieldType} {hh : List (Nat × Nat × Nat × Nat)} {ws : List Cond} {rm : Room} {Pc : Array Value → State → Prop} {Qc : Array Value → State → Outcome → State → Prop} {free : Addr → Prop} {Ts : List Cond} {own : String} {As rest : List Value} {g : JFrame}
    (S : CallFix p m c cc nL s args Ts own) (hM : Met l y ws rm Pc Qc mc ms free) (cw : vx_CSW R s args own index y bytes maxL ret hh ws rm mc ms n) (hp : PreS s H Pc As)
    (hg : g.method = m) (hn : As.length = n) (hsize : g.locals.size = nL) (hstack : g.stack = As.reverse ++ rest) (hW : 2 * g.monitorRoom + (rest.map fun v => v.category).sum ≤ 8) (hdg : decode cc g.pc = .ok (.invokestatic index, 3)) (hf : cells + mc ≤ R.cells ∧ slots + ms ≤ R.slots) :
    va_Run p l e R s m args below meth c H locs cells slots mc ms g rest (Qc As.toArray) (free) := by
  obtain ⟨⟨hrc, hrs, hfr, hlo, hws, hcw⟩, hcode, hini, hy, hlen, hl, hstt⟩ := cw
  have hK : Back l R p e below s args y 3 8 (PreOf R mc ms Pc) (PostOf Qc mc ms free) := va_backW (hh := hh) (bytes := bytes) (maxL := maxL) (ret := ret) hM hp.1 hrc hrs hfr hlo hws hcw (fun a' U hW => word_at hW (Or.inl (by first | rfl | simp [Cond.onTables, Cond.keeps, Cond.steady])) hini)
  obtain ⟨hx, hb, hml, ho, -⟩ := S
  intro T hT X
  obtain ⟨v, vm₁, ⟨U', l2, c2, s2⟩, hW₁, X', ⟨g', mk, t, L, e1, e2, hq, h1, hL, h2, h3⟩, st⟩ := vx_callSW X hx (hh := hh) (bytes := bytes) (maxL := maxL) (ret := ret) ho hl hstt hini hcode hy hK hg (hsize.trans hml.symm) (argsL := As) (rest := rest) (fun sig h => hn.trans (hlen sig h)) hstack hW (by rw [hb]; exact hdg)
    (fun vm₁ hW₁ => ⟨hf.1, hf.2, hp.2 (T.setVm vm₁) hT hW₁⟩)
  dsimp only [Pt.U, Pt.locs, Pt.cells, Pt.slots] at X' e1 e2 h1 h2 h3 st
  subst h1; subst h2; subst h3
  exact ⟨v, (T.setVm vm₁).calling g' mk As.toArray, t, U', L, hT, X', hL, e1, e2, hq, st⟩
/-- not caught here, past rows that name other classes: it goes on to the caller -/
theorem vx_outP {p : Program} {l : Launch} {e : Env} {R : Room} {s : State} {m : MethodId} {args : Array Value} {below : List Frame} {meth : Method} {c : Code} {H : Heap} {locs : List Loc} {cells slots : Nat} {free : Addr → Prop} {ls : Array Slot} {rest : List Value} {Qc : Array Value → State → Outcome → State → Prop} {XC : String → State → State → Prop}
    {pc : Nat} {own E : String} {ce : Cell} {q : Addr} {mc ms : Nat} (hown : s.vm.findClass own = some m.cls) (hlocks : meth.locks = false)
    (hpass : ∀ z ∈ c.exceptionTable.toList, covers z pc = false ∨ (z.catchType ≠ 0 ∧ ∃ nm : String, (Cond.classLink own z.catchType nm).before args s = true ∧ va_Nc E nm s)) (hcell : H[q]? = some ce) (hv : ce.vm = .none) (hcl : s.vm.findClass E = some ce.cls)
    (hx : ∀ t : State, t.heap = H → s.vm.Alike t.vm → XC E s t) (hf : ∀ z ∈ locs, free z.base) (hc : cells ≤ mc) (hs : slots ≤ ms) :
    vx_W p l e R s m args below meth c H locs cells slots (vx_MQ below Qc XC args s mc ms free) (F0 m pc ls rest) q := by
  intro T hT X
  have hpl : e.platform.magicAccessors = ({} : Platform).magicAccessors := by rw [X.admits.platform]
  obtain ⟨vm', hW', X', st⟩ := X.outThrough hlocks q (g := F0 m pc ls rest) rfl rfl rfl (cell := ce) (by rw [hT]; exact hcell) (by rw [hv]; rfl)
    (by obtain ⟨k9, h9, -⟩ := Vm.findClass_spec hcl; exact ⟨k9, h9⟩) (fun z hz => by
      rcases hpass z hz with h | ⟨hz0, nm, hl1, hn1⟩
      · exact Or.inl h
      · obtain ⟨c6, hc6, hcl6⟩ := Cond.classLink_spec hown hl1 e.platform hpl
        obtain ⟨a8, b8, h1, h2, h3⟩ := hn1
        cases Option.some.inj (h1.symm.trans hcl)
        cases Option.some.inj (h2.symm.trans hc6)
        exact Or.inr ⟨hz0, _, hcl6, h3⟩)
  obtain ⟨g₀, hfr⟩ := X'.frames_eq
  have hcell9 : ((T.setVm vm').setFrames (.throwing q :: below)).heap[q]? = some ce := by
    show T.heap[q]? = some ce
    rw [hT]; exact hcell
  have hend : Ended ((T.setVm vm').setFrames (.throwing q :: below)) below (.threw q) := State.frames_setFrames _ (State.cur_lt_of_frames hfr)
  refine ⟨(T.setVm vm').setFrames (.throwing q :: below), ?_, .threw q, X'.here.running, hend, Or.inr ⟨q, rfl, E, ce, locs, hx _ hT (X'.ends _).1.alike, hcell9, hv, hcl, (X'.ends _).1, (X'.ends _).2.mono hc hs, hf⟩⟩
  rw [X.pushThrowing_eq]
  exact st
/-- a thing of a world lies in the heap -/
theorem vx_lt {D : va_G} {cl : List vw_C} {ws : va_W} {H1 : Heap} (h : va_P D cl ws H1) {k : Nat} {q : Nat × va_E} (hk : ws[k]? = some q) : q.1 < H1.size := (h k q hk).lt
end VXS
/-! ===== END ===== -/
/-! ===== BEGIN methods with a table of their own: called by a name, returning or throwing ===== -/
section VXH
/-! vx_backW, vx_callVX, vx_callSX, vx_callVW, vx_runVW, vx_runVX, vx_runSX, vx_ofWH follow the same proofs as their sisters above (Free/Laws.lean, Shelf42/LK1.lean); vx_outP calls Shelf42/NT130.lean (outThrough). -/
section
variable {l : Launch} {R : Room} {p : Program} {e : Env} {below : List Frame} {s : State} {sargs : Array Value} {y : MethodName} {len W9 : Nat}
theorem vx_backW {ws : List Cond} {rm : Room} {Pc : Array Value → State → Prop} {Qc : Array Value → State → Outcome → State → Prop} {XC : String → State → State → Prop} {mc ms : Nat} {free : Addr → Prop} {bytes : ByteArray} {maxL : Nat} {ret : Option FieldType} {hh : List (Nat × Nat × Nat × Nat)}
    (hM : vx_Met l y ws rm Pc Qc XC mc ms free) (hblind : FrameBlind Pc) (hrc : rm.cells = mc) (hrs : rm.slots = ms)
    (hframes : rm.frames + 1 ≤ R.frames) (hlocals : W9 + (maxL + 11) + rm.locals ≤ R.locals)
    (hws : ∀ w ∈ ws, ∀ a' U, s.WarmedH U.vm → w.before a' U = true) (hcode : Cond.codeWith y bytes maxL ret hh ∈ ws) (hinit : ∀ a' U, s.WarmedH U.vm → (Cond.initialized y.cls).before a' U = true) :
    vx_Back l R p e below s sargs y len W9 (PreOf R mc ms Pc) (PostOf Qc mc ms free) (vx_Post XC mc ms free) := by
  intro m meth c A g ig mk a X hg hsize hdg hW hn hp
  have h1 : (headSpec ws rm).pre.before a A.U = true := atoms_intro fun w hw => hws w hw _ _ X.warmed
  have h2 : (Cond.codeWith y bytes maxL ret hh).before a A.U = true := hws _ hcode _ _ X.warmed
  have h3 : (Cond.initialized y.cls).before a A.U = true := hinit _ _ X.warmed
  have h4 : A.cells + (headSpec ws rm).room.cells ≤ R.cells := by rw [show (headSpec ws rm).room.cells = mc from hrc]; exact hp.1
  have h5 : A.slots + (headSpec ws rm).room.slots ≤ R.slots := by rw [show (headSpec ws rm).room.slots = ms from hrs]; exact hp.2.1
  have hPc : Pc a (A.U.calling g mk a) := hblind _ _ _ _ hp.2.2
  obtain ⟨U, Ls, c0, s0⟩ := A
  dsimp only [Pt.U, Pt.locs, Pt.cells, Pt.slots] at h1 h2 h3 h4 h5 X hn hPc ⊢
  obtain ⟨m9, methY, cY, hn9, hmY, hcY, -, hlY, -⟩ := Cond.codeWith_spec h2
  cases Option.some.inj (hn9.symm.trans hn)
  obtain ⟨kY, hkY, -⟩ := className_of_methodNamed hn
  have hinitY : kY.init = .initialized := Cond.initialized_spec (findClass_of_methodNamed hn) hkY h3
  have h : At U g.method c below := by rw [hg]; exact X.here
  have hlocals9 : W9 + (maxL + 11) + (headSpec ws rm).room.locals ≤ R.locals := hlocals
  have happ : (headSpec ws rm).appliesLoose y e.platform (U.calling g mk a) = true :=
    Spec.appliesLoose_calling (g := g) h hdg hn hkY hinitY
      (X.room_calling (g := g) (R' := (headSpec ws rm).room) hsize hmY hcY hframes (by rw [hlY]; omega) h4 h5) h1
  obtain ⟨mid, hmid⟩ := h.above
  have hfr : (U.setTop g).frames = (.java g :: mid) ++ below := by rw [State.frames_setTop' g h.top, hmid]; rfl
  obtain ⟨o, s₂, hsteps, -, hend, hq⟩ := Steps.callFree hM p X.admits X.cas X.clock (acts := []) hfr happ hPc trivial
  have hq' : vx_Q Qc XC mc ms free a (U.calling g mk a) o s₂ := hq
  rw [State.frames_setTop' g h.top] at hend
  obtain ⟨g₀, hg0⟩ := Option.isSome_iff_exists.mp h.top
  obtain ⟨r, hr⟩ := State.topJava?_eq_some.mp hg0
  have hr' : (({ U with heap := s₂.heap, slotsUsed := s₂.slotsUsed } : State).setVm s₂.vm).frames = .java g₀ :: r := hr
  rcases hq' with ⟨hqc, L, hfe, hL⟩ | ⟨q, rfl, E, ce, L, hx, hce, hcv, hcl, hW₂, hsm, hL⟩
  · obtain ⟨⟨v, rfl⟩, hW₂, e2, q2, q3, q4, q5, q6⟩ := id hfe
    have e3 : s₂ = ({ (U.calling g mk a).setFrames s₂.frames with heap := s₂.heap, slotsUsed := s₂.slotsUsed } : State).setVm s₂.vm := by
      have : s₂ = ({ s₂ with vm := (U.calling g mk a).vm } : State).setVm s₂.vm := rfl
      rw [e2] at this
      exact this
    obtain ⟨c₂, i₂, len₂, hc₂, hd₂, hf₂⟩ := hend
    have hW' : U.WarmedH s₂.vm := hW₂
    have hcc : c₂ = c := by
      have h1 : s₂.code? g.method = U.code? g.method := by
        rw [State.code?_eq, State.code?_eq, hW'.alike.method?]
      exact Option.some.inj (hc₂.symm.trans (h1.trans h.code))
    subst hcc
    have hlen : len₂ = len := by rw [hdg] at hd₂; cases hd₂; rfl
    subst hlen
    have hs₂ : s₂ = (({ U with heap := s₂.heap, slotsUsed := s₂.slotsUsed } : State).setVm s₂.vm).setTop { g with pc := g.pc + len₂, stack := v.toList ++ g.stack } := by
      refine e3.trans ?_
      rw [hf₂, State.calling_eq h.top, State.setFrames_setFrames, State.setTop_of_frames _ hr', hr]
      rfl
    have hsame : U.sameButNew ({ U with heap := s₂.heap, slotsUsed := s₂.slotsUsed } : State) L mc ms := by
      refine ⟨?_, q2, q3, q4, q5, q6⟩
      obtain ⟨t, ht, -⟩ := State.frames_cons hr
      show ({ U with heap := s₂.heap, slotsUsed := s₂.slotsUsed } : State) = { U.setFrames U.frames with heap := s₂.heap, slotsUsed := s₂.slotsUsed }
      rw [State.setFrames_self ht]
    subst hg
    refine Or.inl ⟨v, ⟨(({ U with heap := s₂.heap, slotsUsed := s₂.slotsUsed } : State).setVm s₂.vm), Ls ++ L, c0 + mc, s0 + ms⟩,
      ⟨X.admits, X.cas, X.clock, X.frames, X.room, X.hears, X.method, X.code, (X.here.setHeapUsed s₂.heap s₂.slotsUsed).setVm hW'.alike, X.tail, State.WarmedH.trans X.warmed hW', X.limits, X.bytes, X.same.trans (hsame.setVm s.vm)⟩,
      ⟨g, mk, s₂, L, rfl, rfl, hqc, rfl, hL, rfl, rfl⟩, ?_⟩
    show Steps p.tables e below _ ((({ U with heap := s₂.heap, slotsUsed := s₂.slotsUsed } : State).setVm s₂.vm).setTop { g with pc := g.pc + len₂, stack := v.toList ++ g.stack })
    rw [← hs₂]
    exact hsteps
  · obtain ⟨e2, q2, q3, q4, q5, q6⟩ := id hsm
    have e3 : s₂ = ({ (U.calling g mk a).setFrames s₂.frames with heap := s₂.heap, slotsUsed := s₂.slotsUsed } : State).setVm s₂.vm := by
      have : s₂ = ({ s₂ with vm := (U.calling g mk a).vm } : State).setVm s₂.vm := rfl
      rw [e2] at this
      exact this
    have hf₂ : s₂.frames = .throwing q :: .java g :: U.frames.tail := hend
    have hW' : U.WarmedH s₂.vm := hW₂
    have hs₂ : s₂ = ((({ U with heap := s₂.heap, slotsUsed := s₂.slotsUsed } : State).setVm s₂.vm).setTop g).pushFrame (.throwing q) := by
      refine e3.trans ?_
      rw [hf₂, State.calling_eq h.top, State.setFrames_setFrames, State.pushFrame, State.frames_setTop _ hr', State.setTop_of_frames _ hr', State.setFrames_setFrames, hr]
      rfl
    have hsame : U.sameButNew ({ U with heap := s₂.heap, slotsUsed := s₂.slotsUsed } : State) L mc ms := by
      refine ⟨?_, q2, q3, q4, q5, q6⟩
      obtain ⟨t, ht, -⟩ := State.frames_cons hr
      show ({ U with heap := s₂.heap, slotsUsed := s₂.slotsUsed } : State) = { U.setFrames U.frames with heap := s₂.heap, slotsUsed := s₂.slotsUsed }
      rw [State.setFrames_self ht]
    subst hg
    refine Or.inr ⟨q, ⟨(({ U with heap := s₂.heap, slotsUsed := s₂.slotsUsed } : State).setVm s₂.vm), Ls ++ L, c0 + mc, s0 + ms⟩,
      ⟨X.admits, X.cas, X.clock, X.frames, X.room, X.hears, X.method, X.code, (X.here.setHeapUsed s₂.heap s₂.slotsUsed).setVm hW'.alike, X.tail, State.WarmedH.trans X.warmed hW', X.limits, X.bytes, X.same.trans (hsame.setVm s.vm)⟩,
      ⟨g, mk, s₂, L, E, ce, rfl, rfl, hx, hce, hcv, hcl, rfl, hL, rfl, rfl⟩, ?_⟩
    show Steps p.tables e below _ (((({ U with heap := s₂.heap, slotsUsed := s₂.slotsUsed } : State).setVm s₂.vm).setTop g).pushFrame (.throwing q))
    rw [← hs₂]
    exact hsteps
end
variable {p : Program} {l : Launch} {e : Env} {R : Room} {s : State} {m : MethodId} {args : Array Value} {below : List Frame} {meth : Method} {c : Code} {T : State} {H : Heap} {locs : List Loc} {cells slots : Nat}
theorem vx_callVX (X : Stand p l e R s m args below meth c T locs cells slots) (hexec : p.tables.exec = Jvm.exec) {own C : String} {index : Nat} {y : MethodName} {bytes : ByteArray} {maxL : Nat} {ret : Option FieldType} {hh : List (Nat × Nat × Nat × Nat)}
    (hown : s.vm.findClass own = some m.cls) (hlink : (Cond.methodLink own index y).before args s = true) (hinst : (Cond.instanceMethod y).before args s = true) (hsel : (Cond.selects C y y).before args s = true)
    (hcode : (Cond.codeWith y bytes maxL ret hh).before args s = true) (hy : y.cls ≠ "java/lang/invoke/MethodHandle" ∧ y.cls ≠ "java/lang/invoke/VarHandle")
    {W9 : Nat} {Pre : Pt → Array Value → Prop} {Post : Pt → Array Value → Option Value → Pt → Prop} {PostX : Pt → Array Value → Addr → Pt → Prop} (hK : vx_Back l R p e below s args y 3 W9 Pre Post PostX)
    {b : Addr} {cellB : Cell} (hcell : T.heap[b]? = some cellB) (hobj : cellB.vm.isStatics = false) (hcls : s.vm.findClass C = some cellB.cls)
    {g : JFrame} (hg : g.method = m) (hsize : g.locals.size = c.maxLocals) {argsL rest : List Value} (hlen : ∀ sig, parseMethodDescriptor y.desc = some sig → argsL.length = sig.parameters.length)
    (hstack : g.stack = argsL.reverse ++ .ref b :: rest) (hW : 2 * g.monitorRoom + (rest.map fun v => v.category).sum ≤ W9) (hdg : decode c.code g.pc = .ok (.invokevirtual index, 3))
    (hpre : ∀ vm₁, s.WarmedH vm₁ → Pre ⟨T.setVm vm₁, locs, cells, slots⟩ (Value.ref b :: argsL).toArray) :
    (∃ (v : Option Value) (vm₁ : Vm) (B : Pt), s.WarmedH vm₁ ∧ Stand p l e R s m args below meth c B.U B.locs B.cells B.slots ∧ Post ⟨T.setVm vm₁, locs, cells, slots⟩ (Value.ref b :: argsL).toArray v B ∧
      ∀ target, Steps p.tables e below (B.U.setTop { g with pc := g.pc + 3, stack := v.toList ++ rest }) target → Steps p.tables e below (T.setTop g) target) ∨
    (∃ (q : Addr) (vm₁ : Vm) (B : Pt), s.WarmedH vm₁ ∧ Stand p l e R s m args below meth c B.U B.locs B.cells B.slots ∧ PostX ⟨T.setVm vm₁, locs, cells, slots⟩ (Value.ref b :: argsL).toArray q B ∧
      Steps p.tables e below (T.setTop g) ((B.U.setTop { g with stack := rest }).pushFrame (.throwing q))) := by
  obtain ⟨mk, methM, hnamed, hmethM, hstM, habM⟩ := Cond.instanceMethod_spec hinst
  obtain ⟨m8, methM', cM, hn8, hmethM', -, -, -, -, -, -, hsigM⟩ := Cond.codeWith_spec hcode
  cases Option.some.inj (hn8.symm.trans hnamed)
  cases hmethM.symm.trans hmethM'
  obtain ⟨c2, r2, m2, q1, q2, q3, q4, kP, hkP, hkPi⟩ := Cond.selects_spec hsel
  cases hcls.symm.trans q1
  cases (State.methodFound?_of_named hnamed hy).symm.trans q2
  cases hnamed.symm.trans q3
  have hselP : selectMethod e.platform s.vm cellB.cls mk = .method mk := by rw [Launch.admits_selectMethod X.admits]; exact q4
  obtain ⟨vm₁, X₁, hstep₁⟩ := X.invokevirtual hexec hown hlink hnamed hmethM hstM hkP hkPi hy (a := b) (cell := cellB) hcell
    (fun z h => by rw [h] at hobj; cases hobj) hselP hmethM habM hkP hkPi (g := g) hg (argsL := argsL) (rest := rest) (hlen _ hsigM) hstack hdg
  rcases hK m meth c ⟨T.setVm vm₁, locs, cells, slots⟩ { g with stack := rest } (.invokevirtual index) mk (Value.ref b :: argsL).toArray X₁ hg hsize hdg hW (X₁.named hnamed) (hpre vm₁ X₁.warmed) with ⟨v, B, X', hpost, hsteps⟩ | ⟨q, B, X', hpost, hsteps⟩
  · exact Or.inl ⟨v, vm₁, B, X₁.warmed, X', hpost, fun target h => hstep₁ _ fun acts => by rw [doInvoke_state]; exact hsteps.trans h⟩
  · exact Or.inr ⟨q, vm₁, B, X₁.warmed, X', hpost, hstep₁ _ fun acts => by rw [doInvoke_state]; exact hsteps⟩
theorem vx_callSX (X : Stand p l e R s m args below meth c T locs cells slots) (hexec : p.tables.exec = Jvm.exec) {own : String} {index : Nat} {y : MethodName} {bytes : ByteArray} {maxL : Nat} {ret : Option FieldType} {hh : List (Nat × Nat × Nat × Nat)}
    (hown : s.vm.findClass own = some m.cls) (hlink : (Cond.methodLink own index y).before args s = true) (hstat : (Cond.static y).before args s = true) (hinit : (Cond.initialized y.cls).before args s = true)
    (hcode : (Cond.codeWith y bytes maxL ret hh).before args s = true) (hy : y.cls ≠ "java/lang/invoke/MethodHandle" ∧ y.cls ≠ "java/lang/invoke/VarHandle")
    {W9 : Nat} {Pre : Pt → Array Value → Prop} {Post : Pt → Array Value → Option Value → Pt → Prop} {PostX : Pt → Array Value → Addr → Pt → Prop} (hK : vx_Back l R p e below s args y 3 W9 Pre Post PostX)
    {g : JFrame} (hg : g.method = m) (hsize : g.locals.size = c.maxLocals) {argsL rest : List Value} (hlen : ∀ sig, parseMethodDescriptor y.desc = some sig → argsL.length = sig.parameters.length)
    (hstack : g.stack = argsL.reverse ++ rest) (hW : 2 * g.monitorRoom + (rest.map fun v => v.category).sum ≤ W9) (hdg : decode c.code g.pc = .ok (.invokestatic index, 3))
    (hpre : ∀ vm₁, s.WarmedH vm₁ → Pre ⟨T.setVm vm₁, locs, cells, slots⟩ argsL.toArray) :
    (∃ (v : Option Value) (vm₁ : Vm) (B : Pt), s.WarmedH vm₁ ∧ Stand p l e R s m args below meth c B.U B.locs B.cells B.slots ∧ Post ⟨T.setVm vm₁, locs, cells, slots⟩ argsL.toArray v B ∧
      ∀ target, Steps p.tables e below (B.U.setTop { g with pc := g.pc + 3, stack := v.toList ++ rest }) target → Steps p.tables e below (T.setTop g) target) ∨
    (∃ (q : Addr) (vm₁ : Vm) (B : Pt), s.WarmedH vm₁ ∧ Stand p l e R s m args below meth c B.U B.locs B.cells B.slots ∧ PostX ⟨T.setVm vm₁, locs, cells, slots⟩ argsL.toArray q B ∧
      Steps p.tables e below (T.setTop g) ((B.U.setTop { g with stack := rest }).pushFrame (.throwing q))) := by
  obtain ⟨mk, methM, cM, hnamed, hmethM, -, -, -, -, -, -, hsigM⟩ := Cond.codeWith_spec hcode
  have hstatic : methM.isStatic = true := Cond.static_spec hnamed hmethM hstat
  obtain ⟨kP, hkP, -⟩ := className_of_methodNamed hnamed
  have hinitP : kP.init = .initialized := Cond.initialized_spec (findClass_of_methodNamed hnamed) hkP hinit
  obtain ⟨vm₁, X₁, hstep₁⟩ := X.invokestatic hexec hown hlink hnamed hmethM hstatic hkP hinitP hy (g := g) hg (argsL := argsL) (rest := rest) (hlen _ hsigM) hstack hdg
  rcases hK m meth c ⟨T.setVm vm₁, locs, cells, slots⟩ { g with stack := rest } (.invokestatic index) mk argsL.toArray X₁ hg hsize hdg hW (X₁.named hnamed) (hpre vm₁ X₁.warmed) with ⟨v, B, X', hpost, hsteps⟩ | ⟨q, B, X', hpost, hsteps⟩
  · exact Or.inl ⟨v, vm₁, B, X₁.warmed, X', hpost, fun target h => hstep₁ _ fun acts => by rw [doInvoke_state]; exact hsteps.trans h⟩
  · exact Or.inr ⟨q, vm₁, B, X₁.warmed, X', hpost, hstep₁ _ fun acts => by rw [doInvoke_state]; exact hsteps⟩
theorem vx_callVW (X : Stand p l e R s m args below meth c T locs cells slots) (hexec : p.tables.exec = Jvm.exec) {own C : String} {index : Nat} {y : MethodName} {bytes : ByteArray} {maxL : Nat} {ret : Option FieldType} {hh : List (Nat × Nat × Nat × Nat)}
    (hown : s.vm.findClass own = some m.cls) (hlink : (Cond.methodLink own index y).before args s = true) (hinst : (Cond.instanceMethod y).before args s = true) (hsel : (Cond.selects C y y).before args s = true)
    (hcode : (Cond.codeWith y bytes maxL ret hh).before args s = true) (hy : y.cls ≠ "java/lang/invoke/MethodHandle" ∧ y.cls ≠ "java/lang/invoke/VarHandle")
    {W9 : Nat} {Pre : Pt → Array Value → Prop} {Post : Pt → Array Value → Option Value → Pt → Prop} (hK : Back l R p e below s args y 3 W9 Pre Post)
    {b : Addr} {cellB : Cell} (hcell : T.heap[b]? = some cellB) (hobj : cellB.vm.isStatics = false) (hcls : s.vm.findClass C = some cellB.cls)
    {g : JFrame} (hg : g.method = m) (hsize : g.locals.size = c.maxLocals) {argsL rest : List Value} (hlen : ∀ sig, parseMethodDescriptor y.desc = some sig → argsL.length = sig.parameters.length)
    (hstack : g.stack = argsL.reverse ++ .ref b :: rest) (hW : 2 * g.monitorRoom + (rest.map fun v => v.category).sum ≤ W9) (hdg : decode c.code g.pc = .ok (.invokevirtual index, 3))
    (hpre : ∀ vm₁, s.WarmedH vm₁ → Pre ⟨T.setVm vm₁, locs, cells, slots⟩ (Value.ref b :: argsL).toArray) :
    ∃ (v : Option Value) (vm₁ : Vm) (B : Pt), s.WarmedH vm₁ ∧ Stand p l e R s m args below meth c B.U B.locs B.cells B.slots ∧ Post ⟨T.setVm vm₁, locs, cells, slots⟩ (Value.ref b :: argsL).toArray v B ∧
      ∀ target, Steps p.tables e below (B.U.setTop { g with pc := g.pc + 3, stack := v.toList ++ rest }) target → Steps p.tables e below (T.setTop g) target := by
  obtain ⟨mk, methM, hnamed, hmethM, hstM, habM⟩ := Cond.instanceMethod_spec hinst
  obtain ⟨m8, methM', cM, hn8, hmethM', -, -, -, -, -, -, hsigM⟩ := Cond.codeWith_spec hcode
  cases Option.some.inj (hn8.symm.trans hnamed)
  cases hmethM.symm.trans hmethM'
  obtain ⟨c2, r2, m2, q1, q2, q3, q4, kP, hkP, hkPi⟩ := Cond.selects_spec hsel
  cases hcls.symm.trans q1
  cases (State.methodFound?_of_named hnamed hy).symm.trans q2
  cases hnamed.symm.trans q3
  have hselP : selectMethod e.platform s.vm cellB.cls mk = .method mk := by rw [Launch.admits_selectMethod X.admits]; exact q4
  obtain ⟨vm₁, X₁, hstep₁⟩ := X.invokevirtual hexec hown hlink hnamed hmethM hstM hkP hkPi hy (a := b) (cell := cellB) hcell
    (fun z h => by rw [h] at hobj; cases hobj) hselP hmethM habM hkP hkPi (g := g) hg (argsL := argsL) (rest := rest) (hlen _ hsigM) hstack hdg
  obtain ⟨v, B, X', hpost, hsteps⟩ := hK m meth c ⟨T.setVm vm₁, locs, cells, slots⟩ { g with stack := rest } (.invokevirtual index) mk (Value.ref b :: argsL).toArray X₁ hg hsize hdg hW (X₁.named hnamed) (hpre vm₁ X₁.warmed)
  exact ⟨v, vm₁, B, X₁.warmed, X', hpost, fun target h => hstep₁ _ fun acts => by rw [doInvoke_state]; exact hsteps.trans h⟩
abbrev vx_CVW (R : Room) (s : State) (args : Array Value) (own C : String) (index : Nat) (y : MethodName) (bytes : ByteArray) (maxL : Nat) (ret : Option FieldType) (hh : List (Nat × Nat × Nat × Nat)) (ws : List Cond) (rm : Room) (mc ms n : Nat) : Prop :=
  (rm.cells = mc ∧ rm.slots = ms ∧ rm.frames + 1 ≤ R.frames ∧ 8 + (maxL + 11) + rm.locals ≤ R.locals ∧ (∀ w ∈ ws, ∀ (a' : Array Value) (U : State), s.WarmedH U.vm → w.before a' U = true) ∧ Cond.codeWith y bytes maxL ret hh ∈ ws) ∧
  (Cond.codeWith y bytes maxL ret hh).before args s = true ∧ (Cond.initialized y.cls).before args s = true ∧ (y.cls ≠ "java/lang/invoke/MethodHandle" ∧ y.cls ≠ "java/lang/invoke/VarHandle") ∧
  (∀ sig, parseMethodDescriptor y.desc = some sig → n = sig.parameters.length) ∧ (Cond.methodLink own index y).before args s = true ∧ (Cond.instanceMethod y).before args s = true ∧ (Cond.selects C y y).before args s = true
theorem vx_cwVW {own C : String} {index maxL mc ms : Nat} {y : MethodName} {bytes : ByteArray} {ret : Option FieldType} {hh : List (Nat × Nat × Nat × Nat)} {Ts ws ws' : List Cond} {rm : Room} (n : Nat) (ht : ∀ w ∈ Ts, w.before args s = true) (hT : GoodIn Ts (wsV own index C y ws)) (hw : ws = Cond.codeWith y bytes maxL ret hh :: ws') (hrc : rm.cells = mc) (hrs : rm.slots = ms)
    (hd : y.cls = C ∧ y.cls ≠ "java/lang/invoke/MethodHandle" ∧ y.cls ≠ "java/lang/invoke/VarHandle" ∧ (parseMethodDescriptor y.desc).map (fun d => d.parameters.length) = some n) (hR : rm.frames + 1 ≤ R.frames ∧ 8 + (maxL + 11) + rm.locals ≤ R.locals) :
    vx_CVW R s args own C index y bytes maxL ret hh ws rm mc ms n := by
  obtain ⟨hC, hd⟩ := hd
  subst hC
  have ok : ∀ w ∈ wsV own index y.cls y ws, w.before args s = true := fun w h => ht w (hT w h).1
  have hG : GoodIn Ts ws := fun w h => hT w (by unfold wsV; exact List.mem_append_right _ h)
  have hc : Cond.codeWith y bytes maxL ret hh ∈ ws := by rw [hw]; exact List.mem_cons_self
  refine ⟨⟨hrc, hrs, hR.1, hR.2, pay_in ht hG, hc⟩, ht _ (hG _ hc).1, ok _ (by simp [wsV]), ⟨hd.1, hd.2.1⟩, fun sig h => ?_, ok _ (by simp [wsV]), ok _ (by simp [wsV]), ok _ (by simp [wsV])⟩
  have h2 := hd.2.2
  rw [h] at h2
  exact (Option.some.inj h2).symm
theorem vx_runVW {y : MethodName} {bytes cc : ByteArray} {maxL nL mc ms n index : Nat} {ret : Option FieldType} {hh : List (Nat × Nat × Nat × Nat)} {ws : List Cond} {rm : Room} {Pc : Array Value → State → Prop} {Qc : Array Value → State → Outcome → State → Prop} {free : Addr → Prop} {Ts : List Cond} {own C : String} {b : Addr} {As rest : List Value} {g : JFrame}
    (S : CallFix p m c cc nL s args Ts own) (hM : Met l y ws rm Pc Qc mc ms free) (cw : vx_CVW R s args own C index y bytes maxL ret hh ws rm mc ms n) (hp : PreV s H C b Pc As)
    (hg : g.method = m) (hn : As.length = n) (hsize : g.locals.size = nL) (hstack : g.stack = As.reverse ++ .ref b :: rest) (hW : 2 * g.monitorRoom + (rest.map fun v => v.category).sum ≤ 8) (hdg : decode cc g.pc = .ok (.invokevirtual index, 3)) (hf : cells + mc ≤ R.cells ∧ slots + ms ≤ R.slots) :
    va_Run p l e R s m args below meth c H locs cells slots mc ms g rest (Qc (Value.ref b :: As).toArray) free := by
  obtain ⟨⟨hrc, hrs, hfr, hlo, hws, hcw⟩, hcode, hini, hy, hlen, hl, hin, hse⟩ := cw
  have hK : Back l R p e below s args y 3 8 (PreOf R mc ms Pc) (PostOf Qc mc ms free) := va_backW (hh := hh) (bytes := bytes) (maxL := maxL) (ret := ret) hM hp.1 hrc hrs hfr hlo hws hcw (fun a' U hW => word_at hW (Or.inl (by first | rfl | simp [Cond.onTables, Cond.keeps, Cond.steady])) hini)
  obtain ⟨hx, hb, hml, ho, -⟩ := S
  obtain ⟨-, ⟨cellB, hcB, hoB, hclB⟩, hPc⟩ := hp
  intro T hT X
  obtain ⟨v, vm₁, ⟨U', l2, c2, s2⟩, hW₁, X', ⟨g', mk, t, L, e1, e2, hq, h1, hL, h2, h3⟩, st⟩ := vx_callVW X hx (C := C) (hh := hh) (bytes := bytes) (maxL := maxL) (ret := ret) ho hl hin hse hcode hy hK (by rw [hT]; exact hcB) hoB hclB hg (hsize.trans hml.symm) (argsL := As) (rest := rest) (fun sig h => hn.trans (hlen sig h)) hstack hW (by rw [hb]; exact hdg)
    (fun vm₁ hW₁ => ⟨hf.1, hf.2, hPc (T.setVm vm₁) hT hW₁⟩)
  dsimp only [Pt.U, Pt.locs, Pt.cells, Pt.slots] at X' e1 e2 h1 h2 h3 st
  subst h1; subst h2; subst h3
  exact ⟨v, (T.setVm vm₁).calling g' mk (Value.ref b :: As).toArray, t, U', L, hT, X', hL, e1, e2, hq, st⟩
section
variable {y : MethodName} {bytes cc : ByteArray} {maxL nL mc ms n index : Nat} {ret : Option FieldType} {ws : List Cond} {rm : Room} {Pc : Array Value → State → Prop} {Qc : Array Value → State → Outcome → State → Prop} {XC : String → State → State → Prop} {free : Addr → Prop} {Ts : List Cond} {own C : String} {b : Addr} {As rest : List Value} {g : JFrame}
theorem vx_runVX {hh : List (Nat × Nat × Nat × Nat)} (S : CallFix p m c cc nL s args Ts own) (hM : vx_Met l y ws rm Pc Qc XC mc ms free) (cw : vx_CVW R s args own C index y bytes maxL ret hh ws rm mc ms n) (hp : PreV s H C b Pc As)
    (hg : g.method = m) (hn : As.length = n) (hsize : g.locals.size = nL) (hstack : g.stack = As.reverse ++ .ref b :: rest) (hW : 2 * g.monitorRoom + (rest.map fun v => v.category).sum ≤ 8) (hdg : decode cc g.pc = .ok (.invokevirtual index, 3)) (hf : cells + mc ≤ R.cells ∧ slots + ms ≤ R.slots) :
    vx_Run p l e R s m args below meth c H locs cells slots mc ms g rest (Qc (Value.ref b :: As).toArray) XC free := by
  obtain ⟨⟨hrc, hrs, hfr, hlo, hws, hcw⟩, hcode, hini, hy, hlen, hl, hin, hse⟩ := cw
  have hK : vx_Back l R p e below s args y 3 8 (PreOf R mc ms Pc) (PostOf Qc mc ms free) (vx_Post XC mc ms free) := vx_backW (hh := hh) (bytes := bytes) (maxL := maxL) (ret := ret) hM hp.1 hrc hrs hfr hlo hws hcw (fun a' U hW => word_at hW (Or.inl (by first | rfl | simp [Cond.onTables, Cond.keeps, Cond.steady])) hini)
  obtain ⟨hx, hb, hml, ho, -⟩ := S
  obtain ⟨-, ⟨cellB, hcB, hoB, hclB⟩, hPc⟩ := hp
  intro T hT X
  rcases vx_callVX X hx (C := C) (hh := hh) (bytes := bytes) (maxL := maxL) (ret := ret) ho hl hin hse hcode hy hK (by rw [hT]; exact hcB) hoB hclB hg (hsize.trans hml.symm) (argsL := As) (rest := rest) (fun sig h => hn.trans (hlen sig h)) hstack hW (by rw [hb]; exact hdg)
    (fun vm₁ hW₁ => ⟨hf.1, hf.2, hPc (T.setVm vm₁) hT hW₁⟩) with ⟨v, vm₁, ⟨U', l2, c2, s2⟩, hW₁, X', ⟨g', mk, t, L, e1, e2, hq, h1, hL, h2, h3⟩, st⟩ | ⟨q, vm₁, ⟨U', l2, c2, s2⟩, hW₁, X', ⟨g', mk, t, L, E, ce, e1, e2, hq, hce, hcv, hcl, h1, hL, h2, h3⟩, st⟩
  · dsimp only [Pt.U, Pt.locs, Pt.cells, Pt.slots] at X' e1 e2 h1 h2 h3 st
    subst h1; subst h2; subst h3
    exact Or.inl ⟨v, (T.setVm vm₁).calling g' mk (Value.ref b :: As).toArray, t, U', L, hT, X', hL, e1, e2, hq, st⟩
  · dsimp only [Pt.U, Pt.locs, Pt.cells, Pt.slots] at X' e1 e2 h1 h2 h3 st hcl
    subst h1; subst h2; subst h3
    exact Or.inr ⟨q, (T.setVm vm₁).calling g' mk (Value.ref b :: As).toArray, t, U', L, E, ce, hT, X', hL, e1, e2, hq, hce, hcv, vx_cls hW₁ hcl, st⟩
theorem vx_runSX {hh : List (Nat × Nat × Nat × Nat)} (S : CallFix p m c cc nL s args Ts own) (hM : vx_Met l y ws rm Pc Qc XC mc ms free) (cw : vx_CSW R s args own index y bytes maxL ret hh ws rm mc ms n) (hp : PreS s H Pc As)
    (hg : g.method = m) (hn : As.length = n) (hsize : g.locals.size = nL) (hstack : g.stack = As.reverse ++ rest) (hW : 2 * g.monitorRoom + (rest.map fun v => v.category).sum ≤ 8) (hdg : decode cc g.pc = .ok (.invokestatic index, 3)) (hf : cells + mc ≤ R.cells ∧ slots + ms ≤ R.slots) :
    vx_Run p l e R s m args below meth c H locs cells slots mc ms g rest (Qc As.toArray) XC free := by
  obtain ⟨⟨hrc, hrs, hfr, hlo, hws, hcw⟩, hcode, hini, hy, hlen, hl, hstt⟩ := cw
  have hK : vx_Back l R p e below s args y 3 8 (PreOf R mc ms Pc) (PostOf Qc mc ms free) (vx_Post XC mc ms free) := vx_backW (hh := hh) (bytes := bytes) (maxL := maxL) (ret := ret) hM hp.1 hrc hrs hfr hlo hws hcw (fun a' U hW => word_at hW (Or.inl (by first | rfl | simp [Cond.onTables, Cond.keeps, Cond.steady])) hini)
  obtain ⟨hx, hb, hml, ho, -⟩ := S
  intro T hT X
  rcases vx_callSX X hx (hh := hh) (bytes := bytes) (maxL := maxL) (ret := ret) ho hl hstt hini hcode hy hK hg (hsize.trans hml.symm) (argsL := As) (rest := rest) (fun sig h => hn.trans (hlen sig h)) hstack hW (by rw [hb]; exact hdg)
    (fun vm₁ hW₁ => ⟨hf.1, hf.2, hp.2 (T.setVm vm₁) hT hW₁⟩) with ⟨v, vm₁, ⟨U', l2, c2, s2⟩, hW₁, X', ⟨g', mk, t, L, e1, e2, hq, h1, hL, h2, h3⟩, st⟩ | ⟨q, vm₁, ⟨U', l2, c2, s2⟩, hW₁, X', ⟨g', mk, t, L, E, ce, e1, e2, hq, hce, hcv, hcl, h1, hL, h2, h3⟩, st⟩
  · dsimp only [Pt.U, Pt.locs, Pt.cells, Pt.slots] at X' e1 e2 h1 h2 h3 st
    subst h1; subst h2; subst h3
    exact Or.inl ⟨v, (T.setVm vm₁).calling g' mk As.toArray, t, U', L, hT, X', hL, e1, e2, hq, st⟩
  · dsimp only [Pt.U, Pt.locs, Pt.cells, Pt.slots] at X' e1 e2 h1 h2 h3 st hcl
    subst h1; subst h2; subst h3
    exact Or.inr ⟨q, (T.setVm vm₁).calling g' mk As.toArray, t, U', L, E, ce, hT, X', hL, e1, e2, hq, hce, hcv, vx_cls hW₁ hcl, st⟩
end
end VXH
theorem vx_ofWH {l : Launch} {y : MethodName} {ws ws' : List Cond} {rm : Room} {Pc : Array Value → State → Prop} {Qc : Array Value → State → Outcome → State → Prop} {XC : String → State → State → Prop} {mc ms : Nat} {free : Addr → Prop} {cc : ByteArray} {maxL : Nat} {ret : Option FieldType} {hh : List (Nat × Nat × Nat × Nat)}
    (hy : plainName y.cls = true) (hw : ws = Cond.codeWith y cc maxL ret hh :: ws')
    (body : ∀ p e s m args below meth c s₁, BodyLoose p l y (headSpec ws rm) cc maxL ret e s m args below meth c s₁ → c.maxLocals = maxL → Pc args s →
      W p l e (headSpec ws rm).room s m args below meth c s.heap [] 0 0 (vx_MQ below Qc XC args s mc ms free) (entryFrame m args maxL)) : vx_Met l y ws rm Pc Qc XC mc ms free := by
  refine MetFree.of_bodyS (code := cc) (maxLocals := maxL) (ret := ret) hy ?_ ?_
  · intro args s m h hn
    obtain ⟨m9, meth, c, hn9, h1, h2, h3, h4, -, h5, h6, -⟩ := Cond.codeWith_spec (atoms_spec (ws := ws) h _ (by rw [hw]; exact List.mem_cons_self))
    cases hn.symm.trans hn9
    exact ⟨meth, c, h1, h2, h3, h4, h5, h6⟩
  · intro p e s m args below meth c s₁ B hml hP _
    have hh0 : s₁.heap = s.heap := by rw [B.state]; rfl
    obtain ⟨t, a1, o, b1, b2, b3⟩ := body p e s m args below meth c s₁ B hml hP s₁ hh0 (Stand.of_body B)
    exact ⟨t, o, a1, b1, b2, b3⟩
/-! ===== END ===== -/

/-! ===== BEGIN printed: names, fields, word lists, decode rows ===== -/
end
section
/-! The cells of the claim: the shelf 0 .. 702, the reference 703 .. 721, the law's row 722 -/
abbrev sm_RM : String := RX2
def sm_T (cA : Nat → ClassId) : List (ClassId × FieldType) := [(cA 0, .int), (cA 1, .boolean), (cA 2, .long), (cA 3, .array .int), (cA 4, .object RX3), (cA 5, .object RX1), (cA 6, .object RX4)]
def sm_nest : Cond := .methodLinkNest RX2 20 y_S_stripesOf RX6
def sm_lo : List sm_K := [.inl (6, [true, true, true, true, true, true, true, true, false, false]), .inl (0, [true, true]), .inr (255, 0), .inr (256, 0), .inl (2, [true, true]), .inr (64, 3)]
def sm_mi : List sm_K := [.inr (5, 0), .inr (12, 4), .inr (12, 5), .inl (5, [true, true, false]), .inr (8, 0), .inr (8, 0), .inr (8, 0), .inr (240, 0), .inr (240, 0)]
def sm_hi : List sm_K := [.inl (7, [false, true, false, true, false, true, true, true, true, true, true, true, true, true, true, true, true, true, true, true, true]), .inr (240, 0), .inr (240, 0), .inr (12, 0), .inr (12, 0), .inr (12, 0), .inr (12, 0), .inr (12, 1), .inr (12, 1), .inr (12, 0), .inr (144, 0), .inr (144, 0), .inr (34560, 0), .inr (144, 0), .inr (144, 0), .inr (34560, 0), .inr (64, 0), .inr (12, 0), .inr (12, 1), .inr (1, 2)]
def sm_sh (i : Nat) : sm_K :=
  if i < 6 then sm_lo.getD i (.inr (0, 0)) else if i < 70 then .inr (8, 0) else if i < 79 then sm_mi.getD (i - 70) (.inr (0, 0)) else
  if i < 691 then (if (i - 79) % 51 = 0 then .inl (3, [false, true, true, false, false]) else if (i - 79) % 51 < 3 then .inr (12, 6) else if (i - 79) % 51 % 2 = 1 then .inl (4, [false, false, true]) else .inr (64, 0)) else
  if i < 703 then .inl (1, [false, false, false, false, false]) else sm_hi.getD (i - 703) (.inr (0, 0))
def sm_rf (w : Nat → Nat → Nat) (i j : Nat) : Option Nat :=
  if i < 6 then (if i = 0 then [some 1, some 4, some 71, some 72, some 73, some 76, some 77, some 78].getD j none else if i = 1 then [some 2, some 3].getD j none else if i = 4 then [some 5, some 70].getD j none else if i = 5 then (if j < 64 then some (6 + j) else none) else none) else
  if i < 79 then (if i = 71 then (if j < 12 then some (79 + 51 * j) else none) else if i = 72 then (if j < 12 then some (691 + j) else none) else if i = 73 then [some 74, some 75].getD j none else none) else
  if i < 691 then (if (i - 79) % 51 = 0 then (if j = 1 then some (i + 1) else if j = 2 then some (i + 2) else none) else if (i - 79) % 51 = 1 then (if j < 12 then some (i + 2 + 4 * j + 2 * w ((i - 79) / 51) j) else none) else
    if (i - 79) % 51 = 2 then (if j < 12 then some (i + 1 + 4 * j + 2 * (1 - w ((i - 79) / 51) j)) else none) else if j = 2 then some (i + 1) else none) else
  if i = 703 then [none, some 704, none, some 705, none, some 706, some 707, some 708, some 709, some 710, some 711, some 712, some 713, some 714, some 715, some 716, some 717, some 718, some 719, some 720, some 721].getD j none else none
theorem sh_R {r : Nat} (h : r < 64) : sm_sh (6 + r) = .inr (8, 0) := by
  unfold sm_sh
  rw [if_neg (by omega), if_pos (by omega)]
theorem sh_N {n : Nat} (h : n < 12) : sm_sh (79 + 51 * n) = .inl (3, [false, true, true, false, false]) := by
  unfold sm_sh
  rw [if_neg (by omega), if_neg (by omega), if_neg (by omega), if_pos (by omega), if_pos (by omega)]
theorem sh_Ns {n : Nat} (h : n < 12) : sm_sh (80 + 51 * n) = .inr (12, 6) := by
  unfold sm_sh
  rw [if_neg (by omega), if_neg (by omega), if_neg (by omega), if_pos (by omega), if_neg (by omega), if_pos (by omega)]
theorem sh_Nh {n : Nat} (h : n < 12) : sm_sh (81 + 51 * n) = .inr (12, 6) := by
  unfold sm_sh
  rw [if_neg (by omega), if_neg (by omega), if_neg (by omega), if_pos (by omega), if_neg (by omega), if_pos (by omega)]
theorem sh_S {n o b : Nat} (h : n < 12) (h2 : o < 12) (h3 : b < 2) : sm_sh (82 + 51 * n + 4 * o + 2 * b) = .inl (4, [false, false, true]) := by
  have e : (82 + 51 * n + 4 * o + 2 * b - 79) % 51 = 3 + 4 * o + 2 * b := by rw [show 82 + 51 * n + 4 * o + 2 * b - 79 = 51 * n + (3 + 4 * o + 2 * b) by omega, Nat.mul_add_mod, Nat.mod_eq_of_lt (by omega)]
  unfold sm_sh
  rw [if_neg (by omega), if_neg (by omega), if_neg (by omega), if_pos (by omega), e, if_neg (by omega), if_neg (by omega), if_pos (by omega)]
theorem sh_Sb {n o b : Nat} (h : n < 12) (h2 : o < 12) (h3 : b < 2) : sm_sh (83 + 51 * n + 4 * o + 2 * b) = .inr (64, 0) := by
  have e : (83 + 51 * n + 4 * o + 2 * b - 79) % 51 = 4 + 4 * o + 2 * b := by rw [show 83 + 51 * n + 4 * o + 2 * b - 79 = 51 * n + (4 + 4 * o + 2 * b) by omega, Nat.mul_add_mod, Nat.mod_eq_of_lt (by omega)]
  unfold sm_sh
  rw [if_neg (by omega), if_neg (by omega), if_neg (by omega), if_pos (by omega), e, if_neg (by omega), if_neg (by omega), if_neg (by omega)]
theorem sh_I {o : Nat} (h : o < 12) : sm_sh (691 + o) = .inl (1, [false, false, false, false, false]) := by
  unfold sm_sh
  rw [if_neg (by omega), if_neg (by omega), if_neg (by omega), if_neg (by omega), if_pos (by omega)]
section
variable {w : Nat → Nat → Nat}
theorem rf_rows {j : Nat} (h : j < 64) : sm_rf w 5 j = some (6 + j) := by
  show (if j < 64 then some (6 + j) else none) = _
  rw [if_pos h]
theorem rf_nodes {j : Nat} (h : j < 12) : sm_rf w 71 j = some (79 + 51 * j) := by
  show (if j < 12 then some (79 + 51 * j) else none) = _
  rw [if_pos h]
theorem rf_items {j : Nat} (h : j < 12) : sm_rf w 72 j = some (691 + j) := by
  show (if j < 12 then some (691 + j) else none) = _
  rw [if_pos h]
theorem rf_N1 {n : Nat} (h : n < 12) : sm_rf w (79 + 51 * n) 1 = some (80 + 51 * n) := by
  unfold sm_rf
  rw [if_neg (by omega), if_neg (by omega), if_pos (by omega), if_pos (by omega), if_pos rfl]
  congr 1
  omega
theorem rf_N2 {n : Nat} (h : n < 12) : sm_rf w (79 + 51 * n) 2 = some (81 + 51 * n) := by
  unfold sm_rf
  rw [if_neg (by omega), if_neg (by omega), if_pos (by omega), if_pos (by omega), if_neg (by omega), if_pos rfl]
  congr 1
  omega
theorem rf_Ns {n o : Nat} (h : n < 12) (h2 : o < 12) : sm_rf w (80 + 51 * n) o = some (82 + 51 * n + 4 * o + 2 * w n o) := by
  unfold sm_rf
  rw [if_neg (by omega), if_neg (by omega), if_pos (by omega), if_neg (by omega), if_pos (by omega), if_pos h2, show (80 + 51 * n - 79) / 51 = n by omega]
  congr 1
  omega
theorem rf_Nh {n o : Nat} (h : n < 12) (h2 : o < 12) : sm_rf w (81 + 51 * n) o = some (82 + 51 * n + 4 * o + 2 * (1 - w n o)) := by
  unfold sm_rf
  rw [if_neg (by omega), if_neg (by omega), if_pos (by omega), if_neg (by omega), if_neg (by omega), if_pos (by omega), if_pos h2, show (81 + 51 * n - 79) / 51 = n by omega]
  congr 1
  omega
theorem rf_S2 {n o b : Nat} (h : n < 12) (h2 : o < 12) (h3 : b < 2) : sm_rf w (82 + 51 * n + 4 * o + 2 * b) 2 = some (83 + 51 * n + 4 * o + 2 * b) := by
  unfold sm_rf
  rw [if_neg (by omega), if_neg (by omega), if_pos (by omega), if_neg (by omega), if_neg (by omega), if_neg (by omega), if_pos rfl]
  congr 1
  omega
end
end
section
/-! A method's frame over the store: what its rows need (sm_C), where it stands (sm_G), its contract (sm_met) -/
abbrev sm_Ω : Type := va_G × Nat × (Nat → ClassId) × Nat × Nat
abbrev sm_Γ : Type := Program × Launch × Env × Room × State × MethodId × Array Value × List Frame × Method × Code × (State → Prop)
abbrev sm_p (Γ : sm_Γ) : Program := Γ.1
abbrev sm_la (Γ : sm_Γ) : Launch := Γ.2.1
abbrev sm_e (Γ : sm_Γ) : Env := Γ.2.2.1
abbrev sm_rm (Γ : sm_Γ) : Room := Γ.2.2.2.1
abbrev sm_s (Γ : sm_Γ) : State := Γ.2.2.2.2.1
abbrev sm_m (Γ : sm_Γ) : MethodId := Γ.2.2.2.2.2.1
abbrev sm_ar (Γ : sm_Γ) : Array Value := Γ.2.2.2.2.2.2.1
abbrev sm_bl (Γ : sm_Γ) : List Frame := Γ.2.2.2.2.2.2.2.1
abbrev sm_me (Γ : sm_Γ) : Method := Γ.2.2.2.2.2.2.2.2.1
abbrev sm_c (Γ : sm_Γ) : Code := Γ.2.2.2.2.2.2.2.2.2.1
abbrev sm_q (Γ : sm_Γ) : State → Prop := Γ.2.2.2.2.2.2.2.2.2.2
abbrev sm_w (Γ : sm_Γ) (H : Heap) (locs : List Loc) (cs sl : Nat) (g : JFrame) : Prop := W (sm_p Γ) (sm_la Γ) (sm_e Γ) (sm_rm Γ) (sm_s Γ) (sm_m Γ) (sm_ar Γ) (sm_bl Γ) (sm_me Γ) (sm_c Γ) H locs cs sl (sm_q Γ) g
abbrev eIO : String := "java/lang/IndexOutOfBoundsException"
abbrev eIA : String := "java/lang/IllegalArgumentException"
abbrev eIS : String := "java/lang/IllegalStateException"
abbrev eUO : String := "java/lang/UnsupportedOperationException"
abbrev eNS : String := "java/util/NoSuchElementException"
def sm_exs : List String := [eIO, eIA, eIS, eUO, eNS]
/-- what nobody writes: the two tables, and the one private member that a nest mate calls -/
def sm_S (Ω : sm_Ω) (U : State) (H : Heap) : Prop :=
  va_Z sm_RM "ROW_OF" "[I" (.ref Ω.2.2.2.1) (fun q => Ω.2.1 ≤ q) U H ∧ va_T .int Ω.2.2.2.1 30 (fun j => .int (nI (sm_row j))) (fun q => Ω.2.1 ≤ q) U H ∧
  va_Z sm_RM "COLUMN_OF" "[I" (.ref Ω.2.2.2.2) (fun q => Ω.2.1 ≤ q) U H ∧ va_T .int Ω.2.2.2.2 30 (fun j => .int (nI (sm_col j))) (fun q => Ω.2.1 ≤ q) U H ∧ va_Nw sm_nest U ∧
  vx_Zq Bundle.tN "UNASSIGNED_STACK" Bundle.steD (fun q => Ω.2.1 ≤ q) U H ∧ vx_Zq Bundle.tN "SUPPRESSED_SENTINEL" Bundle.listD (fun q => Ω.2.1 ≤ q) U H ∧ va_Nw (.declares (Bundle.init0 "java/lang/RuntimeException")) U ∧ va_Nw (.declares (Bundle.init0 "java/lang/Exception")) U ∧ va_Nw (.declares (Bundle.init0 Bundle.tN)) U ∧ ∀ E ∈ sm_exs, va_Nw (.castable E E) U
theorem sm_S.to {Ω : sm_Ω} {u U : State} {H H1 : Heap} (h : sm_S Ω u H) (hW : u.WarmedH U.vm) (hq : ∀ a : Nat, a < H.size → ¬ Ω.2.1 ≤ a → H1[a]? = H[a]?) : sm_S Ω U H1 :=
  ⟨(h.1.moved hW.alike).kept hq, (h.2.1.moved hW.alike).kept hq, (h.2.2.1.moved hW.alike).kept hq, (h.2.2.2.1.moved hW.alike).kept hq, va_Nw.warmM hW h.2.2.2.2.1, (h.2.2.2.2.2.1.moved hW.alike).kept hq, (h.2.2.2.2.2.2.1.moved hW.alike).kept hq, va_Nw.warmD hW h.2.2.2.2.2.2.2.1, va_Nw.warmD hW h.2.2.2.2.2.2.2.2.1, va_Nw.warmD hW h.2.2.2.2.2.2.2.2.2.1, fun E hE => va_Nw.warmC hW (h.2.2.2.2.2.2.2.2.2.2 E hE)⟩
theorem sm_S.same {Ω : sm_Ω} {u U : State} {H : Heap} (h : sm_S Ω u H) (hv : u.vm = U.vm) : sm_S Ω U H :=
  ⟨h.1.moved (hv ▸ Vm.Alike.refl u.vm), h.2.1.moved (hv ▸ Vm.Alike.refl u.vm), h.2.2.1.moved (hv ▸ Vm.Alike.refl u.vm), h.2.2.2.1.moved (hv ▸ Vm.Alike.refl u.vm), h.2.2.2.2.1.same rfl hv, h.2.2.2.2.2.1.moved (hv ▸ Vm.Alike.refl u.vm), h.2.2.2.2.2.2.1.moved (hv ▸ Vm.Alike.refl u.vm), h.2.2.2.2.2.2.2.1.same rfl hv, h.2.2.2.2.2.2.2.2.1.same rfl hv, h.2.2.2.2.2.2.2.2.2.1.same rfl hv, fun E hE => (h.2.2.2.2.2.2.2.2.2.2 E hE).same rfl hv⟩
def sm_C (Γ : sm_Γ) (Ω : sm_Ω) (cc : ByteArray) (own : String) (nL : Nat) (w0 : Cond) : Prop :=
  CallFix (sm_p Γ) (sm_m Γ) (sm_c Γ) cc nL (sm_s Γ) (sm_ar Γ) (w0 :: sm_ws) own ∧ va_K Ω.1 sm_cl (sm_T Ω.2.2.1) (sm_s Γ) ∧ Ω.2.1 ≤ (sm_s Γ).heap.size ∧ sm_S Ω (sm_s Γ) (sm_s Γ).heap ∧ (sm_me Γ).locks = false
def sm_G (Γ : sm_Γ) (Ω : sm_Ω) (M cs sl pc : Nat) (L : List (Option Value)) (st : List Value) (X : sm_X) (Y : sm_R) : Prop :=
  ∀ (ls : Array Slot) (H : Heap) (locs : List Loc), sm_L ls L → va_P Ω.1 sm_cl (sm_W Ω.2.1 Ω.2.2.1 sm_sh M X Y) H → va_S (fun q => Ω.2.1 ≤ q) (sm_s Γ).heap H locs → sm_w Γ H locs cs sl (F0 (sm_m Γ) pc ls st)
/-- the world at a method's start and end -/
def sm_B (Ω : sm_Ω) (M : Nat) (X : sm_X) (Y : sm_R) (U : State) : Prop :=
  va_P Ω.1 sm_cl (sm_W Ω.2.1 Ω.2.2.1 sm_sh M X Y) U.heap ∧ va_K Ω.1 sm_cl (sm_T Ω.2.2.1) U ∧ Ω.2.1 ≤ U.heap.size ∧ sm_S Ω U U.heap
def sm_Q (Ω : sm_Ω) (M : Nat) (post : Option Value → sm_X → sm_R → Prop) : Array Value → State → Outcome → State → Prop := fun _ st oc t =>
  (∃ (v : Option Value) (X : sm_X) (Y : sm_R), oc = .returned v ∧ post v X Y ∧ sm_B Ω M X Y t) ∧ va_F (fun q => Ω.2.1 ≤ q) st t
abbrev sm_room (d mc ms : Nat) : Room := { frames := d, cells := mc, slots := ms, locals := 30 * d }
def sm_met (l : Launch) (Ω : sm_Ω) (y : MethodName) (cc : ByteArray) (n : Nat) (ret : Option FieldType) (d M : Nat) (av : List Value) (X : sm_X) (Y : sm_R) (post : Option Value → sm_X → sm_R → Prop) : Prop :=
  Met l y (.code y cc n ret :: sm_ws) (sm_room d 0 0) (va_Pc av (sm_B Ω M X Y)) (sm_Q Ω M post) 0 0 (fun q => Ω.2.1 ≤ q)
/-- inside a method: what is known of it -/
def sm_I (Γ : sm_Γ) (Ω : sm_Ω) (l : Launch) (ret : Option FieldType) (d mc ms M : Nat) (post : Option Value → sm_X → sm_R → Prop) : Prop :=
  sm_la Γ = l ∧ sm_rm Γ = sm_room d mc ms ∧ (sm_me Γ).sig.returnType = ret ∧ sm_q Γ = MQ (sm_bl Γ) (sm_Q Ω M post) (sm_ar Γ) (sm_s Γ) mc ms (fun q => Ω.2.1 ≤ q)
theorem sm_intro {l : Launch} {Ω : sm_Ω} {y : MethodName} {cc : ByteArray} {n : Nat} {ret : Option FieldType} {d M : Nat} {av : List Value} {X : sm_X} {Y : sm_R} {post : Option Value → sm_X → sm_R → Prop} {own : String} {L : List (Option Value)}
    (hy : plainName y.cls = true) (hown : y.cls = own) (hav : ∀ v ∈ av, v.category = 1) (hn : av.length ≤ n) (hL : av.map some ++ List.replicate (n - av.length) none = L)
    (h : ∀ Γ : sm_Γ, sm_C Γ Ω cc own n (.code y cc n ret) → sm_I Γ Ω l ret d 0 0 M post → sm_G Γ Ω M 0 0 0 L [] X Y) : sm_met l Ω y cc n ret d M av X Y post := by
  subst hL
  refine Met.ofW (cc := cc) (maxL := n) (ret := ret) hy rfl ?_
  intro p e s m args below meth c s₁ B hml hv
  obtain ⟨rfl, hP, hK, hb, hS⟩ := hv
  have hown' : s.vm.findClass own = some m.cls := by rw [← hown]; exact findClass_of_methodNamed B.named
  rw [lg_entry_eq]
  exact h (p, l, e, _, s, m, _, below, meth, c, _) ⟨⟨B.exec, B.bytes, hml, hown', atoms_spec B.pre⟩, hK, hb, hS, B.notSynchronized⟩ ⟨rfl, rfl, B.returns, rfl⟩ _ _ [] (sm_L_in av hav hn) hP va_S.rf
section
variable {Γ : sm_Γ} {Ω : sm_Ω} {cc : ByteArray} {own : String} {nL : Nat} {w0 : Cond} {M cs sl pc : Nat} {L : List (Option Value)} {st : List Value} {X : sm_X} {Y : sm_R} {l : Launch} {ret : Option FieldType} {d mc ms : Nat} {post : Option Value → sm_X → sm_R → Prop}
theorem sm_B_of (C : sm_C Γ Ω cc own nL w0) {t : State} {H : Heap} {locs : List Loc} (hP : va_P Ω.1 sm_cl (sm_W Ω.2.1 Ω.2.2.1 sm_sh M X Y) H) (hS : va_S (fun q => Ω.2.1 ≤ q) (sm_s Γ).heap H locs) (ht : t.heap = H) (hW : (sm_s Γ).WarmedH t.vm) : sm_B Ω M X Y t :=
  ⟨by rw [ht]; exact hP, va_K.moved hW.alike C.2.1, by rw [ht]; exact Nat.le_trans C.2.2.1 hS.1, by rw [ht]; exact C.2.2.2.1.to hW hS.2.1⟩
theorem sg_iret (C : sm_C Γ Ω cc own nL w0) (I : sm_I Γ Ω l ret d cs sl M post) {v : Int32} {ty : FieldType} (hr : ret = some ty) (hn : narrow ty (.int v) = .int v) (hd : decode cc pc = .ok (.ireturn, 1)) (hp : post (some (.int v)) X Y) : sm_G Γ Ω M cs sl pc L [.int v] X Y := by
  intro ls H locs hL hP hS
  obtain ⟨-, -, h3, h4⟩ := I
  unfold sm_w
  rw [h4]
  exact W.zret C.1.1 C.1.2.1 (h3.trans hr) hn (fun t ht hW => ⟨⟨_, X, Y, rfl, hp, sm_B_of C hP hS ht hW⟩, hS.F ht⟩) hS.2.2 hd C.2.2.2.2
theorem sg_vret (C : sm_C Γ Ω cc own nL w0) (I : sm_I Γ Ω l ret d cs sl M post) (hr : ret = none) (hd : decode cc pc = .ok (.return_, 1)) (hp : post none X Y) : sm_G Γ Ω M cs sl pc L [] X Y := by
  intro ls H locs hL hP hS
  obtain ⟨-, -, h3, h4⟩ := I
  unfold sm_w
  rw [h4]
  exact W.vret C.1.1 C.1.2.1 (h3.trans hr) (fun t ht hW => ⟨⟨_, X, Y, rfl, hp, sm_B_of C hP hS ht hW⟩, hS.F ht⟩) hS.2.2 hd C.2.2.2.2
end
end
section
/-! whole rows anew; counting; small numbers -/
def sm_uf (X : sm_X) (c : Nat) (f : Nat → Nat) : sm_X := fun a k => if a = c then f k else X a k
theorem sm_uf_s {X : sm_X} {c k : Nat} {f : Nat → Nat} : sm_uf X c f c k = f k := if_pos rfl
theorem sm_uf_o {X : sm_X} {c a k : Nat} {f : Nat → Nat} (h : a ≠ c) : sm_uf X c f a k = X a k := if_neg h
theorem sm_uf_self {X : sm_X} {c : Nat} : sm_uf X c (X c) = X := by
  funext a k
  unfold sm_uf
  split
  · rename_i h; rw [h]
  · rfl
theorem sm_uf_up {X : sm_X} {c j v : Nat} {f : Nat → Nat} : sm_up (sm_uf X c f) c j v = sm_uf X c (fun k => if k = j then v else f k) := by
  funext a k
  unfold sm_up sm_uf
  by_cases h : a = c
  · subst h
    by_cases hk : k = j
    · simp [hk]
    · simp [hk]
  · simp [h]
theorem sm_uf_uf {X : sm_X} {c : Nat} {f g : Nat → Nat} : sm_uf (sm_uf X c f) c g = sm_uf X c g := by
  funext a k
  unfold sm_uf
  split <;> rfl
theorem sm_uf_c {X : sm_X} {c : Nat} {f g : Nat → Nat} (h : ∀ k, f k = g k) : sm_uf X c f = sm_uf X c g := by
  rw [show f = g from funext h]
def sm_n (p : Nat → Bool) : Nat → Nat
  | 0 => 0
  | n + 1 => sm_n p n + (if p n = true then 1 else 0)
theorem sm_n_le (p : Nat → Bool) : ∀ n, sm_n p n ≤ n
  | 0 => Nat.le_refl 0
  | n + 1 => by
    have := sm_n_le p n
    show sm_n p n + (if p n = true then 1 else 0) ≤ n + 1
    split <;> omega
theorem sn_b {v : Nat} (h : v < 2) : narrow .boolean (.int (nI v)) = .int (nI v) := by
  rcases (by omega : v = 0 ∨ v = 1) with rfl | rfl <;> decide
theorem sn_bf {v : Nat} (h : v < 2) : fits .boolean (.int (nI v)) = true := by
  rcases (by omega : v = 0 ∨ v = 1) with rfl | rfl <;> decide
theorem nx_and (a b : Nat) : nI a &&& nI b = nI (a &&& b) := by
  apply Int32.toBitVec_inj.1
  show BitVec.ofNat 32 a &&& BitVec.ofNat 32 b = BitVec.ofNat 32 (a &&& b)
  apply BitVec.eq_of_getLsbD_eq
  intro i hi
  simp [hi]
theorem nx_xor (a b : Nat) : nI a ^^^ nI b = nI (a ^^^ b) := by
  apply Int32.toBitVec_inj.1
  show BitVec.ofNat 32 a ^^^ BitVec.ofNat 32 b = BitVec.ofNat 32 (a ^^^ b)
  apply BitVec.eq_of_getLsbD_eq
  intro i hi
  simp [hi]
theorem nx_or (a b : Nat) : nI a ||| nI b = nI (a ||| b) := by
  apply Int32.toBitVec_inj.1
  show BitVec.ofNat 32 a ||| BitVec.ofNat 32 b = BitVec.ofNat 32 (a ||| b)
  apply BitVec.eq_of_getLsbD_eq
  intro i hi
  simp [hi]
/-- a number behind a step down -/
theorem sn_m1 (a : Nat) : nI (a + 1) + (-1) = nI a := pk_m1 a
/-! words of fields: reading, writing; small numbers -/
def sm_fw (own : String) (index ci k : Nat) : Prop := ∃ (Cn : String) (T : u_T) (N : Nat), sm_cl[ci]? = some (Cn, T, N) ∧ (∀ w ∈ u_ws Cn T N, w ∈ sm_ws) ∧ k < N ∧ Cond.fieldLink own index (T k).1 (T k).2.1 (T k).2.2.1 ∈ sm_ws
def sm_pw (own : String) (index ci k : Nat) (ty : FieldType) : Prop := ∃ (Cn : String) (T : u_T) (N : Nat) (ty0 : Nat → FieldType), sm_cl[ci]? = some (Cn, T, N) ∧ (∀ w ∈ u_ws Cn T N, w ∈ sm_ws) ∧ k < N ∧ Cond.fieldLink own index (T k).1 (T k).2.1 (T k).2.2.1 ∈ sm_ws ∧
  (∀ k, k < N → parseFieldDescriptor (T k).2.2.1 = some (ty0 k)) ∧ (∀ a, a < N → ∀ b, b < N → a ≠ b → (T a).2.1 ≠ (T b).2.1) ∧ (T k).2.2.2 = false ∧ parseFieldDescriptor (T k).2.2.1 = some ty
theorem sn_0 {a : Nat} (ha : a < 2 ^ 31) : nI a = 0 ↔ a = 0 := nI_eq ha (by decide)
theorem sn_p {a : Nat} (ha : a < 2 ^ 31) : 0 < nI a ↔ 0 < a := nI_ltI (by decide) ha
theorem sn_np {a : Nat} (ha : a < 2 ^ 31) : ¬ 0 < nI a ↔ a = 0 := by rw [sn_p ha]; omega
theorem sn_l {a : Nat} (ha : a < 2 ^ 31) : nI a ≤ 0 ↔ a = 0 := by
  rw [show (0 : Int32) = nI 0 from rfl, nI_leI ha (by decide)]
  omega
theorem sn_nl {a : Nat} (ha : a < 2 ^ 31) : ¬ nI a ≤ 0 ↔ 0 < a := by rw [sn_l ha]; omega
/-! one instruction, one row -/
section
variable {Γ : sm_Γ} {Ω : sm_Ω} {cc : ByteArray} {own : String} {nL : Nat} {w0 : Cond} {M cs sl pc : Nat} {L r : List (Option Value)} {st : List Value} {X : sm_X} {Y : sm_R}
theorem sg_ic (C : sm_C Γ Ω cc own nL w0) {v : Nat} {n : Int} (hd : decode cc pc = .ok (.iconst n, 1)) (hv : Int32.ofInt n = nI v) (kk : sm_G Γ Ω M cs sl (pc + 1) L (.int (nI v) :: st) X Y) : sm_G Γ Ω M cs sl pc L st X Y := by
  intro ls H locs hL hP hS
  exact lv_iconst C.1.1 C.1.2.1 hd hv (kk ls H locs hL hP hS)
theorem sg_icm (C : sm_C Γ Ω cc own nL w0) {v : Int32} {n : Int} (hd : decode cc pc = .ok (.iconst n, 1)) (hv : Int32.ofInt n = v) (kk : sm_G Γ Ω M cs sl (pc + 1) L (.int v :: st) X Y) : sm_G Γ Ω M cs sl pc L st X Y := by
  intro ls H locs hL hP hS
  exact lv_iconst C.1.1 C.1.2.1 hd hv (kk ls H locs hL hP hS)
theorem sg_bi (C : sm_C Γ Ω cc own nL w0) {v : Nat} {n : Int} (hd : decode cc pc = .ok (.bipush n, 2)) (hv : (Int8.ofInt n).toInt32 = nI v) (kk : sm_G Γ Ω M cs sl (pc + 2) L (.int (nI v) :: st) X Y) : sm_G Γ Ω M cs sl pc L st X Y := by
  intro ls H locs hL hP hS
  exact lv_bipush C.1.1 C.1.2.1 hd hv (kk ls H locs hL hP hS)
theorem sg_si (C : sm_C Γ Ω cc own nL w0) {v : Nat} {n : Int} (hd : decode cc pc = .ok (.sipush n, 3)) (hv : (Int16.ofInt n).toInt32 = nI v) (kk : sm_G Γ Ω M cs sl (pc + 3) L (.int (nI v) :: st) X Y) : sm_G Γ Ω M cs sl pc L st X Y := by
  intro ls H locs hL hP hS
  exact lv_sipush C.1.1 C.1.2.1 hd hv (kk ls H locs hL hP hS)
theorem sg_sim (C : sm_C Γ Ω cc own nL w0) {v : Int32} {n : Int} (hd : decode cc pc = .ok (.sipush n, 3)) (hv : (Int16.ofInt n).toInt32 = v) (kk : sm_G Γ Ω M cs sl (pc + 3) L (.int v :: st) X Y) : sm_G Γ Ω M cs sl pc L st X Y := by
  intro ls H locs hL hP hS
  exact lv_sipush C.1.1 C.1.2.1 hd hv (kk ls H locs hL hP hS)
theorem sg_iln (C : sm_C Γ Ω cc own nL w0) {k : Fin 4} {x : Int32} (hd : decode cc pc = .ok (.iload_n k, 1)) (hl : L[(k : Nat)]? = some (some (.int x))) (kk : sm_G Γ Ω M cs sl (pc + 1) L (.int x :: st) X Y) : sm_G Γ Ω M cs sl pc L st X Y := by
  intro ls H locs hL hP hS
  exact lv_iload_n C.1.1 C.1.2.1 hd rfl (hL.at hl) (kk ls H locs hL hP hS)
theorem sg_il (C : sm_C Γ Ω cc own nL w0) {k : Nat} {x : Int32} (hd : decode cc pc = .ok (.iload k, 2)) (hl : L[k]? = some (some (.int x))) (kk : sm_G Γ Ω M cs sl (pc + 2) L (.int x :: st) X Y) : sm_G Γ Ω M cs sl pc L st X Y := by
  intro ls H locs hL hP hS
  exact lv_iload C.1.1 C.1.2.1 hd (hL.at hl) (kk ls H locs hL hP hS)
theorem sg_isn (C : sm_C Γ Ω cc own nL w0) {k : Fin 4} {x : Int32} (hd : decode cc pc = .ok (.istore_n k, 1)) (hk : (k : Nat) < L.length) (kk : sm_G Γ Ω M cs sl (pc + 1) (L.set k (some (.int x))) st X Y) : sm_G Γ Ω M cs sl pc L (.int x :: st) X Y := by
  intro ls H locs hL hP hS
  exact lv_istore_n C.1.1 C.1.2.1 hd rfl hL.1 hk rfl (fun ls' h => kk ls' H locs (sm_L.set hL.2 rfl h) hP hS)
theorem sg_is (C : sm_C Γ Ω cc own nL w0) {k : Nat} {x : Int32} (hd : decode cc pc = .ok (.istore k, 2)) (hk : k < L.length) (kk : sm_G Γ Ω M cs sl (pc + 2) (L.set k (some (.int x))) st X Y) : sm_G Γ Ω M cs sl pc L (.int x :: st) X Y := by
  intro ls H locs hL hP hS
  exact lv_istore C.1.1 C.1.2.1 hd hL.1 hk rfl (fun ls' h => kk ls' H locs (sm_L.set hL.2 rfl h) hP hS)
theorem sg_aln (C : sm_C Γ Ω cc own nL w0) {k : Fin 4} {x : Nat} (hd : decode cc pc = .ok (.aload_n k, 1)) (hl : L[(k : Nat)]? = some (some (.ref x))) (kk : sm_G Γ Ω M cs sl (pc + 1) L (.ref x :: st) X Y) : sm_G Γ Ω M cs sl pc L st X Y := by
  intro ls H locs hL hP hS
  exact lv_aload_n C.1.1 C.1.2.1 hd rfl (hL.at hl) (kk ls H locs hL hP hS)
theorem sg_al (C : sm_C Γ Ω cc own nL w0) {k : Nat} {x : Nat} (hd : decode cc pc = .ok (.aload k, 2)) (hl : L[k]? = some (some (.ref x))) (kk : sm_G Γ Ω M cs sl (pc + 2) L (.ref x :: st) X Y) : sm_G Γ Ω M cs sl pc L st X Y := by
  intro ls H locs hL hP hS
  exact lv_aload C.1.1 C.1.2.1 hd (hL.at hl) (kk ls H locs hL hP hS)
theorem sg_asn (C : sm_C Γ Ω cc own nL w0) {k : Fin 4} {x : Nat} (hd : decode cc pc = .ok (.astore_n k, 1)) (hk : (k : Nat) < L.length) (kk : sm_G Γ Ω M cs sl (pc + 1) (L.set k (some (.ref x))) st X Y) : sm_G Γ Ω M cs sl pc L (.ref x :: st) X Y := by
  intro ls H locs hL hP hS
  exact lv_astore_n C.1.1 C.1.2.1 hd rfl hL.1 hk rfl (fun ls' h => kk ls' H locs (sm_L.set hL.2 rfl h) hP hS)
theorem sg_as (C : sm_C Γ Ω cc own nL w0) {k : Nat} {x : Nat} (hd : decode cc pc = .ok (.astore k, 2)) (hk : k < L.length) (kk : sm_G Γ Ω M cs sl (pc + 2) (L.set k (some (.ref x))) st X Y) : sm_G Γ Ω M cs sl pc L (.ref x :: st) X Y := by
  intro ls H locs hL hP hS
  exact lv_astore C.1.1 C.1.2.1 hd hL.1 hk rfl (fun ls' h => kk ls' H locs (sm_L.set hL.2 rfl h) hP hS)
theorem sm_l_pl {v : Value} : ∀ (L : List (Option Value)) (i k : Nat), L[k]? = some (some v) → ∃ j : Nat, (sm_l i L)[j]? = some (i + k, v) := by
  intro L i k h
  obtain ⟨j, hj, e⟩ := List.mem_iff_getElem.mp (sm_l_in L i k h)
  exact ⟨j, by rw [List.getElem?_eq_getElem hj, e]⟩
theorem sg_inc (C : sm_C Γ Ω cc own nL w0) {k : Nat} {n : Int} {x v : Int32} (hd : decode cc pc = .ok (.iinc k n, 3)) (hl : L[k]? = some (some (.int x))) (hv : x + Int32.ofInt n = v) (kk : sm_G Γ Ω M cs sl (pc + 3) (L.set k (some (.int v))) st X Y) : sm_G Γ Ω M cs sl pc L st X Y := by
  intro ls H locs hL hP hS
  obtain ⟨j, hj⟩ := sm_l_pl L 0 k hl
  rw [Nat.zero_add] at hj
  exact lv_iinc C.1.1 C.1.2.1 hd hL.1 hj hv (List.getElem?_eq_some_iff.mp hl).1 rfl (fun ls' h => kk ls' H locs (sm_L.set hL.2 rfl h) hP hS)
theorem sg_is0 (C : sm_C Γ Ω cc own nL w0) {u0 : Option Value} {x : Int32} (hd : decode cc pc = .ok (.istore_n 0, 1)) (kk : sm_G Γ Ω M cs sl (pc + 1) (some (.int x) :: r) st X Y) : sm_G Γ Ω M cs sl pc (u0 :: r) (.int x :: st) X Y := by
  exact sg_isn C hd (by show 0 < List.length _; simp only [List.length_cons]; omega) kk
theorem sg_as0 (C : sm_C Γ Ω cc own nL w0) {u0 : Option Value} {x : Nat} (hd : decode cc pc = .ok (.astore_n 0, 1)) (kk : sm_G Γ Ω M cs sl (pc + 1) (some (.ref x) :: r) st X Y) : sm_G Γ Ω M cs sl pc (u0 :: r) (.ref x :: st) X Y := by
  exact sg_asn C hd (by show 0 < List.length _; simp only [List.length_cons]; omega) kk
theorem sg_inc0 (C : sm_C Γ Ω cc own nL w0)  {a n : Nat} {m : Int} (hd : decode cc pc = .ok (.iinc 0 m, 3)) (hm : Int32.ofInt m = nI n) (kk : sm_G Γ Ω M cs sl (pc + 3) (some (.int (nI (a + n))) :: r) st X Y) : sm_G Γ Ω M cs sl pc (some (.int (nI a)) :: r) st X Y := by
  exact sg_inc C hd rfl (by rw [hm, nI_add]) kk
theorem sg_dec0 (C : sm_C Γ Ω cc own nL w0)  {x : Int32} (hd : decode cc pc = .ok (.iinc 0 (-1), 3)) (kk : sm_G Γ Ω M cs sl (pc + 3) (some (.int (x + (-1))) :: r) st X Y) : sm_G Γ Ω M cs sl pc (some (.int x) :: r) st X Y := by
  exact sg_inc C hd rfl rfl kk
theorem sg_is1 (C : sm_C Γ Ω cc own nL w0) {u0 u1 : Option Value} {x : Int32} (hd : decode cc pc = .ok (.istore_n 1, 1)) (kk : sm_G Γ Ω M cs sl (pc + 1) (u0 :: some (.int x) :: r) st X Y) : sm_G Γ Ω M cs sl pc (u0 :: u1 :: r) (.int x :: st) X Y := by
  exact sg_isn C hd (by show 1 < List.length _; simp only [List.length_cons]; omega) kk
theorem sg_as1 (C : sm_C Γ Ω cc own nL w0) {u0 u1 : Option Value} {x : Nat} (hd : decode cc pc = .ok (.astore_n 1, 1)) (kk : sm_G Γ Ω M cs sl (pc + 1) (u0 :: some (.ref x) :: r) st X Y) : sm_G Γ Ω M cs sl pc (u0 :: u1 :: r) (.ref x :: st) X Y := by
  exact sg_asn C hd (by show 1 < List.length _; simp only [List.length_cons]; omega) kk
theorem sg_inc1 (C : sm_C Γ Ω cc own nL w0) {u0 : Option Value} {a n : Nat} {m : Int} (hd : decode cc pc = .ok (.iinc 1 m, 3)) (hm : Int32.ofInt m = nI n) (kk : sm_G Γ Ω M cs sl (pc + 3) (u0 :: some (.int (nI (a + n))) :: r) st X Y) : sm_G Γ Ω M cs sl pc (u0 :: some (.int (nI a)) :: r) st X Y := by
  exact sg_inc C hd rfl (by rw [hm, nI_add]) kk
theorem sg_dec1 (C : sm_C Γ Ω cc own nL w0) {u0 : Option Value} {x : Int32} (hd : decode cc pc = .ok (.iinc 1 (-1), 3)) (kk : sm_G Γ Ω M cs sl (pc + 3) (u0 :: some (.int (x + (-1))) :: r) st X Y) : sm_G Γ Ω M cs sl pc (u0 :: some (.int x) :: r) st X Y := by
  exact sg_inc C hd rfl rfl kk
theorem sg_is2 (C : sm_C Γ Ω cc own nL w0) {u0 u1 u2 : Option Value} {x : Int32} (hd : decode cc pc = .ok (.istore_n 2, 1)) (kk : sm_G Γ Ω M cs sl (pc + 1) (u0 :: u1 :: some (.int x) :: r) st X Y) : sm_G Γ Ω M cs sl pc (u0 :: u1 :: u2 :: r) (.int x :: st) X Y := by
  exact sg_isn C hd (by show 2 < List.length _; simp only [List.length_cons]; omega) kk
theorem sg_as2 (C : sm_C Γ Ω cc own nL w0) {u0 u1 u2 : Option Value} {x : Nat} (hd : decode cc pc = .ok (.astore_n 2, 1)) (kk : sm_G Γ Ω M cs sl (pc + 1) (u0 :: u1 :: some (.ref x) :: r) st X Y) : sm_G Γ Ω M cs sl pc (u0 :: u1 :: u2 :: r) (.ref x :: st) X Y := by
  exact sg_asn C hd (by show 2 < List.length _; simp only [List.length_cons]; omega) kk
theorem sg_inc2 (C : sm_C Γ Ω cc own nL w0) {u0 u1 : Option Value} {a n : Nat} {m : Int} (hd : decode cc pc = .ok (.iinc 2 m, 3)) (hm : Int32.ofInt m = nI n) (kk : sm_G Γ Ω M cs sl (pc + 3) (u0 :: u1 :: some (.int (nI (a + n))) :: r) st X Y) : sm_G Γ Ω M cs sl pc (u0 :: u1 :: some (.int (nI a)) :: r) st X Y := by
  exact sg_inc C hd rfl (by rw [hm, nI_add]) kk
theorem sg_dec2 (C : sm_C Γ Ω cc own nL w0) {u0 u1 : Option Value} {x : Int32} (hd : decode cc pc = .ok (.iinc 2 (-1), 3)) (kk : sm_G Γ Ω M cs sl (pc + 3) (u0 :: u1 :: some (.int (x + (-1))) :: r) st X Y) : sm_G Γ Ω M cs sl pc (u0 :: u1 :: some (.int x) :: r) st X Y := by
  exact sg_inc C hd rfl rfl kk
theorem sg_is3 (C : sm_C Γ Ω cc own nL w0) {u0 u1 u2 u3 : Option Value} {x : Int32} (hd : decode cc pc = .ok (.istore_n 3, 1)) (kk : sm_G Γ Ω M cs sl (pc + 1) (u0 :: u1 :: u2 :: some (.int x) :: r) st X Y) : sm_G Γ Ω M cs sl pc (u0 :: u1 :: u2 :: u3 :: r) (.int x :: st) X Y := by
  exact sg_isn C hd (by show 3 < List.length _; simp only [List.length_cons]; omega) kk
theorem sg_as3 (C : sm_C Γ Ω cc own nL w0) {u0 u1 u2 u3 : Option Value} {x : Nat} (hd : decode cc pc = .ok (.astore_n 3, 1)) (kk : sm_G Γ Ω M cs sl (pc + 1) (u0 :: u1 :: u2 :: some (.ref x) :: r) st X Y) : sm_G Γ Ω M cs sl pc (u0 :: u1 :: u2 :: u3 :: r) (.ref x :: st) X Y := by
  exact sg_asn C hd (by show 3 < List.length _; simp only [List.length_cons]; omega) kk
theorem sg_inc3 (C : sm_C Γ Ω cc own nL w0) {u0 u1 u2 : Option Value} {a n : Nat} {m : Int} (hd : decode cc pc = .ok (.iinc 3 m, 3)) (hm : Int32.ofInt m = nI n) (kk : sm_G Γ Ω M cs sl (pc + 3) (u0 :: u1 :: u2 :: some (.int (nI (a + n))) :: r) st X Y) : sm_G Γ Ω M cs sl pc (u0 :: u1 :: u2 :: some (.int (nI a)) :: r) st X Y := by
  exact sg_inc C hd rfl (by rw [hm, nI_add]) kk
theorem sg_dec3 (C : sm_C Γ Ω cc own nL w0) {u0 u1 u2 : Option Value} {x : Int32} (hd : decode cc pc = .ok (.iinc 3 (-1), 3)) (kk : sm_G Γ Ω M cs sl (pc + 3) (u0 :: u1 :: u2 :: some (.int (x + (-1))) :: r) st X Y) : sm_G Γ Ω M cs sl pc (u0 :: u1 :: u2 :: some (.int x) :: r) st X Y := by
  exact sg_inc C hd rfl rfl kk
theorem sg_is4 (C : sm_C Γ Ω cc own nL w0) {u0 u1 u2 u3 u4 : Option Value} {x : Int32} (hd : decode cc pc = .ok (.istore 4, 2)) (kk : sm_G Γ Ω M cs sl (pc + 2) (u0 :: u1 :: u2 :: u3 :: some (.int x) :: r) st X Y) : sm_G Γ Ω M cs sl pc (u0 :: u1 :: u2 :: u3 :: u4 :: r) (.int x :: st) X Y := by
  exact sg_is C hd (by show 4 < List.length _; simp only [List.length_cons]; omega) kk
theorem sg_as4 (C : sm_C Γ Ω cc own nL w0) {u0 u1 u2 u3 u4 : Option Value} {x : Nat} (hd : decode cc pc = .ok (.astore 4, 2)) (kk : sm_G Γ Ω M cs sl (pc + 2) (u0 :: u1 :: u2 :: u3 :: some (.ref x) :: r) st X Y) : sm_G Γ Ω M cs sl pc (u0 :: u1 :: u2 :: u3 :: u4 :: r) (.ref x :: st) X Y := by
  exact sg_as C hd (by show 4 < List.length _; simp only [List.length_cons]; omega) kk
theorem sg_inc4 (C : sm_C Γ Ω cc own nL w0) {u0 u1 u2 u3 : Option Value} {a n : Nat} {m : Int} (hd : decode cc pc = .ok (.iinc 4 m, 3)) (hm : Int32.ofInt m = nI n) (kk : sm_G Γ Ω M cs sl (pc + 3) (u0 :: u1 :: u2 :: u3 :: some (.int (nI (a + n))) :: r) st X Y) : sm_G Γ Ω M cs sl pc (u0 :: u1 :: u2 :: u3 :: some (.int (nI a)) :: r) st X Y := by
  exact sg_inc C hd rfl (by rw [hm, nI_add]) kk
theorem sg_dec4 (C : sm_C Γ Ω cc own nL w0) {u0 u1 u2 u3 : Option Value} {x : Int32} (hd : decode cc pc = .ok (.iinc 4 (-1), 3)) (kk : sm_G Γ Ω M cs sl (pc + 3) (u0 :: u1 :: u2 :: u3 :: some (.int (x + (-1))) :: r) st X Y) : sm_G Γ Ω M cs sl pc (u0 :: u1 :: u2 :: u3 :: some (.int x) :: r) st X Y := by
  exact sg_inc C hd rfl rfl kk
theorem sg_is5 (C : sm_C Γ Ω cc own nL w0) {u0 u1 u2 u3 u4 u5 : Option Value} {x : Int32} (hd : decode cc pc = .ok (.istore 5, 2)) (kk : sm_G Γ Ω M cs sl (pc + 2) (u0 :: u1 :: u2 :: u3 :: u4 :: some (.int x) :: r) st X Y) : sm_G Γ Ω M cs sl pc (u0 :: u1 :: u2 :: u3 :: u4 :: u5 :: r) (.int x :: st) X Y := by
  exact sg_is C hd (by show 5 < List.length _; simp only [List.length_cons]; omega) kk
theorem sg_as5 (C : sm_C Γ Ω cc own nL w0) {u0 u1 u2 u3 u4 u5 : Option Value} {x : Nat} (hd : decode cc pc = .ok (.astore 5, 2)) (kk : sm_G Γ Ω M cs sl (pc + 2) (u0 :: u1 :: u2 :: u3 :: u4 :: some (.ref x) :: r) st X Y) : sm_G Γ Ω M cs sl pc (u0 :: u1 :: u2 :: u3 :: u4 :: u5 :: r) (.ref x :: st) X Y := by
  exact sg_as C hd (by show 5 < List.length _; simp only [List.length_cons]; omega) kk
theorem sg_inc5 (C : sm_C Γ Ω cc own nL w0) {u0 u1 u2 u3 u4 : Option Value} {a n : Nat} {m : Int} (hd : decode cc pc = .ok (.iinc 5 m, 3)) (hm : Int32.ofInt m = nI n) (kk : sm_G Γ Ω M cs sl (pc + 3) (u0 :: u1 :: u2 :: u3 :: u4 :: some (.int (nI (a + n))) :: r) st X Y) : sm_G Γ Ω M cs sl pc (u0 :: u1 :: u2 :: u3 :: u4 :: some (.int (nI a)) :: r) st X Y := by
  exact sg_inc C hd rfl (by rw [hm, nI_add]) kk
theorem sg_dec5 (C : sm_C Γ Ω cc own nL w0) {u0 u1 u2 u3 u4 : Option Value} {x : Int32} (hd : decode cc pc = .ok (.iinc 5 (-1), 3)) (kk : sm_G Γ Ω M cs sl (pc + 3) (u0 :: u1 :: u2 :: u3 :: u4 :: some (.int (x + (-1))) :: r) st X Y) : sm_G Γ Ω M cs sl pc (u0 :: u1 :: u2 :: u3 :: u4 :: some (.int x) :: r) st X Y := by
  exact sg_inc C hd rfl rfl kk
theorem sg_is6 (C : sm_C Γ Ω cc own nL w0) {u0 u1 u2 u3 u4 u5 u6 : Option Value} {x : Int32} (hd : decode cc pc = .ok (.istore 6, 2)) (kk : sm_G Γ Ω M cs sl (pc + 2) (u0 :: u1 :: u2 :: u3 :: u4 :: u5 :: some (.int x) :: r) st X Y) : sm_G Γ Ω M cs sl pc (u0 :: u1 :: u2 :: u3 :: u4 :: u5 :: u6 :: r) (.int x :: st) X Y := by
  exact sg_is C hd (by show 6 < List.length _; simp only [List.length_cons]; omega) kk
theorem sg_as6 (C : sm_C Γ Ω cc own nL w0) {u0 u1 u2 u3 u4 u5 u6 : Option Value} {x : Nat} (hd : decode cc pc = .ok (.astore 6, 2)) (kk : sm_G Γ Ω M cs sl (pc + 2) (u0 :: u1 :: u2 :: u3 :: u4 :: u5 :: some (.ref x) :: r) st X Y) : sm_G Γ Ω M cs sl pc (u0 :: u1 :: u2 :: u3 :: u4 :: u5 :: u6 :: r) (.ref x :: st) X Y := by
  exact sg_as C hd (by show 6 < List.length _; simp only [List.length_cons]; omega) kk
theorem sg_inc6 (C : sm_C Γ Ω cc own nL w0) {u0 u1 u2 u3 u4 u5 : Option Value} {a n : Nat} {m : Int} (hd : decode cc pc = .ok (.iinc 6 m, 3)) (hm : Int32.ofInt m = nI n) (kk : sm_G Γ Ω M cs sl (pc + 3) (u0 :: u1 :: u2 :: u3 :: u4 :: u5 :: some (.int (nI (a + n))) :: r) st X Y) : sm_G Γ Ω M cs sl pc (u0 :: u1 :: u2 :: u3 :: u4 :: u5 :: some (.int (nI a)) :: r) st X Y := by
  exact sg_inc C hd rfl (by rw [hm, nI_add]) kk
theorem sg_dec6 (C : sm_C Γ Ω cc own nL w0) {u0 u1 u2 u3 u4 u5 : Option Value} {x : Int32} (hd : decode cc pc = .ok (.iinc 6 (-1), 3)) (kk : sm_G Γ Ω M cs sl (pc + 3) (u0 :: u1 :: u2 :: u3 :: u4 :: u5 :: some (.int (x + (-1))) :: r) st X Y) : sm_G Γ Ω M cs sl pc (u0 :: u1 :: u2 :: u3 :: u4 :: u5 :: some (.int x) :: r) st X Y := by
  exact sg_inc C hd rfl rfl kk
theorem sg_is7 (C : sm_C Γ Ω cc own nL w0) {u0 u1 u2 u3 u4 u5 u6 u7 : Option Value} {x : Int32} (hd : decode cc pc = .ok (.istore 7, 2)) (kk : sm_G Γ Ω M cs sl (pc + 2) (u0 :: u1 :: u2 :: u3 :: u4 :: u5 :: u6 :: some (.int x) :: r) st X Y) : sm_G Γ Ω M cs sl pc (u0 :: u1 :: u2 :: u3 :: u4 :: u5 :: u6 :: u7 :: r) (.int x :: st) X Y := by
  exact sg_is C hd (by show 7 < List.length _; simp only [List.length_cons]; omega) kk
theorem sg_as7 (C : sm_C Γ Ω cc own nL w0) {u0 u1 u2 u3 u4 u5 u6 u7 : Option Value} {x : Nat} (hd : decode cc pc = .ok (.astore 7, 2)) (kk : sm_G Γ Ω M cs sl (pc + 2) (u0 :: u1 :: u2 :: u3 :: u4 :: u5 :: u6 :: some (.ref x) :: r) st X Y) : sm_G Γ Ω M cs sl pc (u0 :: u1 :: u2 :: u3 :: u4 :: u5 :: u6 :: u7 :: r) (.ref x :: st) X Y := by
  exact sg_as C hd (by show 7 < List.length _; simp only [List.length_cons]; omega) kk
theorem sg_inc7 (C : sm_C Γ Ω cc own nL w0) {u0 u1 u2 u3 u4 u5 u6 : Option Value} {a n : Nat} {m : Int} (hd : decode cc pc = .ok (.iinc 7 m, 3)) (hm : Int32.ofInt m = nI n) (kk : sm_G Γ Ω M cs sl (pc + 3) (u0 :: u1 :: u2 :: u3 :: u4 :: u5 :: u6 :: some (.int (nI (a + n))) :: r) st X Y) : sm_G Γ Ω M cs sl pc (u0 :: u1 :: u2 :: u3 :: u4 :: u5 :: u6 :: some (.int (nI a)) :: r) st X Y := by
  exact sg_inc C hd rfl (by rw [hm, nI_add]) kk
theorem sg_dec7 (C : sm_C Γ Ω cc own nL w0) {u0 u1 u2 u3 u4 u5 u6 : Option Value} {x : Int32} (hd : decode cc pc = .ok (.iinc 7 (-1), 3)) (kk : sm_G Γ Ω M cs sl (pc + 3) (u0 :: u1 :: u2 :: u3 :: u4 :: u5 :: u6 :: some (.int (x + (-1))) :: r) st X Y) : sm_G Γ Ω M cs sl pc (u0 :: u1 :: u2 :: u3 :: u4 :: u5 :: u6 :: some (.int x) :: r) st X Y := by
  exact sg_inc C hd rfl rfl kk
theorem sg_is8 (C : sm_C Γ Ω cc own nL w0) {u0 u1 u2 u3 u4 u5 u6 u7 u8 : Option Value} {x : Int32} (hd : decode cc pc = .ok (.istore 8, 2)) (kk : sm_G Γ Ω M cs sl (pc + 2) (u0 :: u1 :: u2 :: u3 :: u4 :: u5 :: u6 :: u7 :: some (.int x) :: r) st X Y) : sm_G Γ Ω M cs sl pc (u0 :: u1 :: u2 :: u3 :: u4 :: u5 :: u6 :: u7 :: u8 :: r) (.int x :: st) X Y := by
  exact sg_is C hd (by show 8 < List.length _; simp only [List.length_cons]; omega) kk
theorem sg_as8 (C : sm_C Γ Ω cc own nL w0) {u0 u1 u2 u3 u4 u5 u6 u7 u8 : Option Value} {x : Nat} (hd : decode cc pc = .ok (.astore 8, 2)) (kk : sm_G Γ Ω M cs sl (pc + 2) (u0 :: u1 :: u2 :: u3 :: u4 :: u5 :: u6 :: u7 :: some (.ref x) :: r) st X Y) : sm_G Γ Ω M cs sl pc (u0 :: u1 :: u2 :: u3 :: u4 :: u5 :: u6 :: u7 :: u8 :: r) (.ref x :: st) X Y := by
  exact sg_as C hd (by show 8 < List.length _; simp only [List.length_cons]; omega) kk
theorem sg_inc8 (C : sm_C Γ Ω cc own nL w0) {u0 u1 u2 u3 u4 u5 u6 u7 : Option Value} {a n : Nat} {m : Int} (hd : decode cc pc = .ok (.iinc 8 m, 3)) (hm : Int32.ofInt m = nI n) (kk : sm_G Γ Ω M cs sl (pc + 3) (u0 :: u1 :: u2 :: u3 :: u4 :: u5 :: u6 :: u7 :: some (.int (nI (a + n))) :: r) st X Y) : sm_G Γ Ω M cs sl pc (u0 :: u1 :: u2 :: u3 :: u4 :: u5 :: u6 :: u7 :: some (.int (nI a)) :: r) st X Y := by
  exact sg_inc C hd rfl (by rw [hm, nI_add]) kk
theorem sg_dec8 (C : sm_C Γ Ω cc own nL w0) {u0 u1 u2 u3 u4 u5 u6 u7 : Option Value} {x : Int32} (hd : decode cc pc = .ok (.iinc 8 (-1), 3)) (kk : sm_G Γ Ω M cs sl (pc + 3) (u0 :: u1 :: u2 :: u3 :: u4 :: u5 :: u6 :: u7 :: some (.int (x + (-1))) :: r) st X Y) : sm_G Γ Ω M cs sl pc (u0 :: u1 :: u2 :: u3 :: u4 :: u5 :: u6 :: u7 :: some (.int x) :: r) st X Y := by
  exact sg_inc C hd rfl rfl kk
theorem sg_is9 (C : sm_C Γ Ω cc own nL w0) {u0 u1 u2 u3 u4 u5 u6 u7 u8 u9 : Option Value} {x : Int32} (hd : decode cc pc = .ok (.istore 9, 2)) (kk : sm_G Γ Ω M cs sl (pc + 2) (u0 :: u1 :: u2 :: u3 :: u4 :: u5 :: u6 :: u7 :: u8 :: some (.int x) :: r) st X Y) : sm_G Γ Ω M cs sl pc (u0 :: u1 :: u2 :: u3 :: u4 :: u5 :: u6 :: u7 :: u8 :: u9 :: r) (.int x :: st) X Y := by
  exact sg_is C hd (by show 9 < List.length _; simp only [List.length_cons]; omega) kk
theorem sg_as9 (C : sm_C Γ Ω cc own nL w0) {u0 u1 u2 u3 u4 u5 u6 u7 u8 u9 : Option Value} {x : Nat} (hd : decode cc pc = .ok (.astore 9, 2)) (kk : sm_G Γ Ω M cs sl (pc + 2) (u0 :: u1 :: u2 :: u3 :: u4 :: u5 :: u6 :: u7 :: u8 :: some (.ref x) :: r) st X Y) : sm_G Γ Ω M cs sl pc (u0 :: u1 :: u2 :: u3 :: u4 :: u5 :: u6 :: u7 :: u8 :: u9 :: r) (.ref x :: st) X Y := by
  exact sg_as C hd (by show 9 < List.length _; simp only [List.length_cons]; omega) kk
theorem sg_inc9 (C : sm_C Γ Ω cc own nL w0) {u0 u1 u2 u3 u4 u5 u6 u7 u8 : Option Value} {a n : Nat} {m : Int} (hd : decode cc pc = .ok (.iinc 9 m, 3)) (hm : Int32.ofInt m = nI n) (kk : sm_G Γ Ω M cs sl (pc + 3) (u0 :: u1 :: u2 :: u3 :: u4 :: u5 :: u6 :: u7 :: u8 :: some (.int (nI (a + n))) :: r) st X Y) : sm_G Γ Ω M cs sl pc (u0 :: u1 :: u2 :: u3 :: u4 :: u5 :: u6 :: u7 :: u8 :: some (.int (nI a)) :: r) st X Y := by
  exact sg_inc C hd rfl (by rw [hm, nI_add]) kk
theorem sg_dec9 (C : sm_C Γ Ω cc own nL w0) {u0 u1 u2 u3 u4 u5 u6 u7 u8 : Option Value} {x : Int32} (hd : decode cc pc = .ok (.iinc 9 (-1), 3)) (kk : sm_G Γ Ω M cs sl (pc + 3) (u0 :: u1 :: u2 :: u3 :: u4 :: u5 :: u6 :: u7 :: u8 :: some (.int (x + (-1))) :: r) st X Y) : sm_G Γ Ω M cs sl pc (u0 :: u1 :: u2 :: u3 :: u4 :: u5 :: u6 :: u7 :: u8 :: some (.int x) :: r) st X Y := by
  exact sg_inc C hd rfl rfl kk
theorem sg_is10 (C : sm_C Γ Ω cc own nL w0) {u0 u1 u2 u3 u4 u5 u6 u7 u8 u9 u10 : Option Value} {x : Int32} (hd : decode cc pc = .ok (.istore 10, 2)) (kk : sm_G Γ Ω M cs sl (pc + 2) (u0 :: u1 :: u2 :: u3 :: u4 :: u5 :: u6 :: u7 :: u8 :: u9 :: some (.int x) :: r) st X Y) : sm_G Γ Ω M cs sl pc (u0 :: u1 :: u2 :: u3 :: u4 :: u5 :: u6 :: u7 :: u8 :: u9 :: u10 :: r) (.int x :: st) X Y := by
  exact sg_is C hd (by show 10 < List.length _; simp only [List.length_cons]; omega) kk
theorem sg_as10 (C : sm_C Γ Ω cc own nL w0) {u0 u1 u2 u3 u4 u5 u6 u7 u8 u9 u10 : Option Value} {x : Nat} (hd : decode cc pc = .ok (.astore 10, 2)) (kk : sm_G Γ Ω M cs sl (pc + 2) (u0 :: u1 :: u2 :: u3 :: u4 :: u5 :: u6 :: u7 :: u8 :: u9 :: some (.ref x) :: r) st X Y) : sm_G Γ Ω M cs sl pc (u0 :: u1 :: u2 :: u3 :: u4 :: u5 :: u6 :: u7 :: u8 :: u9 :: u10 :: r) (.ref x :: st) X Y := by
  exact sg_as C hd (by show 10 < List.length _; simp only [List.length_cons]; omega) kk
theorem sg_inc10 (C : sm_C Γ Ω cc own nL w0) {u0 u1 u2 u3 u4 u5 u6 u7 u8 u9 : Option Value} {a n : Nat} {m : Int} (hd : decode cc pc = .ok (.iinc 10 m, 3)) (hm : Int32.ofInt m = nI n) (kk : sm_G Γ Ω M cs sl (pc + 3) (u0 :: u1 :: u2 :: u3 :: u4 :: u5 :: u6 :: u7 :: u8 :: u9 :: some (.int (nI (a + n))) :: r) st X Y) : sm_G Γ Ω M cs sl pc (u0 :: u1 :: u2 :: u3 :: u4 :: u5 :: u6 :: u7 :: u8 :: u9 :: some (.int (nI a)) :: r) st X Y := by
  exact sg_inc C hd rfl (by rw [hm, nI_add]) kk
theorem sg_dec10 (C : sm_C Γ Ω cc own nL w0) {u0 u1 u2 u3 u4 u5 u6 u7 u8 u9 : Option Value} {x : Int32} (hd : decode cc pc = .ok (.iinc 10 (-1), 3)) (kk : sm_G Γ Ω M cs sl (pc + 3) (u0 :: u1 :: u2 :: u3 :: u4 :: u5 :: u6 :: u7 :: u8 :: u9 :: some (.int (x + (-1))) :: r) st X Y) : sm_G Γ Ω M cs sl pc (u0 :: u1 :: u2 :: u3 :: u4 :: u5 :: u6 :: u7 :: u8 :: u9 :: some (.int x) :: r) st X Y := by
  exact sg_inc C hd rfl rfl kk
theorem sg_is11 (C : sm_C Γ Ω cc own nL w0) {u0 u1 u2 u3 u4 u5 u6 u7 u8 u9 u10 u11 : Option Value} {x : Int32} (hd : decode cc pc = .ok (.istore 11, 2)) (kk : sm_G Γ Ω M cs sl (pc + 2) (u0 :: u1 :: u2 :: u3 :: u4 :: u5 :: u6 :: u7 :: u8 :: u9 :: u10 :: some (.int x) :: r) st X Y) : sm_G Γ Ω M cs sl pc (u0 :: u1 :: u2 :: u3 :: u4 :: u5 :: u6 :: u7 :: u8 :: u9 :: u10 :: u11 :: r) (.int x :: st) X Y := by
  exact sg_is C hd (by show 11 < List.length _; simp only [List.length_cons]; omega) kk
theorem sg_as11 (C : sm_C Γ Ω cc own nL w0) {u0 u1 u2 u3 u4 u5 u6 u7 u8 u9 u10 u11 : Option Value} {x : Nat} (hd : decode cc pc = .ok (.astore 11, 2)) (kk : sm_G Γ Ω M cs sl (pc + 2) (u0 :: u1 :: u2 :: u3 :: u4 :: u5 :: u6 :: u7 :: u8 :: u9 :: u10 :: some (.ref x) :: r) st X Y) : sm_G Γ Ω M cs sl pc (u0 :: u1 :: u2 :: u3 :: u4 :: u5 :: u6 :: u7 :: u8 :: u9 :: u10 :: u11 :: r) (.ref x :: st) X Y := by
  exact sg_as C hd (by show 11 < List.length _; simp only [List.length_cons]; omega) kk
theorem sg_inc11 (C : sm_C Γ Ω cc own nL w0) {u0 u1 u2 u3 u4 u5 u6 u7 u8 u9 u10 : Option Value} {a n : Nat} {m : Int} (hd : decode cc pc = .ok (.iinc 11 m, 3)) (hm : Int32.ofInt m = nI n) (kk : sm_G Γ Ω M cs sl (pc + 3) (u0 :: u1 :: u2 :: u3 :: u4 :: u5 :: u6 :: u7 :: u8 :: u9 :: u10 :: some (.int (nI (a + n))) :: r) st X Y) : sm_G Γ Ω M cs sl pc (u0 :: u1 :: u2 :: u3 :: u4 :: u5 :: u6 :: u7 :: u8 :: u9 :: u10 :: some (.int (nI a)) :: r) st X Y := by
  exact sg_inc C hd rfl (by rw [hm, nI_add]) kk
theorem sg_dec11 (C : sm_C Γ Ω cc own nL w0) {u0 u1 u2 u3 u4 u5 u6 u7 u8 u9 u10 : Option Value} {x : Int32} (hd : decode cc pc = .ok (.iinc 11 (-1), 3)) (kk : sm_G Γ Ω M cs sl (pc + 3) (u0 :: u1 :: u2 :: u3 :: u4 :: u5 :: u6 :: u7 :: u8 :: u9 :: u10 :: some (.int (x + (-1))) :: r) st X Y) : sm_G Γ Ω M cs sl pc (u0 :: u1 :: u2 :: u3 :: u4 :: u5 :: u6 :: u7 :: u8 :: u9 :: u10 :: some (.int x) :: r) st X Y := by
  exact sg_inc C hd rfl rfl kk
theorem sg_is12 (C : sm_C Γ Ω cc own nL w0) {u0 u1 u2 u3 u4 u5 u6 u7 u8 u9 u10 u11 u12 : Option Value} {x : Int32} (hd : decode cc pc = .ok (.istore 12, 2)) (kk : sm_G Γ Ω M cs sl (pc + 2) (u0 :: u1 :: u2 :: u3 :: u4 :: u5 :: u6 :: u7 :: u8 :: u9 :: u10 :: u11 :: some (.int x) :: r) st X Y) : sm_G Γ Ω M cs sl pc (u0 :: u1 :: u2 :: u3 :: u4 :: u5 :: u6 :: u7 :: u8 :: u9 :: u10 :: u11 :: u12 :: r) (.int x :: st) X Y := by
  exact sg_is C hd (by show 12 < List.length _; simp only [List.length_cons]; omega) kk
theorem sg_as12 (C : sm_C Γ Ω cc own nL w0) {u0 u1 u2 u3 u4 u5 u6 u7 u8 u9 u10 u11 u12 : Option Value} {x : Nat} (hd : decode cc pc = .ok (.astore 12, 2)) (kk : sm_G Γ Ω M cs sl (pc + 2) (u0 :: u1 :: u2 :: u3 :: u4 :: u5 :: u6 :: u7 :: u8 :: u9 :: u10 :: u11 :: some (.ref x) :: r) st X Y) : sm_G Γ Ω M cs sl pc (u0 :: u1 :: u2 :: u3 :: u4 :: u5 :: u6 :: u7 :: u8 :: u9 :: u10 :: u11 :: u12 :: r) (.ref x :: st) X Y := by
  exact sg_as C hd (by show 12 < List.length _; simp only [List.length_cons]; omega) kk
theorem sg_inc12 (C : sm_C Γ Ω cc own nL w0) {u0 u1 u2 u3 u4 u5 u6 u7 u8 u9 u10 u11 : Option Value} {a n : Nat} {m : Int} (hd : decode cc pc = .ok (.iinc 12 m, 3)) (hm : Int32.ofInt m = nI n) (kk : sm_G Γ Ω M cs sl (pc + 3) (u0 :: u1 :: u2 :: u3 :: u4 :: u5 :: u6 :: u7 :: u8 :: u9 :: u10 :: u11 :: some (.int (nI (a + n))) :: r) st X Y) : sm_G Γ Ω M cs sl pc (u0 :: u1 :: u2 :: u3 :: u4 :: u5 :: u6 :: u7 :: u8 :: u9 :: u10 :: u11 :: some (.int (nI a)) :: r) st X Y := by
  exact sg_inc C hd rfl (by rw [hm, nI_add]) kk
theorem sg_dec12 (C : sm_C Γ Ω cc own nL w0) {u0 u1 u2 u3 u4 u5 u6 u7 u8 u9 u10 u11 : Option Value} {x : Int32} (hd : decode cc pc = .ok (.iinc 12 (-1), 3)) (kk : sm_G Γ Ω M cs sl (pc + 3) (u0 :: u1 :: u2 :: u3 :: u4 :: u5 :: u6 :: u7 :: u8 :: u9 :: u10 :: u11 :: some (.int (x + (-1))) :: r) st X Y) : sm_G Γ Ω M cs sl pc (u0 :: u1 :: u2 :: u3 :: u4 :: u5 :: u6 :: u7 :: u8 :: u9 :: u10 :: u11 :: some (.int x) :: r) st X Y := by
  exact sg_inc C hd rfl rfl kk
theorem sg_add (C : sm_C Γ Ω cc own nL w0) {a b : Nat} (hd : decode cc pc = .ok (.iadd, 1))  (kk : sm_G Γ Ω M cs sl (pc + 1) L (.int (nI (a + b)) :: st) X Y) : sm_G Γ Ω M cs sl pc L (.int (nI b) :: .int (nI a) :: st) X Y := by
  intro ls H locs hL hP hS
  refine lv_iadd C.1.1 C.1.2.1 hd  ?_
  rw [nI_add]
  exact kk ls H locs hL hP hS
theorem sg_sub (C : sm_C Γ Ω cc own nL w0) {a b : Nat} (hd : decode cc pc = .ok (.isub, 1)) (h : b ≤ a) (kk : sm_G Γ Ω M cs sl (pc + 1) L (.int (nI (a - b)) :: st) X Y) : sm_G Γ Ω M cs sl pc L (.int (nI b) :: .int (nI a) :: st) X Y := by
  intro ls H locs hL hP hS
  refine lv_isub C.1.1 C.1.2.1 hd  ?_
  rw [pk_sub h]
  exact kk ls H locs hL hP hS
theorem sg_mul (C : sm_C Γ Ω cc own nL w0) {a b : Nat} (hd : decode cc pc = .ok (.imul, 1))  (kk : sm_G Γ Ω M cs sl (pc + 1) L (.int (nI (a * b)) :: st) X Y) : sm_G Γ Ω M cs sl pc L (.int (nI b) :: .int (nI a) :: st) X Y := by
  intro ls H locs hL hP hS
  refine lv_imul C.1.1 C.1.2.1 hd  ?_
  rw [pk_mul]
  exact kk ls H locs hL hP hS
theorem sg_div (C : sm_C Γ Ω cc own nL w0) {a b : Nat} (hd : decode cc pc = .ok (.idiv, 1)) (ha : a < 2 ^ 31) (h0 : 0 < b) (hb : b < 2 ^ 31) (kk : sm_G Γ Ω M cs sl (pc + 1) L (.int (nI (a / b)) :: st) X Y) : sm_G Γ Ω M cs sl pc L (.int (nI b) :: .int (nI a) :: st) X Y := by
  intro ls H locs hL hP hS
  refine lv_idiv C.1.1 C.1.2.1 hd (nI_ne0 h0 hb) ?_
  rw [pk_div ha h0 hb]
  exact kk ls H locs hL hP hS
theorem sg_rem (C : sm_C Γ Ω cc own nL w0) {a b : Nat} (hd : decode cc pc = .ok (.irem, 1)) (ha : a < 2 ^ 31) (h0 : 0 < b) (hb : b < 2 ^ 31) (kk : sm_G Γ Ω M cs sl (pc + 1) L (.int (nI (a % b)) :: st) X Y) : sm_G Γ Ω M cs sl pc L (.int (nI b) :: .int (nI a) :: st) X Y := by
  intro ls H locs hL hP hS
  refine lv_irem C.1.1 C.1.2.1 hd (nI_ne0 h0 hb) ?_
  rw [pk_rem ha h0 hb]
  exact kk ls H locs hL hP hS
theorem sg_xor (C : sm_C Γ Ω cc own nL w0) {a b : Nat} (hd : decode cc pc = .ok (.ixor, 1))  (kk : sm_G Γ Ω M cs sl (pc + 1) L (.int (nI (a ^^^ b)) :: st) X Y) : sm_G Γ Ω M cs sl pc L (.int (nI b) :: .int (nI a) :: st) X Y := by
  intro ls H locs hL hP hS
  refine lv_ixor C.1.1 C.1.2.1 hd  ?_
  rw [nx_xor]
  exact kk ls H locs hL hP hS
theorem sg_and (C : sm_C Γ Ω cc own nL w0) {a b : Nat} (hd : decode cc pc = .ok (.iand, 1))  (kk : sm_G Γ Ω M cs sl (pc + 1) L (.int (nI (a &&& b)) :: st) X Y) : sm_G Γ Ω M cs sl pc L (.int (nI b) :: .int (nI a) :: st) X Y := by
  intro ls H locs hL hP hS
  refine lv_iand C.1.1 C.1.2.1 hd  ?_
  rw [nx_and]
  exact kk ls H locs hL hP hS
theorem sg_or (C : sm_C Γ Ω cc own nL w0) {a b : Nat} (hd : decode cc pc = .ok (.ior, 1))  (kk : sm_G Γ Ω M cs sl (pc + 1) L (.int (nI (a ||| b)) :: st) X Y) : sm_G Γ Ω M cs sl pc L (.int (nI b) :: .int (nI a) :: st) X Y := by
  intro ls H locs hL hP hS
  refine lv_ior C.1.1 C.1.2.1 hd  ?_
  rw [nx_or]
  exact kk ls H locs hL hP hS
theorem sr_iadd (C : sm_C Γ Ω cc own nL w0) {x y z : Int32} (hd : decode cc pc = .ok (.iadd, 1)) (hz : x + y = z) (kk : sm_G Γ Ω M cs sl (pc + 1) L (.int z :: st) X Y) : sm_G Γ Ω M cs sl pc L (.int y :: .int x :: st) X Y := by
  intro ls H locs hL hP hS
  refine lv_iadd C.1.1 C.1.2.1 hd ?_
  rw [hz]
  exact kk ls H locs hL hP hS
theorem sr_isub (C : sm_C Γ Ω cc own nL w0) {x y z : Int32} (hd : decode cc pc = .ok (.isub, 1)) (hz : x - y = z) (kk : sm_G Γ Ω M cs sl (pc + 1) L (.int z :: st) X Y) : sm_G Γ Ω M cs sl pc L (.int y :: .int x :: st) X Y := by
  intro ls H locs hL hP hS
  refine lv_isub C.1.1 C.1.2.1 hd ?_
  rw [hz]
  exact kk ls H locs hL hP hS
theorem sr_imul (C : sm_C Γ Ω cc own nL w0) {x y z : Int32} (hd : decode cc pc = .ok (.imul, 1)) (hz : x * y = z) (kk : sm_G Γ Ω M cs sl (pc + 1) L (.int z :: st) X Y) : sm_G Γ Ω M cs sl pc L (.int y :: .int x :: st) X Y := by
  intro ls H locs hL hP hS
  refine lv_imul C.1.1 C.1.2.1 hd ?_
  rw [hz]
  exact kk ls H locs hL hP hS
theorem sr_iand (C : sm_C Γ Ω cc own nL w0) {x y z : Int32} (hd : decode cc pc = .ok (.iand, 1)) (hz : x &&& y = z) (kk : sm_G Γ Ω M cs sl (pc + 1) L (.int z :: st) X Y) : sm_G Γ Ω M cs sl pc L (.int y :: .int x :: st) X Y := by
  intro ls H locs hL hP hS
  refine lv_iand C.1.1 C.1.2.1 hd ?_
  rw [hz]
  exact kk ls H locs hL hP hS
theorem sr_ior (C : sm_C Γ Ω cc own nL w0) {x y z : Int32} (hd : decode cc pc = .ok (.ior, 1)) (hz : x ||| y = z) (kk : sm_G Γ Ω M cs sl (pc + 1) L (.int z :: st) X Y) : sm_G Γ Ω M cs sl pc L (.int y :: .int x :: st) X Y := by
  intro ls H locs hL hP hS
  refine lv_ior C.1.1 C.1.2.1 hd ?_
  rw [hz]
  exact kk ls H locs hL hP hS
theorem sr_ixor (C : sm_C Γ Ω cc own nL w0) {x y z : Int32} (hd : decode cc pc = .ok (.ixor, 1)) (hz : x ^^^ y = z) (kk : sm_G Γ Ω M cs sl (pc + 1) L (.int z :: st) X Y) : sm_G Γ Ω M cs sl pc L (.int y :: .int x :: st) X Y := by
  intro ls H locs hL hP hS
  refine lv_ixor C.1.1 C.1.2.1 hd ?_
  rw [hz]
  exact kk ls H locs hL hP hS
theorem sr_ishl (C : sm_C Γ Ω cc own nL w0) {x y z : Int32} (hd : decode cc pc = .ok (.ishl, 1)) (hz : x <<< (y &&& 31) = z) (kk : sm_G Γ Ω M cs sl (pc + 1) L (.int z :: st) X Y) : sm_G Γ Ω M cs sl pc L (.int y :: .int x :: st) X Y := by
  intro ls H locs hL hP hS
  refine lv_ishl C.1.1 C.1.2.1 hd ?_
  rw [hz]
  exact kk ls H locs hL hP hS
theorem sr_ishr (C : sm_C Γ Ω cc own nL w0) {x y z : Int32} (hd : decode cc pc = .ok (.ishr, 1)) (hz : x >>> (y &&& 31) = z) (kk : sm_G Γ Ω M cs sl (pc + 1) L (.int z :: st) X Y) : sm_G Γ Ω M cs sl pc L (.int y :: .int x :: st) X Y := by
  intro ls H locs hL hP hS
  refine lv_ishr C.1.1 C.1.2.1 hd ?_
  rw [hz]
  exact kk ls H locs hL hP hS
theorem sr_iushr (C : sm_C Γ Ω cc own nL w0) {x y z : Int32} (hd : decode cc pc = .ok (.iushr, 1)) (hz : (x.toUInt32 >>> (y.toUInt32 &&& Int32.toUInt32 31)).toInt32 = z) (kk : sm_G Γ Ω M cs sl (pc + 1) L (.int z :: st) X Y) : sm_G Γ Ω M cs sl pc L (.int y :: .int x :: st) X Y := by
  intro ls H locs hL hP hS
  exact lv_iushr C.1.1 C.1.2.1 hd hz (kk ls H locs hL hP hS)
theorem sr_i2l (C : sm_C Γ Ω cc own nL w0) {x : Int32} {z : Int64} (hd : decode cc pc = .ok (.i2l, 1)) (hz : x.toInt64 = z) (kk : sm_G Γ Ω M cs sl (pc + 1) L (.long z :: st) X Y) : sm_G Γ Ω M cs sl pc L (.int x :: st) X Y := by
  intro ls H locs hL hP hS
  exact lv_i2l C.1.1 C.1.2.1 hd hz (kk ls H locs hL hP hS)
theorem sg_top (C : sm_C Γ Ω cc own nL w0) {x y : Int32} (h : x = y) (kk : sm_G Γ Ω M cs sl pc L (.int y :: st) X Y) : sm_G Γ Ω M cs sl pc L (.int x :: st) X Y := by
  rw [h]
  exact kk
theorem sg_dup (C : sm_C Γ Ω cc own nL w0) {v : Value} (hd : decode cc pc = .ok (.dup, 1)) (hv : v.category = 1) (kk : sm_G Γ Ω M cs sl (pc + 1) L (v :: v :: st) X Y) : sm_G Γ Ω M cs sl pc L (v :: st) X Y := by
  intro ls H locs hL hP hS
  exact lv_dup C.1.1 C.1.2.1 hd hv (kk ls H locs hL hP hS)
theorem sg_pop (C : sm_C Γ Ω cc own nL w0) {v : Value} (hd : decode cc pc = .ok (.pop, 1)) (hv : v.category = 1) (kk : sm_G Γ Ω M cs sl (pc + 1) L st X Y) : sm_G Γ Ω M cs sl pc L (v :: st) X Y := by
  intro ls H locs hL hP hS
  exact lv_pop C.1.1 C.1.2.1 hd hv (kk ls H locs hL hP hS)
theorem sg_dupx1 (C : sm_C Γ Ω cc own nL w0) {v u : Value} (hd : decode cc pc = .ok (.dup_x1, 1)) (hv : v.category = 1) (hu : u.category = 1) (kk : sm_G Γ Ω M cs sl (pc + 1) L (v :: u :: v :: st) X Y) : sm_G Γ Ω M cs sl pc L (v :: u :: st) X Y := by
  intro ls H locs hL hP hS
  exact lv_dup_x1 C.1.1 C.1.2.1 hd hv hu (kk ls H locs hL hP hS)
theorem sg_dup2 (C : sm_C Γ Ω cc own nL w0) {v u : Value} (hd : decode cc pc = .ok (.dup2, 1)) (hv : v.category = 1) (hu : u.category = 1) (kk : sm_G Γ Ω M cs sl (pc + 1) L (v :: u :: v :: u :: st) X Y) : sm_G Γ Ω M cs sl pc L (v :: u :: st) X Y := by
  intro ls H locs hL hP hS
  exact lv_dup2_11 C.1.1 C.1.2.1 hd hv hu (kk ls H locs hL hP hS)
theorem sg_dupx2 (C : sm_C Γ Ω cc own nL w0) {v u t : Value} (hd : decode cc pc = .ok (.dup_x2, 1)) (hv : v.category = 1) (hu : u.category = 1) (ht : t.category = 1) (kk : sm_G Γ Ω M cs sl (pc + 1) L (v :: u :: t :: v :: st) X Y) : sm_G Γ Ω M cs sl pc L (v :: u :: t :: st) X Y := by
  intro ls H locs hL hP hS
  exact lv_dup_x2 C.1.1 C.1.2.1 hd hv hu ht (kk ls H locs hL hP hS)
theorem sg_goto (C : sm_C Γ Ω cc own nL w0) {off : Int} {tgt : Nat} (hd : decode cc pc = .ok (.goto off, 3)) (ht : (pc : Int) + off = (tgt : Int)) (kk : sm_G Γ Ω M cs sl tgt L st X Y) : sm_G Γ Ω M cs sl pc L st X Y := by
  intro ls H locs hL hP hS
  exact lv_goto C.1.1 C.1.2.1 hd ht (kk ls H locs hL hP hS)
theorem sr_ifeq (C : sm_C Γ Ω cc own nL w0) {x : Int32} {off : Int} {tgt : Nat} (hd : decode cc pc = .ok (.ifCond .eq off, 3)) (ht : (pc : Int) + off = (tgt : Int)) (kt : x = 0 → sm_G Γ Ω M cs sl tgt L st X Y) (kf : ¬ x = 0 → sm_G Γ Ω M cs sl (pc + 3) L st X Y) : sm_G Γ Ω M cs sl pc L (.int x :: st) X Y := by
  intro ls H locs hL hP hS
  exact lv_if_eq C.1.1 C.1.2.1 hd ht (fun h => kt h ls H locs hL hP hS) (fun h => kf h ls H locs hL hP hS)
theorem sr_ifne (C : sm_C Γ Ω cc own nL w0) {x : Int32} {off : Int} {tgt : Nat} (hd : decode cc pc = .ok (.ifCond .ne off, 3)) (ht : (pc : Int) + off = (tgt : Int)) (kt : ¬ x = 0 → sm_G Γ Ω M cs sl tgt L st X Y) (kf : x = 0 → sm_G Γ Ω M cs sl (pc + 3) L st X Y) : sm_G Γ Ω M cs sl pc L (.int x :: st) X Y := by
  intro ls H locs hL hP hS
  exact lv_if_ne C.1.1 C.1.2.1 hd ht (fun h => kt h ls H locs hL hP hS) (fun h => kf h ls H locs hL hP hS)
theorem sr_iflt (C : sm_C Γ Ω cc own nL w0) {x : Int32} {off : Int} {tgt : Nat} (hd : decode cc pc = .ok (.ifCond .lt off, 3)) (ht : (pc : Int) + off = (tgt : Int)) (kt : x < 0 → sm_G Γ Ω M cs sl tgt L st X Y) (kf : ¬ x < 0 → sm_G Γ Ω M cs sl (pc + 3) L st X Y) : sm_G Γ Ω M cs sl pc L (.int x :: st) X Y := by
  intro ls H locs hL hP hS
  exact lv_if_lt C.1.1 C.1.2.1 hd ht (fun h => kt h ls H locs hL hP hS) (fun h => kf h ls H locs hL hP hS)
theorem sr_ifge (C : sm_C Γ Ω cc own nL w0) {x : Int32} {off : Int} {tgt : Nat} (hd : decode cc pc = .ok (.ifCond .ge off, 3)) (ht : (pc : Int) + off = (tgt : Int)) (kt : 0 ≤ x → sm_G Γ Ω M cs sl tgt L st X Y) (kf : ¬ 0 ≤ x → sm_G Γ Ω M cs sl (pc + 3) L st X Y) : sm_G Γ Ω M cs sl pc L (.int x :: st) X Y := by
  intro ls H locs hL hP hS
  exact lv_if_ge C.1.1 C.1.2.1 hd ht (fun h => kt h ls H locs hL hP hS) (fun h => kf h ls H locs hL hP hS)
theorem sr_ifgt (C : sm_C Γ Ω cc own nL w0) {x : Int32} {off : Int} {tgt : Nat} (hd : decode cc pc = .ok (.ifCond .gt off, 3)) (ht : (pc : Int) + off = (tgt : Int)) (kt : 0 < x → sm_G Γ Ω M cs sl tgt L st X Y) (kf : ¬ 0 < x → sm_G Γ Ω M cs sl (pc + 3) L st X Y) : sm_G Γ Ω M cs sl pc L (.int x :: st) X Y := by
  intro ls H locs hL hP hS
  exact lv_if_gt C.1.1 C.1.2.1 hd ht (fun h => kt h ls H locs hL hP hS) (fun h => kf h ls H locs hL hP hS)
theorem sr_ifle (C : sm_C Γ Ω cc own nL w0) {x : Int32} {off : Int} {tgt : Nat} (hd : decode cc pc = .ok (.ifCond .le off, 3)) (ht : (pc : Int) + off = (tgt : Int)) (kt : x ≤ 0 → sm_G Γ Ω M cs sl tgt L st X Y) (kf : ¬ x ≤ 0 → sm_G Γ Ω M cs sl (pc + 3) L st X Y) : sm_G Γ Ω M cs sl pc L (.int x :: st) X Y := by
  intro ls H locs hL hP hS
  exact lv_if_le C.1.1 C.1.2.1 hd ht (fun h => kt h ls H locs hL hP hS) (fun h => kf h ls H locs hL hP hS)
theorem sr_iceq (C : sm_C Γ Ω cc own nL w0) {x y : Int32} {off : Int} {tgt : Nat} (hd : decode cc pc = .ok (.if_icmp .eq off, 3)) (ht : (pc : Int) + off = (tgt : Int)) (kt : x = y → sm_G Γ Ω M cs sl tgt L st X Y) (kf : ¬ x = y → sm_G Γ Ω M cs sl (pc + 3) L st X Y) : sm_G Γ Ω M cs sl pc L (.int y :: .int x :: st) X Y := by
  intro ls H locs hL hP hS
  exact lv_icmp_eq C.1.1 C.1.2.1 hd ht (fun h => kt h ls H locs hL hP hS) (fun h => kf h ls H locs hL hP hS)
theorem sr_icne (C : sm_C Γ Ω cc own nL w0) {x y : Int32} {off : Int} {tgt : Nat} (hd : decode cc pc = .ok (.if_icmp .ne off, 3)) (ht : (pc : Int) + off = (tgt : Int)) (kt : ¬ x = y → sm_G Γ Ω M cs sl tgt L st X Y) (kf : x = y → sm_G Γ Ω M cs sl (pc + 3) L st X Y) : sm_G Γ Ω M cs sl pc L (.int y :: .int x :: st) X Y := by
  intro ls H locs hL hP hS
  exact lv_icmp_ne C.1.1 C.1.2.1 hd ht (fun h => kt h ls H locs hL hP hS) (fun h => kf h ls H locs hL hP hS)
theorem sr_iclt (C : sm_C Γ Ω cc own nL w0) {x y : Int32} {off : Int} {tgt : Nat} (hd : decode cc pc = .ok (.if_icmp .lt off, 3)) (ht : (pc : Int) + off = (tgt : Int)) (kt : x < y → sm_G Γ Ω M cs sl tgt L st X Y) (kf : ¬ x < y → sm_G Γ Ω M cs sl (pc + 3) L st X Y) : sm_G Γ Ω M cs sl pc L (.int y :: .int x :: st) X Y := by
  intro ls H locs hL hP hS
  exact lv_icmp_lt C.1.1 C.1.2.1 hd ht (fun h => kt h ls H locs hL hP hS) (fun h => kf h ls H locs hL hP hS)
theorem sr_icge (C : sm_C Γ Ω cc own nL w0) {x y : Int32} {off : Int} {tgt : Nat} (hd : decode cc pc = .ok (.if_icmp .ge off, 3)) (ht : (pc : Int) + off = (tgt : Int)) (kt : y ≤ x → sm_G Γ Ω M cs sl tgt L st X Y) (kf : ¬ y ≤ x → sm_G Γ Ω M cs sl (pc + 3) L st X Y) : sm_G Γ Ω M cs sl pc L (.int y :: .int x :: st) X Y := by
  intro ls H locs hL hP hS
  exact lv_icmp_ge C.1.1 C.1.2.1 hd ht (fun h => kt h ls H locs hL hP hS) (fun h => kf h ls H locs hL hP hS)
theorem sr_icgt (C : sm_C Γ Ω cc own nL w0) {x y : Int32} {off : Int} {tgt : Nat} (hd : decode cc pc = .ok (.if_icmp .gt off, 3)) (ht : (pc : Int) + off = (tgt : Int)) (kt : y < x → sm_G Γ Ω M cs sl tgt L st X Y) (kf : ¬ y < x → sm_G Γ Ω M cs sl (pc + 3) L st X Y) : sm_G Γ Ω M cs sl pc L (.int y :: .int x :: st) X Y := by
  intro ls H locs hL hP hS
  exact lv_icmp_gt C.1.1 C.1.2.1 hd ht (fun h => kt h ls H locs hL hP hS) (fun h => kf h ls H locs hL hP hS)
theorem sr_icle (C : sm_C Γ Ω cc own nL w0) {x y : Int32} {off : Int} {tgt : Nat} (hd : decode cc pc = .ok (.if_icmp .le off, 3)) (ht : (pc : Int) + off = (tgt : Int)) (kt : x ≤ y → sm_G Γ Ω M cs sl tgt L st X Y) (kf : ¬ x ≤ y → sm_G Γ Ω M cs sl (pc + 3) L st X Y) : sm_G Γ Ω M cs sl pc L (.int y :: .int x :: st) X Y := by
  intro ls H locs hL hP hS
  exact lv_icmp_le C.1.1 C.1.2.1 hd ht (fun h => kt h ls H locs hL hP hS) (fun h => kf h ls H locs hL hP hS)
theorem sg_ifeq (C : sm_C Γ Ω cc own nL w0) {a : Nat} {off : Int} {tgt : Nat} (hd : decode cc pc = .ok (.ifCond .eq off, 3)) (ht : (pc : Int) + off = (tgt : Int)) (ha : a < 2 ^ 31) (kt : a = 0 → sm_G Γ Ω M cs sl tgt L st X Y) (kf : a ≠ 0 → sm_G Γ Ω M cs sl (pc + 3) L st X Y) : sm_G Γ Ω M cs sl pc L (.int (nI a) :: st) X Y := by
  exact sr_ifeq C hd ht (fun h => kt ((sn_0 ha).mp h)) (fun h => kf (fun q => h ((sn_0 ha).mpr q)))
theorem sg_ifne (C : sm_C Γ Ω cc own nL w0) {a : Nat} {off : Int} {tgt : Nat} (hd : decode cc pc = .ok (.ifCond .ne off, 3)) (ht : (pc : Int) + off = (tgt : Int)) (ha : a < 2 ^ 31) (kt : a ≠ 0 → sm_G Γ Ω M cs sl tgt L st X Y) (kf : a = 0 → sm_G Γ Ω M cs sl (pc + 3) L st X Y) : sm_G Γ Ω M cs sl pc L (.int (nI a) :: st) X Y := by
  exact sr_ifne C hd ht (fun h => kt (fun q => h ((sn_0 ha).mpr q))) (fun h => kf ((sn_0 ha).mp h))
theorem sg_ifgt (C : sm_C Γ Ω cc own nL w0) {a : Nat} {off : Int} {tgt : Nat} (hd : decode cc pc = .ok (.ifCond .gt off, 3)) (ht : (pc : Int) + off = (tgt : Int)) (ha : a < 2 ^ 31) (kt : 0 < a → sm_G Γ Ω M cs sl tgt L st X Y) (kf : a = 0 → sm_G Γ Ω M cs sl (pc + 3) L st X Y) : sm_G Γ Ω M cs sl pc L (.int (nI a) :: st) X Y := by
  exact sr_ifgt C hd ht (fun h => kt ((sn_p ha).mp h)) (fun h => kf ((sn_np ha).mp h))
theorem sg_ifle (C : sm_C Γ Ω cc own nL w0) {a : Nat} {off : Int} {tgt : Nat} (hd : decode cc pc = .ok (.ifCond .le off, 3)) (ht : (pc : Int) + off = (tgt : Int)) (ha : a < 2 ^ 31) (kt : a = 0 → sm_G Γ Ω M cs sl tgt L st X Y) (kf : 0 < a → sm_G Γ Ω M cs sl (pc + 3) L st X Y) : sm_G Γ Ω M cs sl pc L (.int (nI a) :: st) X Y := by
  exact sr_ifle C hd ht (fun h => kt ((sn_l ha).mp h)) (fun h => kf ((sn_nl ha).mp h))
theorem sg_iceq (C : sm_C Γ Ω cc own nL w0) {a b : Nat} {off : Int} {tgt : Nat} (hd : decode cc pc = .ok (.if_icmp .eq off, 3)) (ht : (pc : Int) + off = (tgt : Int)) (ha : a < 2 ^ 31) (hb : b < 2 ^ 31) (kt : a = b → sm_G Γ Ω M cs sl tgt L st X Y) (kf : a ≠ b → sm_G Γ Ω M cs sl (pc + 3) L st X Y) : sm_G Γ Ω M cs sl pc L (.int (nI b) :: .int (nI a) :: st) X Y := by
  exact sr_iceq C hd ht (fun h => kt ((nI_eq ha hb).mp h)) (fun h => kf (fun q => h ((nI_eq ha hb).mpr q)))
theorem sg_icne (C : sm_C Γ Ω cc own nL w0) {a b : Nat} {off : Int} {tgt : Nat} (hd : decode cc pc = .ok (.if_icmp .ne off, 3)) (ht : (pc : Int) + off = (tgt : Int)) (ha : a < 2 ^ 31) (hb : b < 2 ^ 31) (kt : a ≠ b → sm_G Γ Ω M cs sl tgt L st X Y) (kf : a = b → sm_G Γ Ω M cs sl (pc + 3) L st X Y) : sm_G Γ Ω M cs sl pc L (.int (nI b) :: .int (nI a) :: st) X Y := by
  exact sr_icne C hd ht (fun h => kt (fun q => h ((nI_eq ha hb).mpr q))) (fun h => kf ((nI_eq ha hb).mp h))
theorem sg_iclt (C : sm_C Γ Ω cc own nL w0) {a b : Nat} {off : Int} {tgt : Nat} (hd : decode cc pc = .ok (.if_icmp .lt off, 3)) (ht : (pc : Int) + off = (tgt : Int)) (ha : a < 2 ^ 31) (hb : b < 2 ^ 31) (kt : a < b → sm_G Γ Ω M cs sl tgt L st X Y) (kf : b ≤ a → sm_G Γ Ω M cs sl (pc + 3) L st X Y) : sm_G Γ Ω M cs sl pc L (.int (nI b) :: .int (nI a) :: st) X Y := by
  exact sr_iclt C hd ht (fun h => kt ((nI_ltI ha hb).mp h)) (fun h => kf (Nat.not_lt.mp (fun q => h ((nI_ltI ha hb).mpr q))))
theorem sg_icge (C : sm_C Γ Ω cc own nL w0) {a b : Nat} {off : Int} {tgt : Nat} (hd : decode cc pc = .ok (.if_icmp .ge off, 3)) (ht : (pc : Int) + off = (tgt : Int)) (ha : a < 2 ^ 31) (hb : b < 2 ^ 31) (kt : b ≤ a → sm_G Γ Ω M cs sl tgt L st X Y) (kf : a < b → sm_G Γ Ω M cs sl (pc + 3) L st X Y) : sm_G Γ Ω M cs sl pc L (.int (nI b) :: .int (nI a) :: st) X Y := by
  exact sr_icge C hd ht (fun h => kt ((nI_leI hb ha).mp h)) (fun h => kf (Nat.not_le.mp (fun q => h ((nI_leI hb ha).mpr q))))
theorem sg_icgt (C : sm_C Γ Ω cc own nL w0) {a b : Nat} {off : Int} {tgt : Nat} (hd : decode cc pc = .ok (.if_icmp .gt off, 3)) (ht : (pc : Int) + off = (tgt : Int)) (ha : a < 2 ^ 31) (hb : b < 2 ^ 31) (kt : b < a → sm_G Γ Ω M cs sl tgt L st X Y) (kf : a ≤ b → sm_G Γ Ω M cs sl (pc + 3) L st X Y) : sm_G Γ Ω M cs sl pc L (.int (nI b) :: .int (nI a) :: st) X Y := by
  exact sr_icgt C hd ht (fun h => kt ((nI_ltI hb ha).mp h)) (fun h => kf (Nat.not_lt.mp (fun q => h ((nI_ltI hb ha).mpr q))))
theorem sg_icle (C : sm_C Γ Ω cc own nL w0) {a b : Nat} {off : Int} {tgt : Nat} (hd : decode cc pc = .ok (.if_icmp .le off, 3)) (ht : (pc : Int) + off = (tgt : Int)) (ha : a < 2 ^ 31) (hb : b < 2 ^ 31) (kt : a ≤ b → sm_G Γ Ω M cs sl tgt L st X Y) (kf : b < a → sm_G Γ Ω M cs sl (pc + 3) L st X Y) : sm_G Γ Ω M cs sl pc L (.int (nI b) :: .int (nI a) :: st) X Y := by
  exact sr_icle C hd ht (fun h => kt ((nI_leI ha hb).mp h)) (fun h => kf (Nat.not_le.mp (fun q => h ((nI_leI ha hb).mpr q))))
theorem sg_geti (C : sm_C Γ Ω cc own nL w0) {index ci k : Nat} (hw : sm_fw own index ci k) {i : Nat} {fl : List Bool} (hi : i < M) (hs : sm_sh i = .inl (ci, fl)) (hf : fl[k]? = some false) (hd : decode cc pc = .ok (.getfield index, 3)) (kk : sm_G Γ Ω M cs sl (pc + 3) L (.int (nI (X i k)) :: st) X Y) : sm_G Γ Ω M cs sl pc L (.ref (Ω.2.1 + i) :: st) X Y := by
  intro ls H locs hL hP hS
  obtain ⟨Cn, T, N, hc, hin, hk, hl⟩ := hw
  exact va_get C.1.1 C.1.2.1 C.1.2.2.2.2 (fun w h => List.mem_cons_of_mem _ (hin w h)) C.1.2.2.2.1 C.2.1 hP i (fs := sm_f Ω.2.1 fl (X i) (Y i)) (by rw [sm_at hi, hs]; rfl) hc k hk (C.1.2.2.2.2 _ (List.mem_cons_of_mem _ hl)) (fun _ h => h) (sm_f_i hf) hd (kk ls H locs hL hP hS)
theorem sg_getr (C : sm_C Γ Ω cc own nL w0) {index ci k : Nat} (hw : sm_fw own index ci k) {i j : Nat} {fl : List Bool} (hi : i < M) (hs : sm_sh i = .inl (ci, fl)) (hf : fl[k]? = some true) (hr : Y i k = some j) (hd : decode cc pc = .ok (.getfield index, 3)) (kk : sm_G Γ Ω M cs sl (pc + 3) L (.ref (Ω.2.1 + j) :: st) X Y) : sm_G Γ Ω M cs sl pc L (.ref (Ω.2.1 + i) :: st) X Y := by
  intro ls H locs hL hP hS
  obtain ⟨Cn, T, N, hc, hin, hk, hl⟩ := hw
  exact va_get C.1.1 C.1.2.1 C.1.2.2.2.2 (fun w h => List.mem_cons_of_mem _ (hin w h)) C.1.2.2.2.1 C.2.1 hP i (fs := sm_f Ω.2.1 fl (X i) (Y i)) (by rw [sm_at hi, hs]; rfl) hc k hk (C.1.2.2.2.2 _ (List.mem_cons_of_mem _ hl)) (fun _ h => h) (sm_f_r hf hr) hd (kk ls H locs hL hP hS)
theorem sg_puti (C : sm_C Γ Ω cc own nL w0) {index ci k : Nat} {ty : FieldType} (hw : sm_pw own index ci k ty) {i v : Nat} {fl : List Bool} (hi : i < M) (hs : sm_sh i = .inl (ci, fl)) (hf : fl[k]? = some false) (hn : narrow ty (.int (nI v)) = .int (nI v)) (hft : fits ty (.int (nI v)) = true) (hd : decode cc pc = .ok (.putfield index, 3)) (kk : sm_G Γ Ω M cs sl (pc + 3) L st (sm_up X i k v) Y) : sm_G Γ Ω M cs sl pc L (.int (nI v) :: .ref (Ω.2.1 + i) :: st) X Y := by
  intro ls H locs hL hP hS
  obtain ⟨Cn, T, N, ty0, hc, hin, hk, hl, hty, hnm, hfin, hdd⟩ := hw
  refine va_put C.1.1 C.1.2.1 C.1.2.2.2.2 (fun w h => List.mem_cons_of_mem _ (hin w h)) ty0 hty hnm C.1.2.2.2.1 C.2.1 hP sm_D hS i (fs := sm_f Ω.2.1 fl (X i) (Y i)) (by rw [sm_at hi, hs]; rfl) hc k hk (C.1.2.2.2.2 _ (List.mem_cons_of_mem _ hl)) (fun _ h => h) hfin hdd hn hft (by rw [sm_f_len]; exact (List.getElem?_eq_some_iff.mp hf).1) hd (fun H1 locs1 h1 _ h3 => kk ls H1 locs1 hL ?_ h3)
  rw [sm_f_seti hf, sm_set (X' := sm_up X i k v) (Y' := Y) hi (by rw [hs]; rfl) (fun a ha => ⟨sm_up_o ha, rfl⟩)] at h1
  exact h1
theorem sg_iald (C : sm_C Γ Ω cc own nL w0) {i n j : Nat} (hi : i < M) (hs : sm_sh i = .inr (n, 0)) (hj : j < n) (hn : n < 2 ^ 31) (hd : decode cc pc = .ok (.iaload, 1)) (kk : sm_G Γ Ω M cs sl (pc + 1) L (.int (nI (X i j)) :: st) X Y) : sm_G Γ Ω M cs sl pc L (.int (nI j) :: .ref (Ω.2.1 + i) :: st) X Y := by
  intro ls H locs hL hP hS
  refine va_iald C.1.1 C.1.2.1 C.2.1 hP i 0 (cA := Ω.2.2.1 0) (n := n) (f := fun j => nI (X i j)) (by rw [sm_at hi, hs]; rfl) rfl (vp_in_nI hj hn) hd ?_
  rw [nI_clamp (Nat.lt_trans hj hn)]
  exact kk ls H locs hL hP hS
theorem sg_iast (C : sm_C Γ Ω cc own nL w0) {i n j v : Nat} (hi : i < M) (hs : sm_sh i = .inr (n, 0)) (hj : j < n) (hn : n < 2 ^ 31) (hd : decode cc pc = .ok (.iastore, 1)) (kk : sm_G Γ Ω M cs sl (pc + 1) L st (sm_up X i j v) Y) : sm_G Γ Ω M cs sl pc L (.int (nI v) :: .int (nI j) :: .ref (Ω.2.1 + i) :: st) X Y := by
  intro ls H locs hL hP hS
  refine va_iast C.1.1 C.1.2.1 C.2.1 hP sm_D hS i 0 (cA := Ω.2.2.1 0) (n := n) (f := fun j => nI (X i j)) (by rw [sm_at hi, hs]; rfl) rfl (vp_in_nI hj hn) hd (fun H1 locs1 h1 _ h3 => kk ls H1 locs1 hL ?_ h3)
  rw [nI_clamp (Nat.lt_trans hj hn), sm_set (X' := sm_up X i j v) (Y' := Y) hi ?_ (fun a ha => ⟨sm_up_o ha, rfl⟩)] at h1
  · exact h1
  · rw [hs]
    show _ = (.inl (Ω.2.2.1 0, n, .inl (fun k => nI (sm_up X i j v i k))) : va_E)
    congr 4
    funext k
    by_cases ek : k = j
    · subst ek; rw [sm_up_s]; simp [upd]
    · rw [sm_up_n ek]; simp [upd, ek]
theorem sg_bald (C : sm_C Γ Ω cc own nL w0) {i n j : Nat} (hi : i < M) (hs : sm_sh i = .inr (n, 1)) (hj : j < n) (hn : n < 2 ^ 31) (hd : decode cc pc = .ok (.baload, 1)) (kk : sm_G Γ Ω M cs sl (pc + 1) L (.int (nI (X i j)) :: st) X Y) : sm_G Γ Ω M cs sl pc L (.int (nI j) :: .ref (Ω.2.1 + i) :: st) X Y := by
  intro ls H locs hL hP hS
  refine va_zald C.1.1 C.1.2.1 C.2.1 hP i 1 (cA := Ω.2.2.1 1) (n := n) (f := fun j => nI (X i j)) (by rw [sm_at hi, hs]; rfl) rfl (vp_in_nI hj hn) hd ?_
  rw [nI_clamp (Nat.lt_trans hj hn)]
  exact kk ls H locs hL hP hS
theorem sg_bast (C : sm_C Γ Ω cc own nL w0) {i n j v : Nat} (hi : i < M) (hs : sm_sh i = .inr (n, 1)) (hj : j < n) (hn : n < 2 ^ 31) (hv : v < 2) (hd : decode cc pc = .ok (.bastore, 1)) (kk : sm_G Γ Ω M cs sl (pc + 1) L st (sm_up X i j v) Y) : sm_G Γ Ω M cs sl pc L (.int (nI v) :: .int (nI j) :: .ref (Ω.2.1 + i) :: st) X Y := by
  intro ls H locs hL hP hS
  have hz : vp_nar .boolean (nI v) = nI v := by
    rcases (by omega : v = 0 ∨ v = 1) with rfl | rfl <;> decide
  refine va_zast C.1.1 C.1.2.1 C.2.1 hP sm_D hS i 1 (cA := Ω.2.2.1 1) (n := n) (f := fun j => nI (X i j)) (by rw [sm_at hi, hs]; rfl) rfl (vp_in_nI hj hn) hd (fun H1 locs1 h1 _ h3 => kk ls H1 locs1 hL ?_ h3)
  rw [nI_clamp (Nat.lt_trans hj hn), hz, sm_set (X' := sm_up X i j v) (Y' := Y) hi ?_ (fun a ha => ⟨sm_up_o ha, rfl⟩)] at h1
  · exact h1
  · rw [hs]
    show _ = (.inl (Ω.2.2.1 1, n, .inl (fun k => nI (sm_up X i j v i k))) : va_E)
    congr 4
    funext k
    by_cases ek : k = j
    · subst ek; rw [sm_up_s]; simp [upd]
    · rw [sm_up_n ek]; simp [upd, ek]
theorem sg_aald (C : sm_C Γ Ω cc own nL w0) {i n t j q : Nat} {ty : FieldType} (hi : i < M) (hs : sm_sh i = .inr (n, t)) (h3 : 3 ≤ t) (ht : (sm_T Ω.2.2.1)[t]? = some (Ω.2.2.1 t, ty)) (hty : ty.isReference = true) (hj : j < n) (hn : n < 2 ^ 31) (hr : Y i j = some q) (hd : decode cc pc = .ok (.aaload, 1)) (kk : sm_G Γ Ω M cs sl (pc + 1) L (.ref (Ω.2.1 + q) :: st) X Y) : sm_G Γ Ω M cs sl pc L (.int (nI j) :: .ref (Ω.2.1 + i) :: st) X Y := by
  intro ls H locs hL hP hS
  have e : sm_v Ω.2.1 t (X i) (Y i) = .inr (.inr (.inr (.inr (fun j => (Y i j).map (fun q => Ω.2.1 + q))))) := by
    unfold sm_v
    rw [if_neg (by omega), if_neg (by omega)]
  have hc : H[Ω.2.1 + i]? = some (vp_cell (Ω.2.2.1 t) (n, .inr (.inr (.inr (.inr (fun j => (Y i j).map (fun q => Ω.2.1 + q))))))) := hP i (Ω.2.1 + i, .inl (Ω.2.2.1 t, n, .inr (.inr (.inr (.inr (fun j => (Y i j).map (fun q => Ω.2.1 + q))))))) (by rw [sm_at hi, hs]; show some (_, (.inl (_, _, sm_v _ _ _ _) : va_E)) = _; rw [e])
  refine W.aald (v := .ref (Ω.2.1 + q)) (ty := ty) C.1.1 C.1.2.1 hc ((C.2.1.2 t _ ht).1 n (fun j => va_rf ((Y i j).map (fun q => Ω.2.1 + q)))) hty (fun q => by cases q) (by show ¬ (_ < 0 ∨ (arrV _ _ _).slots.size ≤ _); rw [arrV_size]; exact vp_in_nI hj hn) (by show (arrV _ _ _).slots[_]? = _; rw [nI_clamp (Nat.lt_trans hj hn), arrV_read _ _ hj]; show some (va_rf ((Y i j).map _)) = _; rw [hr]; rfl) rfl rfl hd (kk ls H locs hL hP hS)
theorem sg_aast (C : sm_C Γ Ω cc own nL w0) {i n t j q ci : Nat} {fl : List Bool} {cr : vw_C} (hi : i < M) (hs : sm_sh i = .inr (n, t)) (h3 : 3 ≤ t) (ht : (sm_T Ω.2.2.1)[t]? = some (Ω.2.2.1 t, .object cr.1)) (hq : q < M) (hsq : sm_sh q = .inl (ci, fl)) (hc : sm_cl[ci]? = some cr) (hj : j < n) (hn : n < 2 ^ 31) (hd : decode cc pc = .ok (.aastore, 1)) (kk : sm_G Γ Ω M cs sl (pc + 1) L st X (sm_ur Y i j (some q))) : sm_G Γ Ω M cs sl pc L (.ref (Ω.2.1 + q) :: .int (nI j) :: .ref (Ω.2.1 + i) :: st) X Y := by
  intro ls H locs hL hP hS
  have e : ∀ y : Nat → Option Nat, sm_v Ω.2.1 t (X i) y = .inr (.inr (.inr (.inr (fun j => (y j).map (fun q => Ω.2.1 + q))))) := by
    intro y
    unfold sm_v
    rw [if_neg (by omega), if_neg (by omega)]
  refine va_astq C.1.1 C.1.2.1 C.2.1 hP sm_D hS i t q ci (cA := Ω.2.2.1 t) (n := n) (vs := sm_f Ω.2.1 fl (X q) (Y q)) (f := fun j => (Y i j).map (fun q => Ω.2.1 + q)) (by rw [sm_at hi, hs]; show some (_, (.inl (_, _, sm_v _ _ _ _) : va_E)) = _; rw [e]) ht (by rw [sm_at hq, hsq]; rfl) hc (vp_in_nI hj hn) hd (fun H1 locs1 h1 _ h3 => kk ls H1 locs1 hL ?_ h3)
  rw [nI_clamp (Nat.lt_trans hj hn), sm_set (X' := X) (Y' := sm_ur Y i j (some q)) hi ?_ (fun a ha => ⟨rfl, sm_ur_o ha⟩)] at h1
  · exact h1
  · rw [hs]
    show _ = (.inl (Ω.2.2.1 t, n, sm_v Ω.2.1 t (X i) (sm_ur Y i j (some q) i)) : va_E)
    rw [e]
    congr 7
    funext k
    by_cases ek : k = j
    · subst ek; rw [sm_ur_s, va_up_self]; rfl
    · rw [sm_ur_n ek, va_up_ne _ _ ek]
end
end
section
/-! calls: a callee's contract is used at the caller's place -/
theorem sm_blind {Ω : sm_Ω} {M : Nat} {X : sm_X} {Y : sm_R} {av : List Value} : FrameBlind (va_Pc av (sm_B Ω M X Y)) := fun a U g mk h =>
  ⟨h.1, h.2.1, va_K.moved (u := U) (U := U.calling g mk a) (Vm.Alike.refl U.vm) h.2.2.1, h.2.2.2.1, sm_S.same (u := U) (U := U.calling g mk a) h.2.2.2.2 rfl⟩
theorem sm_gi {w0 : Cond} {y : MethodName} {cc : ByteArray} {n : Nat} {ret : Option FieldType} (h : Cond.code y cc n ret ∈ sm_ws) : GoodIn (w0 :: sm_ws) (Cond.code y cc n ret :: sm_ws) := by
  intro w hw
  rcases List.mem_cons.mp hw with rfl | hw
  · exact ⟨List.mem_cons_of_mem _ h, (sm_good _ h).2⟩
  · exact ⟨List.mem_cons_of_mem _ hw, (sm_good _ hw).2⟩
/-- what a call needs of the words -/
def sm_cw (own : String) (index : Nat) (y : MethodName) (cc : ByteArray) (n : Nat) (ret : Option FieldType) (na : Nat) : Prop :=
  Cond.code y cc n ret ∈ sm_ws ∧ Cond.initialized y.cls ∈ sm_ws ∧ Cond.methodLink own index y ∈ sm_ws ∧ (y.cls ≠ "java/lang/invoke/MethodHandle" ∧ y.cls ≠ "java/lang/invoke/VarHandle" ∧ (parseMethodDescriptor y.desc).map (fun d => d.parameters.length) = some na) ∧ n ≤ 11
section
variable {Γ : sm_Γ} {Ω : sm_Ω} {cc : ByteArray} {own : String} {nL : Nat} {w0 : Cond} {M cs sl pc : Nat} {L : List (Option Value)} {X : sm_X} {Y : sm_R} {l : Launch} {d0 mc0 ms0 : Nat} {Pq : Prop}
variable {y : MethodName} {bytes : ByteArray} {n index na d i ci : Nat} {ret : Option FieldType} {As rest : List Value} {fl : List Bool} {cr : vw_C} {post : Option Value → sm_X → sm_R → Prop}
theorem sm_run {ls : Array Slot} {H : Heap} {locs : List Loc} {st0 : List Value} {a : Array Value} (hr : va_Run (sm_p Γ) (sm_la Γ) (sm_e Γ) (sm_rm Γ) (sm_s Γ) (sm_m Γ) (sm_ar Γ) (sm_bl Γ) (sm_me Γ) (sm_c Γ) H locs cs sl 0 0 (F0 (sm_m Γ) pc ls st0) rest (sm_Q Ω M post a) (fun q => Ω.2.1 ≤ q))
    (hL : sm_L ls L) (hS : va_S (fun q => Ω.2.1 ≤ q) (sm_s Γ).heap H locs) (kk : ∀ v X' Y', post v X' Y' → sm_G Γ Ω M cs sl (pc + 3) L (v.toList ++ rest) X' Y') : sm_w Γ H locs cs sl (F0 (sm_m Γ) pc ls st0) := by
  intro T hT Z
  obtain ⟨v, st₀, t, T', L', h0, Z', hL', e1, e2, ⟨⟨v', X2, Y2, hv, hp, hB⟩, hz, hk⟩, stp⟩ := hr T hT Z
  cases hv
  rw [h0] at hz hk
  have hS' : va_S (fun q => Ω.2.1 ≤ q) (sm_s Γ).heap T'.heap (locs ++ L') := ⟨Nat.le_trans hS.1 (by rw [e1]; exact hz), fun q h1 h2 => by rw [e1, hk q (Nat.lt_of_lt_of_le h1 hS.1) h2]; exact hS.2.1 q h1 h2, fun q hq => by
      rcases List.mem_append.mp hq with h | h
      · exact hS.2.2 q h
      · exact hL' q h⟩
  obtain ⟨t2, a1, b1⟩ := kk v X2 Y2 hp ls T'.heap (locs ++ L') hL (by rw [e1]; exact hB.1) hS' T' rfl Z'
  exact ⟨t2, stp t2 a1, b1⟩
theorem sm_callV (C : sm_C Γ Ω cc own nL w0) (I : sm_la Γ = l ∧ sm_rm Γ = sm_room d0 mc0 ms0 ∧ Pq) (hm : sm_met l Ω y bytes n ret d M (.ref (Ω.2.1 + i) :: As) X Y post) (hw : sm_cw own index y bytes n ret na) (hin : Cond.instanceMethod y ∈ sm_ws) (hse : (Cond.selects y.cls y y).before (sm_ar Γ) (sm_s Γ) = true) (hi : i < M) (hs : sm_sh i = .inl (ci, fl)) (hc : sm_cl[ci]? = some cr) (hcr : cr.1 = y.cls)
    (hn : As.length = na) (hd0 : d + 1 ≤ d0) (hcs : cs ≤ mc0 ∧ sl ≤ ms0) (hLn : L.length = nL) (hrest : (rest.map fun v => v.category).sum ≤ 8) (hd : decode cc pc = .ok (.invokevirtual index, 3)) (kk : ∀ v X' Y', post v X' Y' → sm_G Γ Ω M cs sl (pc + 3) L (v.toList ++ rest) X' Y') : sm_G Γ Ω M cs sl pc L (As.reverse ++ .ref (Ω.2.1 + i) :: rest) X Y := by
  intro ls H locs hL hP hS
  obtain ⟨h1, h2, -⟩ := I
  subst h1
  obtain ⟨w1, w2, w3, w4, w5⟩ := hw
  have hts := C.1.2.2.2.2
  have cw := callB_of (R := sm_rm Γ) (s := sm_s Γ) (args := sm_ar Γ) (own := own) (index := index) (rm := sm_room d 0 0) (mc := 0) (ms := 0) na hts (sm_gi (w0 := w0) w1) rfl rfl rfl (hts _ (List.mem_cons_of_mem _ w2)) (hts _ (List.mem_cons_of_mem _ w3)) w4 ⟨by rw [h2]; exact hd0, by rw [h2]; show 8 + (n + 11) + 30 * d ≤ 30 * d0; omega⟩
  have he : (sm_W Ω.2.1 Ω.2.2.1 sm_sh M X Y)[i]? = some (Ω.2.1 + i, .inr (ci, sm_f Ω.2.1 fl (X i) (Y i))) := by rw [sm_at hi, hs]; rfl
  have hrecv := va_recv C.2.1 hP hc he
  rw [hcr] at hrecv
  exact sm_run (va_runV (As := As) (rest := rest) (C := y.cls) C.1 hm ⟨cw, hts _ (List.mem_cons_of_mem _ hin), hse⟩ ⟨sm_blind, hrecv, fun U hU hW => ⟨rfl, sm_B_of C hP hS hU hW⟩⟩ rfl hn (hL.1.1.trans hLn) rfl (lv_room hrest) hd (by rw [h2]; exact hcs)) hL hS kk
theorem sm_callS (C : sm_C Γ Ω cc own nL w0) (I : sm_la Γ = l ∧ sm_rm Γ = sm_room d0 mc0 ms0 ∧ Pq) (hm : sm_met l Ω y bytes n ret d M As X Y post) (hw : sm_cw own index y bytes n ret na) (hst : Cond.static y ∈ sm_ws)
    (hn : As.length = na) (hd0 : d + 1 ≤ d0) (hcs : cs ≤ mc0 ∧ sl ≤ ms0) (hLn : L.length = nL) (hrest : (rest.map fun v => v.category).sum ≤ 8) (hd : decode cc pc = .ok (.invokestatic index, 3)) (kk : ∀ v X' Y', post v X' Y' → sm_G Γ Ω M cs sl (pc + 3) L (v.toList ++ rest) X' Y') : sm_G Γ Ω M cs sl pc L (As.reverse ++ rest) X Y := by
  intro ls H locs hL hP hS
  obtain ⟨h1, h2, -⟩ := I
  subst h1
  obtain ⟨w1, w2, w3, w4, w5⟩ := hw
  have hts := C.1.2.2.2.2
  have cw := callB_of (R := sm_rm Γ) (s := sm_s Γ) (args := sm_ar Γ) (own := own) (index := index) (rm := sm_room d 0 0) (mc := 0) (ms := 0) na hts (sm_gi (w0 := w0) w1) rfl rfl rfl (hts _ (List.mem_cons_of_mem _ w2)) (hts _ (List.mem_cons_of_mem _ w3)) w4 ⟨by rw [h2]; exact hd0, by rw [h2]; show 8 + (n + 11) + 30 * d ≤ 30 * d0; omega⟩
  exact sm_run (va_runS (As := As) (rest := rest) C.1 hm ⟨cw, hts _ (List.mem_cons_of_mem _ hst)⟩ ⟨sm_blind, fun U hU hW => ⟨rfl, sm_B_of C hP hS hU hW⟩⟩ rfl hn (hL.1.1.trans hLn) rfl (lv_room hrest) hd (by rw [h2]; exact hcs)) hL hS kk
end
def sm_det (v : Option Value) (X : sm_X) (Y : sm_R) : Option Value → sm_X → sm_R → Prop := fun v' X' Y' => v' = v ∧ X' = X ∧ Y' = Y
theorem sm_det_i {Γ : sm_Γ} {Ω : sm_Ω} {M cs sl pc : Nat} {L : List (Option Value)} {rest : List Value} {X : sm_X} {Y : sm_R} {u : Value} (kk : sm_G Γ Ω M cs sl pc L (u :: rest) X Y) : ∀ v X' Y', sm_det (some u) X Y v X' Y' → sm_G Γ Ω M cs sl pc L (v.toList ++ rest) X' Y' := by
  rintro v X' Y' ⟨rfl, rfl, rfl⟩
  exact kk
theorem sm_det_v {Γ : sm_Γ} {Ω : sm_Ω} {M cs sl pc : Nat} {L : List (Option Value)} {rest : List Value} {X : sm_X} {Y : sm_R} (kk : sm_G Γ Ω M cs sl pc L rest X Y) : ∀ v X' Y', sm_det none X Y v X' Y' → sm_G Γ Ω M cs sl pc L (v.toList ++ rest) X' Y' := by
  rintro v X' Y' ⟨rfl, rfl, rfl⟩
  exact kk
end
section
/-! static tables, the nest mate's call, reading behind writes -/
theorem sm_up_x {X : sm_X} {c j v a k : Nat} (h : a ≠ c ∨ k ≠ j) : sm_up X c j v a k = X a k := if_neg (fun q => h.elim (fun z => z q.1) (fun z => z q.2))
section
variable {Γ : sm_Γ} {Ω : sm_Ω} {cc : ByteArray} {own : String} {nL : Nat} {w0 : Cond} {M cs sl pc : Nat} {L : List (Option Value)} {st : List Value} {X : sm_X} {Y : sm_R} {l : Launch} {d0 mc0 ms0 : Nat} {Pq : Prop}
theorem sg_gets1 (C : sm_C Γ Ω cc own nL w0) {index : Nat} (hl : Cond.fieldLink own index sm_RM "ROW_OF" "[I" ∈ sm_ws) (hd : decode cc pc = .ok (.getstatic index, 3)) (kk : sm_G Γ Ω M cs sl (pc + 3) L (.ref Ω.2.2.2.1 :: st) X Y) : sm_G Γ Ω M cs sl pc L st X Y := by
  intro ls H locs hL hP hS
  exact va_gets C.1.1 C.1.2.1 C.2.2.2.1.1 hS C.1.2.2.2.1 (C.1.2.2.2.2 _ (List.mem_cons_of_mem _ hl)) (fun _ h => h) hd (kk ls H locs hL hP hS)
theorem sg_gets2 (C : sm_C Γ Ω cc own nL w0) {index : Nat} (hl : Cond.fieldLink own index sm_RM "COLUMN_OF" "[I" ∈ sm_ws) (hd : decode cc pc = .ok (.getstatic index, 3)) (kk : sm_G Γ Ω M cs sl (pc + 3) L (.ref Ω.2.2.2.2 :: st) X Y) : sm_G Γ Ω M cs sl pc L st X Y := by
  intro ls H locs hL hP hS
  exact va_gets C.1.1 C.1.2.1 C.2.2.2.1.2.2.1 hS C.1.2.2.2.1 (C.1.2.2.2.2 _ (List.mem_cons_of_mem _ hl)) (fun _ h => h) hd (kk ls H locs hL hP hS)
theorem sg_tald1 (C : sm_C Γ Ω cc own nL w0) {j : Nat} (hj : j < 30) (hd : decode cc pc = .ok (.iaload, 1)) (kk : sm_G Γ Ω M cs sl (pc + 1) L (.int (nI (sm_row j)) :: st) X Y) : sm_G Γ Ω M cs sl pc L (.int (nI j) :: .ref Ω.2.2.2.1 :: st) X Y := by
  intro ls H locs hL hP hS
  exact va_ti C.1.1 C.1.2.1 C.2.2.2.1.2.1 hS (vp_in_nI hj (by decide)) (by rw [nI_clamp (by omega)]) hd (kk ls H locs hL hP hS)
theorem sg_tald2 (C : sm_C Γ Ω cc own nL w0) {j : Nat} (hj : j < 30) (hd : decode cc pc = .ok (.iaload, 1)) (kk : sm_G Γ Ω M cs sl (pc + 1) L (.int (nI (sm_col j)) :: st) X Y) : sm_G Γ Ω M cs sl pc L (.int (nI j) :: .ref Ω.2.2.2.2 :: st) X Y := by
  intro ls H locs hL hP hS
  exact va_ti C.1.1 C.1.2.1 C.2.2.2.1.2.2.2.1 hS (vp_in_nI hj (by decide)) (by rw [nI_clamp (by omega)]) hd (kk ls H locs hL hP hS)
variable {n d : Nat} {ret : Option FieldType} {bytes : ByteArray} {As rest : List Value} {post : Option Value → sm_X → sm_R → Prop}
theorem sm_callSN (C : sm_C Γ Ω cc RX2 nL w0) (I : sm_la Γ = l ∧ sm_rm Γ = sm_room d0 mc0 ms0 ∧ Pq) (hm : sm_met l Ω y_S_stripesOf bytes n ret d M As X Y post) (w1 : Cond.code y_S_stripesOf bytes n ret ∈ sm_ws) (w2 : Cond.initialized RX6 ∈ sm_ws) (hst : Cond.static y_S_stripesOf ∈ sm_ws) (hnn : n ≤ 11)
    (hn : As.length = 1) (hd0 : d + 1 ≤ d0) (hcs : cs ≤ mc0 ∧ sl ≤ ms0) (hLn : L.length = nL) (hrest : (rest.map fun v => v.category).sum ≤ 8) (hd : decode cc pc = .ok (.invokestatic 20, 3)) (kk : ∀ v X' Y', post v X' Y' → sm_G Γ Ω M cs sl (pc + 3) L (v.toList ++ rest) X' Y') : sm_G Γ Ω M cs sl pc L (As.reverse ++ rest) X Y := by
  intro ls H locs hL hP hS
  obtain ⟨h1, h2, -⟩ := I
  subst h1
  have hts := C.1.2.2.2.2
  have cw := va_cnB (R := sm_rm Γ) (s := sm_s Γ) (args := sm_ar Γ) (own := RX2) (host := RX6) (index := 20) (y := y_S_stripesOf) (rm := sm_room d 0 0) (mc := 0) (ms := 0) 1 hts (sm_gi (w0 := w0) w1) rfl rfl rfl C.2.2.2.1.2.2.2.2.1 (hts _ (List.mem_cons_of_mem _ w2)) ⟨by decide, by decide, by decide +kernel⟩ ⟨by rw [h2]; exact hd0, by rw [h2]; show 8 + (n + 11) + 30 * d ≤ 30 * d0; omega⟩
  exact sm_run (va_runSN (As := As) (rest := rest) C.1 hm ⟨cw, hts _ (List.mem_cons_of_mem _ hst), trivial⟩ ⟨sm_blind, fun U hU hW => ⟨rfl, sm_B_of C hP hS hU hW⟩⟩ rfl hn (hL.1.1.trans hLn) rfl (lv_room hrest) hd (by rw [h2]; exact hcs)) hL hS kk
end
end
section
theorem d_G_times_0 : decode b_G_times 0 = .ok (.iload_n 1, 1) := by decide +kernel
theorem d_G_times_1 : decode b_G_times 1 = .ok (.ifCond .eq (7), 3) := by decide +kernel
theorem d_G_times_4 : decode b_G_times 4 = .ok (.iload_n 2, 1) := by decide +kernel
theorem d_G_times_5 : decode b_G_times 5 = .ok (.ifCond .ne (5), 3) := by decide +kernel
theorem d_G_times_8 : decode b_G_times 8 = .ok (.iconst (0), 1) := by decide +kernel
theorem d_G_times_9 : decode b_G_times 9 = .ok (.ireturn, 1) := by decide +kernel
theorem d_G_times_10 : decode b_G_times 10 = .ok (.aload_n 0, 1) := by decide +kernel
theorem d_G_times_11 : decode b_G_times 11 = .ok (.getfield 11, 3) := by decide +kernel
theorem d_G_times_14 : decode b_G_times 14 = .ok (.aload_n 0, 1) := by decide +kernel
theorem d_G_times_15 : decode b_G_times 15 = .ok (.getfield 15, 3) := by decide +kernel
theorem d_G_times_18 : decode b_G_times 18 = .ok (.iload_n 1, 1) := by decide +kernel
theorem d_G_times_19 : decode b_G_times 19 = .ok (.iaload, 1) := by decide +kernel
theorem d_G_times_20 : decode b_G_times 20 = .ok (.aload_n 0, 1) := by decide +kernel
theorem d_G_times_21 : decode b_G_times 21 = .ok (.getfield 15, 3) := by decide +kernel
theorem d_G_times_24 : decode b_G_times 24 = .ok (.iload_n 2, 1) := by decide +kernel
theorem d_G_times_25 : decode b_G_times 25 = .ok (.iaload, 1) := by decide +kernel
theorem d_G_times_26 : decode b_G_times 26 = .ok (.iadd, 1) := by decide +kernel
theorem d_G_times_27 : decode b_G_times 27 = .ok (.sipush (255), 3) := by decide +kernel
theorem d_G_times_30 : decode b_G_times 30 = .ok (.irem, 1) := by decide +kernel
theorem d_G_times_31 : decode b_G_times 31 = .ok (.iaload, 1) := by decide +kernel
theorem d_G_times_32 : decode b_G_times 32 = .ok (.ireturn, 1) := by decide +kernel
theorem d_G_over_0 : decode b_G_over 0 = .ok (.iload_n 2, 1) := by decide +kernel
theorem d_G_over_1 : decode b_G_over 1 = .ok (.ifCond .eq (7), 3) := by decide +kernel
theorem d_G_over_4 : decode b_G_over 4 = .ok (.iload_n 1, 1) := by decide +kernel
theorem d_G_over_5 : decode b_G_over 5 = .ok (.ifCond .ne (5), 3) := by decide +kernel
theorem d_G_over_8 : decode b_G_over 8 = .ok (.iconst (0), 1) := by decide +kernel
theorem d_G_over_9 : decode b_G_over 9 = .ok (.ireturn, 1) := by decide +kernel
theorem d_G_over_10 : decode b_G_over 10 = .ok (.aload_n 0, 1) := by decide +kernel
theorem d_G_over_11 : decode b_G_over 11 = .ok (.getfield 11, 3) := by decide +kernel
theorem d_G_over_14 : decode b_G_over 14 = .ok (.aload_n 0, 1) := by decide +kernel
theorem d_G_over_15 : decode b_G_over 15 = .ok (.getfield 15, 3) := by decide +kernel
theorem d_G_over_18 : decode b_G_over 18 = .ok (.iload_n 1, 1) := by decide +kernel
theorem d_G_over_19 : decode b_G_over 19 = .ok (.iaload, 1) := by decide +kernel
theorem d_G_over_20 : decode b_G_over 20 = .ok (.aload_n 0, 1) := by decide +kernel
theorem d_G_over_21 : decode b_G_over 21 = .ok (.getfield 15, 3) := by decide +kernel
theorem d_G_over_24 : decode b_G_over 24 = .ok (.iload_n 2, 1) := by decide +kernel
theorem d_G_over_25 : decode b_G_over 25 = .ok (.iaload, 1) := by decide +kernel
theorem d_G_over_26 : decode b_G_over 26 = .ok (.isub, 1) := by decide +kernel
theorem d_G_over_27 : decode b_G_over 27 = .ok (.sipush (255), 3) := by decide +kernel
theorem d_G_over_30 : decode b_G_over 30 = .ok (.iadd, 1) := by decide +kernel
theorem d_G_over_31 : decode b_G_over 31 = .ok (.sipush (255), 3) := by decide +kernel
theorem d_G_over_34 : decode b_G_over 34 = .ok (.irem, 1) := by decide +kernel
theorem d_G_over_35 : decode b_G_over 35 = .ok (.iaload, 1) := by decide +kernel
theorem d_G_over_36 : decode b_G_over 36 = .ok (.ireturn, 1) := by decide +kernel
theorem d_G_valueAt_0 : decode b_G_valueAt 0 = .ok (.iconst (0), 1) := by decide +kernel
theorem d_G_valueAt_1 : decode b_G_valueAt 1 = .ok (.istore 4, 2) := by decide +kernel
theorem d_G_valueAt_3 : decode b_G_valueAt 3 = .ok (.bipush (7), 2) := by decide +kernel
theorem d_G_valueAt_5 : decode b_G_valueAt 5 = .ok (.istore 5, 2) := by decide +kernel
theorem d_G_valueAt_7 : decode b_G_valueAt 7 = .ok (.iload 5, 2) := by decide +kernel
theorem d_G_valueAt_9 : decode b_G_valueAt 9 = .ok (.ifCond .lt (25), 3) := by decide +kernel
theorem d_G_valueAt_12 : decode b_G_valueAt 12 = .ok (.aload_n 0, 1) := by decide +kernel
theorem d_G_valueAt_13 : decode b_G_valueAt 13 = .ok (.iload 4, 2) := by decide +kernel
theorem d_G_valueAt_15 : decode b_G_valueAt 15 = .ok (.iload_n 1, 1) := by decide +kernel
theorem d_G_valueAt_16 : decode b_G_valueAt 16 = .ok (.invokevirtual 18, 3) := by decide +kernel
theorem d_G_valueAt_19 : decode b_G_valueAt 19 = .ok (.aload_n 2, 1) := by decide +kernel
theorem d_G_valueAt_20 : decode b_G_valueAt 20 = .ok (.iload_n 3, 1) := by decide +kernel
theorem d_G_valueAt_21 : decode b_G_valueAt 21 = .ok (.iload 5, 2) := by decide +kernel
theorem d_G_valueAt_23 : decode b_G_valueAt 23 = .ok (.iadd, 1) := by decide +kernel
theorem d_G_valueAt_24 : decode b_G_valueAt 24 = .ok (.iaload, 1) := by decide +kernel
theorem d_G_valueAt_25 : decode b_G_valueAt 25 = .ok (.ixor, 1) := by decide +kernel
theorem d_G_valueAt_26 : decode b_G_valueAt 26 = .ok (.istore 4, 2) := by decide +kernel
theorem d_G_valueAt_28 : decode b_G_valueAt 28 = .ok (.iinc 5 (-1), 3) := by decide +kernel
theorem d_G_valueAt_31 : decode b_G_valueAt 31 = .ok (.goto (-24), 3) := by decide +kernel
theorem d_G_valueAt_34 : decode b_G_valueAt 34 = .ok (.iload 4, 2) := by decide +kernel
theorem d_G_valueAt_36 : decode b_G_valueAt 36 = .ok (.ireturn, 1) := by decide +kernel
theorem d_G_interpolate_0 : decode b_G_interpolate 0 = .ok (.iconst (1), 1) := by decide +kernel
theorem d_G_interpolate_1 : decode b_G_interpolate 1 = .ok (.istore 4, 2) := by decide +kernel
theorem d_G_interpolate_3 : decode b_G_interpolate 3 = .ok (.iload 4, 2) := by decide +kernel
theorem d_G_interpolate_5 : decode b_G_interpolate 5 = .ok (.iload_n 3, 1) := by decide +kernel
theorem d_G_interpolate_6 : decode b_G_interpolate 6 = .ok (.if_icmp .ge (58), 3) := by decide +kernel
theorem d_G_interpolate_9 : decode b_G_interpolate 9 = .ok (.iload_n 3, 1) := by decide +kernel
theorem d_G_interpolate_10 : decode b_G_interpolate 10 = .ok (.iconst (1), 1) := by decide +kernel
theorem d_G_interpolate_11 : decode b_G_interpolate 11 = .ok (.isub, 1) := by decide +kernel
theorem d_G_interpolate_12 : decode b_G_interpolate 12 = .ok (.istore 5, 2) := by decide +kernel
theorem d_G_interpolate_14 : decode b_G_interpolate 14 = .ok (.iload 5, 2) := by decide +kernel
theorem d_G_interpolate_16 : decode b_G_interpolate 16 = .ok (.iload 4, 2) := by decide +kernel
theorem d_G_interpolate_18 : decode b_G_interpolate 18 = .ok (.if_icmp .lt (40), 3) := by decide +kernel
theorem d_G_interpolate_21 : decode b_G_interpolate 21 = .ok (.aload_n 2, 1) := by decide +kernel
theorem d_G_interpolate_22 : decode b_G_interpolate 22 = .ok (.iload 5, 2) := by decide +kernel
theorem d_G_interpolate_24 : decode b_G_interpolate 24 = .ok (.aload_n 0, 1) := by decide +kernel
theorem d_G_interpolate_25 : decode b_G_interpolate 25 = .ok (.aload_n 2, 1) := by decide +kernel
theorem d_G_interpolate_26 : decode b_G_interpolate 26 = .ok (.iload 5, 2) := by decide +kernel
theorem d_G_interpolate_28 : decode b_G_interpolate 28 = .ok (.iaload, 1) := by decide +kernel
theorem d_G_interpolate_29 : decode b_G_interpolate 29 = .ok (.aload_n 2, 1) := by decide +kernel
theorem d_G_interpolate_30 : decode b_G_interpolate 30 = .ok (.iload 5, 2) := by decide +kernel
theorem d_G_interpolate_32 : decode b_G_interpolate 32 = .ok (.iconst (1), 1) := by decide +kernel
theorem d_G_interpolate_33 : decode b_G_interpolate 33 = .ok (.isub, 1) := by decide +kernel
theorem d_G_interpolate_34 : decode b_G_interpolate 34 = .ok (.iaload, 1) := by decide +kernel
theorem d_G_interpolate_35 : decode b_G_interpolate 35 = .ok (.ixor, 1) := by decide +kernel
theorem d_G_interpolate_36 : decode b_G_interpolate 36 = .ok (.aload_n 1, 1) := by decide +kernel
theorem d_G_interpolate_37 : decode b_G_interpolate 37 = .ok (.iload 5, 2) := by decide +kernel
theorem d_G_interpolate_39 : decode b_G_interpolate 39 = .ok (.iaload, 1) := by decide +kernel
theorem d_G_interpolate_40 : decode b_G_interpolate 40 = .ok (.aload_n 1, 1) := by decide +kernel
theorem d_G_interpolate_41 : decode b_G_interpolate 41 = .ok (.iload 5, 2) := by decide +kernel
theorem d_G_interpolate_43 : decode b_G_interpolate 43 = .ok (.iload 4, 2) := by decide +kernel
theorem d_G_interpolate_45 : decode b_G_interpolate 45 = .ok (.isub, 1) := by decide +kernel
theorem d_G_interpolate_46 : decode b_G_interpolate 46 = .ok (.iaload, 1) := by decide +kernel
theorem d_G_interpolate_47 : decode b_G_interpolate 47 = .ok (.ixor, 1) := by decide +kernel
theorem d_G_interpolate_48 : decode b_G_interpolate 48 = .ok (.invokevirtual 22, 3) := by decide +kernel
theorem d_G_interpolate_51 : decode b_G_interpolate 51 = .ok (.iastore, 1) := by decide +kernel
theorem d_G_interpolate_52 : decode b_G_interpolate 52 = .ok (.iinc 5 (-1), 3) := by decide +kernel
theorem d_G_interpolate_55 : decode b_G_interpolate 55 = .ok (.goto (-41), 3) := by decide +kernel
theorem d_G_interpolate_58 : decode b_G_interpolate 58 = .ok (.iinc 4 (1), 3) := by decide +kernel
theorem d_G_interpolate_61 : decode b_G_interpolate 61 = .ok (.goto (-58), 3) := by decide +kernel
theorem d_G_interpolate_64 : decode b_G_interpolate 64 = .ok (.iload_n 3, 1) := by decide +kernel
theorem d_G_interpolate_65 : decode b_G_interpolate 65 = .ok (.iconst (2), 1) := by decide +kernel
theorem d_G_interpolate_66 : decode b_G_interpolate 66 = .ok (.isub, 1) := by decide +kernel
theorem d_G_interpolate_67 : decode b_G_interpolate 67 = .ok (.istore 4, 2) := by decide +kernel
theorem d_G_interpolate_69 : decode b_G_interpolate 69 = .ok (.iload 4, 2) := by decide +kernel
theorem d_G_interpolate_71 : decode b_G_interpolate 71 = .ok (.ifCond .lt (48), 3) := by decide +kernel
theorem d_G_interpolate_74 : decode b_G_interpolate 74 = .ok (.iload 4, 2) := by decide +kernel
theorem d_G_interpolate_76 : decode b_G_interpolate 76 = .ok (.istore 5, 2) := by decide +kernel
theorem d_G_interpolate_78 : decode b_G_interpolate 78 = .ok (.iload 5, 2) := by decide +kernel
theorem d_G_interpolate_80 : decode b_G_interpolate 80 = .ok (.iload_n 3, 1) := by decide +kernel
theorem d_G_interpolate_81 : decode b_G_interpolate 81 = .ok (.iconst (1), 1) := by decide +kernel
theorem d_G_interpolate_82 : decode b_G_interpolate 82 = .ok (.isub, 1) := by decide +kernel
theorem d_G_interpolate_83 : decode b_G_interpolate 83 = .ok (.if_icmp .ge (30), 3) := by decide +kernel
theorem d_G_interpolate_86 : decode b_G_interpolate 86 = .ok (.aload_n 2, 1) := by decide +kernel
theorem d_G_interpolate_87 : decode b_G_interpolate 87 = .ok (.iload 5, 2) := by decide +kernel
theorem d_G_interpolate_89 : decode b_G_interpolate 89 = .ok (.dup2, 1) := by decide +kernel
theorem d_G_interpolate_90 : decode b_G_interpolate 90 = .ok (.iaload, 1) := by decide +kernel
theorem d_G_interpolate_91 : decode b_G_interpolate 91 = .ok (.aload_n 0, 1) := by decide +kernel
theorem d_G_interpolate_92 : decode b_G_interpolate 92 = .ok (.aload_n 2, 1) := by decide +kernel
theorem d_G_interpolate_93 : decode b_G_interpolate 93 = .ok (.iload 5, 2) := by decide +kernel
theorem d_G_interpolate_95 : decode b_G_interpolate 95 = .ok (.iconst (1), 1) := by decide +kernel
theorem d_G_interpolate_96 : decode b_G_interpolate 96 = .ok (.iadd, 1) := by decide +kernel
theorem d_G_interpolate_97 : decode b_G_interpolate 97 = .ok (.iaload, 1) := by decide +kernel
theorem d_G_interpolate_98 : decode b_G_interpolate 98 = .ok (.aload_n 1, 1) := by decide +kernel
theorem d_G_interpolate_99 : decode b_G_interpolate 99 = .ok (.iload 4, 2) := by decide +kernel
theorem d_G_interpolate_101 : decode b_G_interpolate 101 = .ok (.iaload, 1) := by decide +kernel
theorem d_G_interpolate_102 : decode b_G_interpolate 102 = .ok (.invokevirtual 18, 3) := by decide +kernel
theorem d_G_interpolate_105 : decode b_G_interpolate 105 = .ok (.ixor, 1) := by decide +kernel
theorem d_G_interpolate_106 : decode b_G_interpolate 106 = .ok (.iastore, 1) := by decide +kernel
theorem d_G_interpolate_107 : decode b_G_interpolate 107 = .ok (.iinc 5 (1), 3) := by decide +kernel
theorem d_G_interpolate_110 : decode b_G_interpolate 110 = .ok (.goto (-32), 3) := by decide +kernel
theorem d_G_interpolate_113 : decode b_G_interpolate 113 = .ok (.iinc 4 (-1), 3) := by decide +kernel
theorem d_G_interpolate_116 : decode b_G_interpolate 116 = .ok (.goto (-47), 3) := by decide +kernel
theorem d_G_interpolate_119 : decode b_G_interpolate 119 = .ok (.return_, 1) := by decide +kernel
theorem d_I_begin_0 : decode b_I_begin 0 = .ok (.aload_n 0, 1) := by decide +kernel
theorem d_I_begin_1 : decode b_I_begin 1 = .ok (.dup, 1) := by decide +kernel
theorem d_I_begin_2 : decode b_I_begin 2 = .ok (.getfield 16, 3) := by decide +kernel
theorem d_I_begin_5 : decode b_I_begin 5 = .ok (.iconst (1), 1) := by decide +kernel
theorem d_I_begin_6 : decode b_I_begin 6 = .ok (.iadd, 1) := by decide +kernel
theorem d_I_begin_7 : decode b_I_begin 7 = .ok (.putfield 16, 3) := by decide +kernel
theorem d_I_begin_10 : decode b_I_begin 10 = .ok (.aload_n 0, 1) := by decide +kernel
theorem d_I_begin_11 : decode b_I_begin 11 = .ok (.iload_n 1, 1) := by decide +kernel
theorem d_I_begin_12 : decode b_I_begin 12 = .ok (.putfield 19, 3) := by decide +kernel
theorem d_I_begin_15 : decode b_I_begin 15 = .ok (.aload_n 0, 1) := by decide +kernel
theorem d_I_begin_16 : decode b_I_begin 16 = .ok (.iconst (1), 1) := by decide +kernel
theorem d_I_begin_17 : decode b_I_begin 17 = .ok (.putfield 22, 3) := by decide +kernel
theorem d_I_begin_20 : decode b_I_begin 20 = .ok (.return_, 1) := by decide +kernel
theorem d_I_finish_0 : decode b_I_finish 0 = .ok (.iload_n 1, 1) := by decide +kernel
theorem d_I_finish_1 : decode b_I_finish 1 = .ok (.ifCond .eq (19), 3) := by decide +kernel
theorem d_I_finish_4 : decode b_I_finish 4 = .ok (.aload_n 0, 1) := by decide +kernel
theorem d_I_finish_5 : decode b_I_finish 5 = .ok (.aload_n 0, 1) := by decide +kernel
theorem d_I_finish_6 : decode b_I_finish 6 = .ok (.getfield 16, 3) := by decide +kernel
theorem d_I_finish_9 : decode b_I_finish 9 = .ok (.putfield 7, 3) := by decide +kernel
theorem d_I_finish_12 : decode b_I_finish 12 = .ok (.aload_n 0, 1) := by decide +kernel
theorem d_I_finish_13 : decode b_I_finish 13 = .ok (.aload_n 0, 1) := by decide +kernel
theorem d_I_finish_14 : decode b_I_finish 14 = .ok (.getfield 19, 3) := by decide +kernel
theorem d_I_finish_17 : decode b_I_finish 17 = .ok (.putfield 13, 3) := by decide +kernel
theorem d_I_finish_20 : decode b_I_finish 20 = .ok (.aload_n 0, 1) := by decide +kernel
theorem d_I_finish_21 : decode b_I_finish 21 = .ok (.iconst (0), 1) := by decide +kernel
theorem d_I_finish_22 : decode b_I_finish 22 = .ok (.putfield 22, 3) := by decide +kernel
theorem d_I_finish_25 : decode b_I_finish 25 = .ok (.return_, 1) := by decide +kernel
theorem d_H_become_0 : decode b_H_become 0 = .ok (.aload_n 0, 1) := by decide +kernel
theorem d_H_become_1 : decode b_H_become 1 = .ok (.iload_n 1, 1) := by decide +kernel
theorem d_H_become_2 : decode b_H_become 2 = .ok (.putfield 9, 3) := by decide +kernel
theorem d_H_become_5 : decode b_H_become 5 = .ok (.aload_n 0, 1) := by decide +kernel
theorem d_H_become_6 : decode b_H_become 6 = .ok (.iload_n 2, 1) := by decide +kernel
theorem d_H_become_7 : decode b_H_become 7 = .ok (.putfield 15, 3) := by decide +kernel
theorem d_H_become_10 : decode b_H_become 10 = .ok (.return_, 1) := by decide +kernel
theorem d_T_clear_0 : decode b_T_clear 0 = .ok (.aload_n 0, 1) := by decide +kernel
theorem d_T_clear_1 : decode b_T_clear 1 = .ok (.iconst (0), 1) := by decide +kernel
theorem d_T_clear_2 : decode b_T_clear 2 = .ok (.putfield 18, 3) := by decide +kernel
theorem d_T_clear_5 : decode b_T_clear 5 = .ok (.return_, 1) := by decide +kernel
theorem d_T_add_0 : decode b_T_add 0 = .ok (.aload_n 0, 1) := by decide +kernel
theorem d_T_add_1 : decode b_T_add 1 = .ok (.getfield 18, 3) := by decide +kernel
theorem d_T_add_4 : decode b_T_add 4 = .ok (.bipush (8), 2) := by decide +kernel
theorem d_T_add_6 : decode b_T_add 6 = .ok (.if_icmp .ge (35), 3) := by decide +kernel
theorem d_T_add_9 : decode b_T_add 9 = .ok (.aload_n 0, 1) := by decide +kernel
theorem d_T_add_10 : decode b_T_add 10 = .ok (.getfield 9, 3) := by decide +kernel
theorem d_T_add_13 : decode b_T_add 13 = .ok (.aload_n 0, 1) := by decide +kernel
theorem d_T_add_14 : decode b_T_add 14 = .ok (.getfield 18, 3) := by decide +kernel
theorem d_T_add_17 : decode b_T_add 17 = .ok (.iload_n 1, 1) := by decide +kernel
theorem d_T_add_18 : decode b_T_add 18 = .ok (.iastore, 1) := by decide +kernel
theorem d_T_add_19 : decode b_T_add 19 = .ok (.aload_n 0, 1) := by decide +kernel
theorem d_T_add_20 : decode b_T_add 20 = .ok (.getfield 15, 3) := by decide +kernel
theorem d_T_add_23 : decode b_T_add 23 = .ok (.aload_n 0, 1) := by decide +kernel
theorem d_T_add_24 : decode b_T_add 24 = .ok (.getfield 18, 3) := by decide +kernel
theorem d_T_add_27 : decode b_T_add 27 = .ok (.iload_n 1, 1) := by decide +kernel
theorem d_T_add_28 : decode b_T_add 28 = .ok (.iconst (1), 1) := by decide +kernel
theorem d_T_add_29 : decode b_T_add 29 = .ok (.iadd, 1) := by decide +kernel
theorem d_T_add_30 : decode b_T_add 30 = .ok (.iastore, 1) := by decide +kernel
theorem d_T_add_31 : decode b_T_add 31 = .ok (.aload_n 0, 1) := by decide +kernel
theorem d_T_add_32 : decode b_T_add 32 = .ok (.dup, 1) := by decide +kernel
theorem d_T_add_33 : decode b_T_add 33 = .ok (.getfield 18, 3) := by decide +kernel
theorem d_T_add_36 : decode b_T_add 36 = .ok (.iconst (1), 1) := by decide +kernel
theorem d_T_add_37 : decode b_T_add 37 = .ok (.iadd, 1) := by decide +kernel
theorem d_T_add_38 : decode b_T_add 38 = .ok (.putfield 18, 3) := by decide +kernel
theorem d_T_add_41 : decode b_T_add 41 = .ok (.return_, 1) := by decide +kernel
theorem d_N_turnShadow_0 : decode b_N_turnShadow 0 = .ok (.aload_n 0, 1) := by decide +kernel
theorem d_N_turnShadow_1 : decode b_N_turnShadow 1 = .ok (.getfield 11, 3) := by decide +kernel
theorem d_N_turnShadow_4 : decode b_N_turnShadow 4 = .ok (.iload_n 1, 1) := by decide +kernel
theorem d_N_turnShadow_5 : decode b_N_turnShadow 5 = .ok (.aaload, 1) := by decide +kernel
theorem d_N_turnShadow_6 : decode b_N_turnShadow 6 = .ok (.astore_n 2, 1) := by decide +kernel
theorem d_N_turnShadow_7 : decode b_N_turnShadow 7 = .ok (.aload_n 0, 1) := by decide +kernel
theorem d_N_turnShadow_8 : decode b_N_turnShadow 8 = .ok (.getfield 11, 3) := by decide +kernel
theorem d_N_turnShadow_11 : decode b_N_turnShadow 11 = .ok (.iload_n 1, 1) := by decide +kernel
theorem d_N_turnShadow_12 : decode b_N_turnShadow 12 = .ok (.aload_n 0, 1) := by decide +kernel
theorem d_N_turnShadow_13 : decode b_N_turnShadow 13 = .ok (.getfield 17, 3) := by decide +kernel
theorem d_N_turnShadow_16 : decode b_N_turnShadow 16 = .ok (.iload_n 1, 1) := by decide +kernel
theorem d_N_turnShadow_17 : decode b_N_turnShadow 17 = .ok (.aaload, 1) := by decide +kernel
theorem d_N_turnShadow_18 : decode b_N_turnShadow 18 = .ok (.aastore, 1) := by decide +kernel
theorem d_N_turnShadow_19 : decode b_N_turnShadow 19 = .ok (.aload_n 0, 1) := by decide +kernel
theorem d_N_turnShadow_20 : decode b_N_turnShadow 20 = .ok (.getfield 17, 3) := by decide +kernel
theorem d_N_turnShadow_23 : decode b_N_turnShadow 23 = .ok (.iload_n 1, 1) := by decide +kernel
theorem d_N_turnShadow_24 : decode b_N_turnShadow 24 = .ok (.aload_n 2, 1) := by decide +kernel
theorem d_N_turnShadow_25 : decode b_N_turnShadow 25 = .ok (.aastore, 1) := by decide +kernel
theorem d_N_turnShadow_26 : decode b_N_turnShadow 26 = .ok (.aload_n 2, 1) := by decide +kernel
theorem d_N_turnShadow_27 : decode b_N_turnShadow 27 = .ok (.iconst (0), 1) := by decide +kernel
theorem d_N_turnShadow_28 : decode b_N_turnShadow 28 = .ok (.iconst (0), 1) := by decide +kernel
theorem d_N_turnShadow_29 : decode b_N_turnShadow 29 = .ok (.invokevirtual 32, 3) := by decide +kernel
theorem d_N_turnShadow_32 : decode b_N_turnShadow 32 = .ok (.return_, 1) := by decide +kernel
theorem d_N_comeBack_0 : decode b_N_comeBack 0 = .ok (.aload_n 0, 1) := by decide +kernel
theorem d_N_comeBack_1 : decode b_N_comeBack 1 = .ok (.iconst (1), 1) := by decide +kernel
theorem d_N_comeBack_2 : decode b_N_comeBack 2 = .ok (.putfield 20, 3) := by decide +kernel
theorem d_N_comeBack_5 : decode b_N_comeBack 5 = .ok (.iconst (0), 1) := by decide +kernel
theorem d_N_comeBack_6 : decode b_N_comeBack 6 = .ok (.istore_n 2, 1) := by decide +kernel
theorem d_N_comeBack_7 : decode b_N_comeBack 7 = .ok (.iload_n 2, 1) := by decide +kernel
theorem d_N_comeBack_8 : decode b_N_comeBack 8 = .ok (.bipush (12), 2) := by decide +kernel
theorem d_N_comeBack_10 : decode b_N_comeBack 10 = .ok (.if_icmp .ge (35), 3) := by decide +kernel
theorem d_N_comeBack_13 : decode b_N_comeBack 13 = .ok (.aload_n 0, 1) := by decide +kernel
theorem d_N_comeBack_14 : decode b_N_comeBack 14 = .ok (.getfield 17, 3) := by decide +kernel
theorem d_N_comeBack_17 : decode b_N_comeBack 17 = .ok (.iload_n 2, 1) := by decide +kernel
theorem d_N_comeBack_18 : decode b_N_comeBack 18 = .ok (.aaload, 1) := by decide +kernel
theorem d_N_comeBack_19 : decode b_N_comeBack 19 = .ok (.iconst (0), 1) := by decide +kernel
theorem d_N_comeBack_20 : decode b_N_comeBack 20 = .ok (.iconst (0), 1) := by decide +kernel
theorem d_N_comeBack_21 : decode b_N_comeBack 21 = .ok (.invokevirtual 32, 3) := by decide +kernel
theorem d_N_comeBack_24 : decode b_N_comeBack 24 = .ok (.iload_n 1, 1) := by decide +kernel
theorem d_N_comeBack_25 : decode b_N_comeBack 25 = .ok (.ifCond .eq (14), 3) := by decide +kernel
theorem d_N_comeBack_28 : decode b_N_comeBack 28 = .ok (.aload_n 0, 1) := by decide +kernel
theorem d_N_comeBack_29 : decode b_N_comeBack 29 = .ok (.getfield 11, 3) := by decide +kernel
theorem d_N_comeBack_32 : decode b_N_comeBack 32 = .ok (.iload_n 2, 1) := by decide +kernel
theorem d_N_comeBack_33 : decode b_N_comeBack 33 = .ok (.aaload, 1) := by decide +kernel
theorem d_N_comeBack_34 : decode b_N_comeBack 34 = .ok (.iconst (0), 1) := by decide +kernel
theorem d_N_comeBack_35 : decode b_N_comeBack 35 = .ok (.iconst (0), 1) := by decide +kernel
theorem d_N_comeBack_36 : decode b_N_comeBack 36 = .ok (.invokevirtual 32, 3) := by decide +kernel
theorem d_N_comeBack_39 : decode b_N_comeBack 39 = .ok (.iinc 2 (1), 3) := by decide +kernel
theorem d_N_comeBack_42 : decode b_N_comeBack 42 = .ok (.goto (-35), 3) := by decide +kernel
theorem d_N_comeBack_45 : decode b_N_comeBack 45 = .ok (.return_, 1) := by decide +kernel
theorem d_N_countShadows_0 : decode b_N_countShadows 0 = .ok (.iconst (0), 1) := by decide +kernel
theorem d_N_countShadows_1 : decode b_N_countShadows 1 = .ok (.istore_n 1, 1) := by decide +kernel
theorem d_N_countShadows_2 : decode b_N_countShadows 2 = .ok (.iconst (0), 1) := by decide +kernel
theorem d_N_countShadows_3 : decode b_N_countShadows 3 = .ok (.istore_n 2, 1) := by decide +kernel
theorem d_N_countShadows_4 : decode b_N_countShadows 4 = .ok (.iload_n 2, 1) := by decide +kernel
theorem d_N_countShadows_5 : decode b_N_countShadows 5 = .ok (.bipush (12), 2) := by decide +kernel
theorem d_N_countShadows_7 : decode b_N_countShadows 7 = .ok (.if_icmp .ge (24), 3) := by decide +kernel
theorem d_N_countShadows_10 : decode b_N_countShadows 10 = .ok (.aload_n 0, 1) := by decide +kernel
theorem d_N_countShadows_11 : decode b_N_countShadows 11 = .ok (.getfield 17, 3) := by decide +kernel
theorem d_N_countShadows_14 : decode b_N_countShadows 14 = .ok (.iload_n 2, 1) := by decide +kernel
theorem d_N_countShadows_15 : decode b_N_countShadows 15 = .ok (.aaload, 1) := by decide +kernel
theorem d_N_countShadows_16 : decode b_N_countShadows 16 = .ok (.getfield 36, 3) := by decide +kernel
theorem d_N_countShadows_19 : decode b_N_countShadows 19 = .ok (.ifCond .eq (6), 3) := by decide +kernel
theorem d_N_countShadows_22 : decode b_N_countShadows 22 = .ok (.iinc 1 (1), 3) := by decide +kernel
theorem d_N_countShadows_25 : decode b_N_countShadows 25 = .ok (.iinc 2 (1), 3) := by decide +kernel
theorem d_N_countShadows_28 : decode b_N_countShadows 28 = .ok (.goto (-24), 3) := by decide +kernel
theorem d_N_countShadows_31 : decode b_N_countShadows 31 = .ok (.iload_n 1, 1) := by decide +kernel
theorem d_N_countShadows_32 : decode b_N_countShadows 32 = .ok (.ireturn, 1) := by decide +kernel
theorem d_M_fill_0 : decode b_M_fill 0 = .ok (.bipush (30), 2) := by decide +kernel
theorem d_M_fill_2 : decode b_M_fill 2 = .ok (.iload_n 2, 1) := by decide +kernel
theorem d_M_fill_3 : decode b_M_fill 3 = .ok (.invokestatic 20, 3) := by decide +kernel
theorem d_M_fill_6 : decode b_M_fill 6 = .ok (.imul, 1) := by decide +kernel
theorem d_M_fill_7 : decode b_M_fill 7 = .ok (.istore_n 3, 1) := by decide +kernel
theorem d_M_fill_8 : decode b_M_fill 8 = .ok (.iconst (0), 1) := by decide +kernel
theorem d_M_fill_9 : decode b_M_fill 9 = .ok (.istore 4, 2) := by decide +kernel
theorem d_M_fill_11 : decode b_M_fill 11 = .ok (.iload 4, 2) := by decide +kernel
theorem d_M_fill_13 : decode b_M_fill 13 = .ok (.iload_n 3, 1) := by decide +kernel
theorem d_M_fill_14 : decode b_M_fill 14 = .ok (.if_icmp .ge (87), 3) := by decide +kernel
theorem d_M_fill_17 : decode b_M_fill 17 = .ok (.bipush (8), 2) := by decide +kernel
theorem d_M_fill_19 : decode b_M_fill 19 = .ok (.iload 4, 2) := by decide +kernel
theorem d_M_fill_21 : decode b_M_fill 21 = .ok (.bipush (30), 2) := by decide +kernel
theorem d_M_fill_23 : decode b_M_fill 23 = .ok (.idiv, 1) := by decide +kernel
theorem d_M_fill_24 : decode b_M_fill 24 = .ok (.imul, 1) := by decide +kernel
theorem d_M_fill_25 : decode b_M_fill 25 = .ok (.istore 5, 2) := by decide +kernel
theorem d_M_fill_27 : decode b_M_fill 27 = .ok (.getstatic 24, 3) := by decide +kernel
theorem d_M_fill_30 : decode b_M_fill 30 = .ok (.iload 4, 2) := by decide +kernel
theorem d_M_fill_32 : decode b_M_fill 32 = .ok (.bipush (30), 2) := by decide +kernel
theorem d_M_fill_34 : decode b_M_fill 34 = .ok (.irem, 1) := by decide +kernel
theorem d_M_fill_35 : decode b_M_fill 35 = .ok (.iaload, 1) := by decide +kernel
theorem d_M_fill_36 : decode b_M_fill 36 = .ok (.istore 6, 2) := by decide +kernel
theorem d_M_fill_38 : decode b_M_fill 38 = .ok (.getstatic 27, 3) := by decide +kernel
theorem d_M_fill_41 : decode b_M_fill 41 = .ok (.iload 4, 2) := by decide +kernel
theorem d_M_fill_43 : decode b_M_fill 43 = .ok (.bipush (30), 2) := by decide +kernel
theorem d_M_fill_45 : decode b_M_fill 45 = .ok (.irem, 1) := by decide +kernel
theorem d_M_fill_46 : decode b_M_fill 46 = .ok (.iaload, 1) := by decide +kernel
theorem d_M_fill_47 : decode b_M_fill 47 = .ok (.istore 7, 2) := by decide +kernel
theorem d_M_fill_49 : decode b_M_fill 49 = .ok (.iload 4, 2) := by decide +kernel
theorem d_M_fill_51 : decode b_M_fill 51 = .ok (.iload_n 2, 1) := by decide +kernel
theorem d_M_fill_52 : decode b_M_fill 52 = .ok (.if_icmp .ge (10), 3) := by decide +kernel
theorem d_M_fill_55 : decode b_M_fill 55 = .ok (.aload_n 1, 1) := by decide +kernel
theorem d_M_fill_56 : decode b_M_fill 56 = .ok (.iload 4, 2) := by decide +kernel
theorem d_M_fill_58 : decode b_M_fill 58 = .ok (.iaload, 1) := by decide +kernel
theorem d_M_fill_59 : decode b_M_fill 59 = .ok (.goto (4), 3) := by decide +kernel
theorem d_M_fill_62 : decode b_M_fill 62 = .ok (.iconst (0), 1) := by decide +kernel
theorem d_M_fill_63 : decode b_M_fill 63 = .ok (.istore 8, 2) := by decide +kernel
theorem d_M_fill_65 : decode b_M_fill 65 = .ok (.aload_n 0, 1) := by decide +kernel
theorem d_M_fill_66 : decode b_M_fill 66 = .ok (.getfield 11, 3) := by decide +kernel
theorem d_M_fill_69 : decode b_M_fill 69 = .ok (.iload 5, 2) := by decide +kernel
theorem d_M_fill_71 : decode b_M_fill 71 = .ok (.iload 6, 2) := by decide +kernel
theorem d_M_fill_73 : decode b_M_fill 73 = .ok (.iadd, 1) := by decide +kernel
theorem d_M_fill_74 : decode b_M_fill 74 = .ok (.aaload, 1) := by decide +kernel
theorem d_M_fill_75 : decode b_M_fill 75 = .ok (.iload 7, 2) := by decide +kernel
theorem d_M_fill_77 : decode b_M_fill 77 = .ok (.iload 8, 2) := by decide +kernel
theorem d_M_fill_79 : decode b_M_fill 79 = .ok (.iastore, 1) := by decide +kernel
theorem d_M_fill_80 : decode b_M_fill 80 = .ok (.aload_n 0, 1) := by decide +kernel
theorem d_M_fill_81 : decode b_M_fill 81 = .ok (.getfield 11, 3) := by decide +kernel
theorem d_M_fill_84 : decode b_M_fill 84 = .ok (.iload 5, 2) := by decide +kernel
theorem d_M_fill_86 : decode b_M_fill 86 = .ok (.iload 7, 2) := by decide +kernel
theorem d_M_fill_88 : decode b_M_fill 88 = .ok (.iadd, 1) := by decide +kernel
theorem d_M_fill_89 : decode b_M_fill 89 = .ok (.aaload, 1) := by decide +kernel
theorem d_M_fill_90 : decode b_M_fill 90 = .ok (.iload 6, 2) := by decide +kernel
theorem d_M_fill_92 : decode b_M_fill 92 = .ok (.iload 8, 2) := by decide +kernel
theorem d_M_fill_94 : decode b_M_fill 94 = .ok (.iastore, 1) := by decide +kernel
theorem d_M_fill_95 : decode b_M_fill 95 = .ok (.iinc 4 (1), 3) := by decide +kernel
theorem d_M_fill_98 : decode b_M_fill 98 = .ok (.goto (-87), 3) := by decide +kernel
theorem d_M_fill_101 : decode b_M_fill 101 = .ok (.return_, 1) := by decide +kernel
theorem d_M_spill_0 : decode b_M_spill 0 = .ok (.iconst (0), 1) := by decide +kernel
theorem d_M_spill_1 : decode b_M_spill 1 = .ok (.istore_n 3, 1) := by decide +kernel
theorem d_M_spill_2 : decode b_M_spill 2 = .ok (.iload_n 3, 1) := by decide +kernel
theorem d_M_spill_3 : decode b_M_spill 3 = .ok (.iload_n 2, 1) := by decide +kernel
theorem d_M_spill_4 : decode b_M_spill 4 = .ok (.if_icmp .ge (46), 3) := by decide +kernel
theorem d_M_spill_7 : decode b_M_spill 7 = .ok (.bipush (8), 2) := by decide +kernel
theorem d_M_spill_9 : decode b_M_spill 9 = .ok (.iload_n 3, 1) := by decide +kernel
theorem d_M_spill_10 : decode b_M_spill 10 = .ok (.bipush (30), 2) := by decide +kernel
theorem d_M_spill_12 : decode b_M_spill 12 = .ok (.idiv, 1) := by decide +kernel
theorem d_M_spill_13 : decode b_M_spill 13 = .ok (.imul, 1) := by decide +kernel
theorem d_M_spill_14 : decode b_M_spill 14 = .ok (.istore 4, 2) := by decide +kernel
theorem d_M_spill_16 : decode b_M_spill 16 = .ok (.aload_n 1, 1) := by decide +kernel
theorem d_M_spill_17 : decode b_M_spill 17 = .ok (.iload_n 3, 1) := by decide +kernel
theorem d_M_spill_18 : decode b_M_spill 18 = .ok (.aload_n 0, 1) := by decide +kernel
theorem d_M_spill_19 : decode b_M_spill 19 = .ok (.getfield 11, 3) := by decide +kernel
theorem d_M_spill_22 : decode b_M_spill 22 = .ok (.iload 4, 2) := by decide +kernel
theorem d_M_spill_24 : decode b_M_spill 24 = .ok (.getstatic 24, 3) := by decide +kernel
theorem d_M_spill_27 : decode b_M_spill 27 = .ok (.iload_n 3, 1) := by decide +kernel
theorem d_M_spill_28 : decode b_M_spill 28 = .ok (.bipush (30), 2) := by decide +kernel
theorem d_M_spill_30 : decode b_M_spill 30 = .ok (.irem, 1) := by decide +kernel
theorem d_M_spill_31 : decode b_M_spill 31 = .ok (.iaload, 1) := by decide +kernel
theorem d_M_spill_32 : decode b_M_spill 32 = .ok (.iadd, 1) := by decide +kernel
theorem d_M_spill_33 : decode b_M_spill 33 = .ok (.aaload, 1) := by decide +kernel
theorem d_M_spill_34 : decode b_M_spill 34 = .ok (.getstatic 27, 3) := by decide +kernel
theorem d_M_spill_37 : decode b_M_spill 37 = .ok (.iload_n 3, 1) := by decide +kernel
theorem d_M_spill_38 : decode b_M_spill 38 = .ok (.bipush (30), 2) := by decide +kernel
theorem d_M_spill_40 : decode b_M_spill 40 = .ok (.irem, 1) := by decide +kernel
theorem d_M_spill_41 : decode b_M_spill 41 = .ok (.iaload, 1) := by decide +kernel
theorem d_M_spill_42 : decode b_M_spill 42 = .ok (.iaload, 1) := by decide +kernel
theorem d_M_spill_43 : decode b_M_spill 43 = .ok (.iastore, 1) := by decide +kernel
theorem d_M_spill_44 : decode b_M_spill 44 = .ok (.iinc 3 (1), 3) := by decide +kernel
theorem d_M_spill_47 : decode b_M_spill 47 = .ok (.goto (-45), 3) := by decide +kernel
theorem d_M_spill_50 : decode b_M_spill 50 = .ok (.return_, 1) := by decide +kernel
theorem d_M_encode_0 : decode b_M_encode 0 = .ok (.bipush (8), 2) := by decide +kernel
theorem d_M_encode_2 : decode b_M_encode 2 = .ok (.aload_n 3, 1) := by decide +kernel
theorem d_M_encode_3 : decode b_M_encode 3 = .ok (.getfield 30, 3) := by decide +kernel
theorem d_M_encode_6 : decode b_M_encode 6 = .ok (.invokestatic 20, 3) := by decide +kernel
theorem d_M_encode_9 : decode b_M_encode 9 = .ok (.imul, 1) := by decide +kernel
theorem d_M_encode_10 : decode b_M_encode 10 = .ok (.istore 4, 2) := by decide +kernel
theorem d_M_encode_12 : decode b_M_encode 12 = .ok (.iconst (0), 1) := by decide +kernel
theorem d_M_encode_13 : decode b_M_encode 13 = .ok (.istore 5, 2) := by decide +kernel
theorem d_M_encode_15 : decode b_M_encode 15 = .ok (.iload 5, 2) := by decide +kernel
theorem d_M_encode_17 : decode b_M_encode 17 = .ok (.iload 4, 2) := by decide +kernel
theorem d_M_encode_19 : decode b_M_encode 19 = .ok (.if_icmp .ge (29), 3) := by decide +kernel
theorem d_M_encode_22 : decode b_M_encode 22 = .ok (.aload_n 3, 1) := by decide +kernel
theorem d_M_encode_23 : decode b_M_encode 23 = .ok (.getfield 36, 3) := by decide +kernel
theorem d_M_encode_26 : decode b_M_encode 26 = .ok (.iload 5, 2) := by decide +kernel
theorem d_M_encode_28 : decode b_M_encode 28 = .ok (.aload_n 1, 1) := by decide +kernel
theorem d_M_encode_29 : decode b_M_encode 29 = .ok (.iload_n 2, 1) := by decide +kernel
theorem d_M_encode_30 : decode b_M_encode 30 = .ok (.aload_n 0, 1) := by decide +kernel
theorem d_M_encode_31 : decode b_M_encode 31 = .ok (.getfield 11, 3) := by decide +kernel
theorem d_M_encode_34 : decode b_M_encode 34 = .ok (.iload 5, 2) := by decide +kernel
theorem d_M_encode_36 : decode b_M_encode 36 = .ok (.aaload, 1) := by decide +kernel
theorem d_M_encode_37 : decode b_M_encode 37 = .ok (.iconst (0), 1) := by decide +kernel
theorem d_M_encode_38 : decode b_M_encode 38 = .ok (.invokevirtual 39, 3) := by decide +kernel
theorem d_M_encode_41 : decode b_M_encode 41 = .ok (.iastore, 1) := by decide +kernel
theorem d_M_encode_42 : decode b_M_encode 42 = .ok (.iinc 5 (1), 3) := by decide +kernel
theorem d_M_encode_45 : decode b_M_encode 45 = .ok (.goto (-30), 3) := by decide +kernel
theorem d_M_encode_48 : decode b_M_encode 48 = .ok (.return_, 1) := by decide +kernel
theorem d_M_decode_0 : decode b_M_decode 0 = .ok (.bipush (8), 2) := by decide +kernel
theorem d_M_decode_2 : decode b_M_decode 2 = .ok (.iload 5, 2) := by decide +kernel
theorem d_M_decode_4 : decode b_M_decode 4 = .ok (.invokestatic 20, 3) := by decide +kernel
theorem d_M_decode_7 : decode b_M_decode 7 = .ok (.imul, 1) := by decide +kernel
theorem d_M_decode_8 : decode b_M_decode 8 = .ok (.iconst (1), 1) := by decide +kernel
theorem d_M_decode_9 : decode b_M_decode 9 = .ok (.isub, 1) := by decide +kernel
theorem d_M_decode_10 : decode b_M_decode 10 = .ok (.istore 6, 2) := by decide +kernel
theorem d_M_decode_12 : decode b_M_decode 12 = .ok (.iload 6, 2) := by decide +kernel
theorem d_M_decode_14 : decode b_M_decode 14 = .ok (.ifCond .lt (108), 3) := by decide +kernel
theorem d_M_decode_17 : decode b_M_decode 17 = .ok (.aload_n 0, 1) := by decide +kernel
theorem d_M_decode_18 : decode b_M_decode 18 = .ok (.aload_n 0, 1) := by decide +kernel
theorem d_M_decode_19 : decode b_M_decode 19 = .ok (.getfield 11, 3) := by decide +kernel
theorem d_M_decode_22 : decode b_M_decode 22 = .ok (.iload 6, 2) := by decide +kernel
theorem d_M_decode_24 : decode b_M_decode 24 = .ok (.aaload, 1) := by decide +kernel
theorem d_M_decode_25 : decode b_M_decode 25 = .ok (.invokevirtual 45, 3) := by decide +kernel
theorem d_M_decode_28 : decode b_M_decode 28 = .ok (.iconst (0), 1) := by decide +kernel
theorem d_M_decode_29 : decode b_M_decode 29 = .ok (.istore 7, 2) := by decide +kernel
theorem d_M_decode_31 : decode b_M_decode 31 = .ok (.iload 7, 2) := by decide +kernel
theorem d_M_decode_33 : decode b_M_decode 33 = .ok (.iconst (5), 1) := by decide +kernel
theorem d_M_decode_34 : decode b_M_decode 34 = .ok (.if_icmp .ge (62), 3) := by decide +kernel
theorem d_M_decode_37 : decode b_M_decode 37 = .ok (.aload_n 1, 1) := by decide +kernel
theorem d_M_decode_38 : decode b_M_decode 38 = .ok (.aload 4, 2) := by decide +kernel
theorem d_M_decode_40 : decode b_M_decode 40 = .ok (.getfield 49, 3) := by decide +kernel
theorem d_M_decode_43 : decode b_M_decode 43 = .ok (.iload 7, 2) := by decide +kernel
theorem d_M_decode_45 : decode b_M_decode 45 = .ok (.iaload, 1) := by decide +kernel
theorem d_M_decode_46 : decode b_M_decode 46 = .ok (.aload_n 0, 1) := by decide +kernel
theorem d_M_decode_47 : decode b_M_decode 47 = .ok (.getfield 11, 3) := by decide +kernel
theorem d_M_decode_50 : decode b_M_decode 50 = .ok (.iload 6, 2) := by decide +kernel
theorem d_M_decode_52 : decode b_M_decode 52 = .ok (.aaload, 1) := by decide +kernel
theorem d_M_decode_53 : decode b_M_decode 53 = .ok (.iconst (0), 1) := by decide +kernel
theorem d_M_decode_54 : decode b_M_decode 54 = .ok (.invokevirtual 39, 3) := by decide +kernel
theorem d_M_decode_57 : decode b_M_decode 57 = .ok (.istore 8, 2) := by decide +kernel
theorem d_M_decode_59 : decode b_M_decode 59 = .ok (.aload_n 0, 1) := by decide +kernel
theorem d_M_decode_60 : decode b_M_decode 60 = .ok (.getfield 16, 3) := by decide +kernel
theorem d_M_decode_63 : decode b_M_decode 63 = .ok (.iload 7, 2) := by decide +kernel
theorem d_M_decode_65 : decode b_M_decode 65 = .ok (.aload_n 2, 1) := by decide +kernel
theorem d_M_decode_66 : decode b_M_decode 66 = .ok (.aload 4, 2) := by decide +kernel
theorem d_M_decode_68 : decode b_M_decode 68 = .ok (.getfield 54, 3) := by decide +kernel
theorem d_M_decode_71 : decode b_M_decode 71 = .ok (.iload 7, 2) := by decide +kernel
theorem d_M_decode_73 : decode b_M_decode 73 = .ok (.iaload, 1) := by decide +kernel
theorem d_M_decode_74 : decode b_M_decode 74 = .ok (.aaload, 1) := by decide +kernel
theorem d_M_decode_75 : decode b_M_decode 75 = .ok (.getfield 57, 3) := by decide +kernel
theorem d_M_decode_78 : decode b_M_decode 78 = .ok (.iload_n 3, 1) := by decide +kernel
theorem d_M_decode_79 : decode b_M_decode 79 = .ok (.aaload, 1) := by decide +kernel
theorem d_M_decode_80 : decode b_M_decode 80 = .ok (.getfield 36, 3) := by decide +kernel
theorem d_M_decode_83 : decode b_M_decode 83 = .ok (.iload 6, 2) := by decide +kernel
theorem d_M_decode_85 : decode b_M_decode 85 = .ok (.iaload, 1) := by decide +kernel
theorem d_M_decode_86 : decode b_M_decode 86 = .ok (.iload 8, 2) := by decide +kernel
theorem d_M_decode_88 : decode b_M_decode 88 = .ok (.ixor, 1) := by decide +kernel
theorem d_M_decode_89 : decode b_M_decode 89 = .ok (.iastore, 1) := by decide +kernel
theorem d_M_decode_90 : decode b_M_decode 90 = .ok (.iinc 7 (1), 3) := by decide +kernel
theorem d_M_decode_93 : decode b_M_decode 93 = .ok (.goto (-62), 3) := by decide +kernel
theorem d_M_decode_96 : decode b_M_decode 96 = .ok (.aload_n 1, 1) := by decide +kernel
theorem d_M_decode_97 : decode b_M_decode 97 = .ok (.aload 4, 2) := by decide +kernel
theorem d_M_decode_99 : decode b_M_decode 99 = .ok (.getfield 49, 3) := by decide +kernel
theorem d_M_decode_102 : decode b_M_decode 102 = .ok (.aload_n 0, 1) := by decide +kernel
theorem d_M_decode_103 : decode b_M_decode 103 = .ok (.getfield 16, 3) := by decide +kernel
theorem d_M_decode_106 : decode b_M_decode 106 = .ok (.iconst (5), 1) := by decide +kernel
theorem d_M_decode_107 : decode b_M_decode 107 = .ok (.invokevirtual 63, 3) := by decide +kernel
theorem d_M_decode_110 : decode b_M_decode 110 = .ok (.aload_n 0, 1) := by decide +kernel
theorem d_M_decode_111 : decode b_M_decode 111 = .ok (.iload 6, 2) := by decide +kernel
theorem d_M_decode_113 : decode b_M_decode 113 = .ok (.invokevirtual 67, 3) := by decide +kernel
theorem d_M_decode_116 : decode b_M_decode 116 = .ok (.iinc 6 (-1), 3) := by decide +kernel
theorem d_M_decode_119 : decode b_M_decode 119 = .ok (.goto (-107), 3) := by decide +kernel
theorem d_M_decode_122 : decode b_M_decode 122 = .ok (.return_, 1) := by decide +kernel
theorem d_M_forgetFirstFive_0 : decode b_M_forgetFirstFive 0 = .ok (.iconst (0), 1) := by decide +kernel
theorem d_M_forgetFirstFive_1 : decode b_M_forgetFirstFive 1 = .ok (.istore_n 2, 1) := by decide +kernel
theorem d_M_forgetFirstFive_2 : decode b_M_forgetFirstFive 2 = .ok (.iload_n 2, 1) := by decide +kernel
theorem d_M_forgetFirstFive_3 : decode b_M_forgetFirstFive 3 = .ok (.iconst (5), 1) := by decide +kernel
theorem d_M_forgetFirstFive_4 : decode b_M_forgetFirstFive 4 = .ok (.if_icmp .ge (13), 3) := by decide +kernel
theorem d_M_forgetFirstFive_7 : decode b_M_forgetFirstFive 7 = .ok (.aload_n 1, 1) := by decide +kernel
theorem d_M_forgetFirstFive_8 : decode b_M_forgetFirstFive 8 = .ok (.iload_n 2, 1) := by decide +kernel
theorem d_M_forgetFirstFive_9 : decode b_M_forgetFirstFive 9 = .ok (.iconst (0), 1) := by decide +kernel
theorem d_M_forgetFirstFive_10 : decode b_M_forgetFirstFive 10 = .ok (.iastore, 1) := by decide +kernel
theorem d_M_forgetFirstFive_11 : decode b_M_forgetFirstFive 11 = .ok (.iinc 2 (1), 3) := by decide +kernel
theorem d_M_forgetFirstFive_14 : decode b_M_forgetFirstFive 14 = .ok (.goto (-12), 3) := by decide +kernel
theorem d_M_forgetFirstFive_17 : decode b_M_forgetFirstFive 17 = .ok (.return_, 1) := by decide +kernel
theorem d_M_setFirstFive_0 : decode b_M_setFirstFive 0 = .ok (.iload_n 1, 1) := by decide +kernel
theorem d_M_setFirstFive_1 : decode b_M_setFirstFive 1 = .ok (.bipush (8), 2) := by decide +kernel
theorem d_M_setFirstFive_3 : decode b_M_setFirstFive 3 = .ok (.irem, 1) := by decide +kernel
theorem d_M_setFirstFive_4 : decode b_M_setFirstFive 4 = .ok (.istore_n 2, 1) := by decide +kernel
theorem d_M_setFirstFive_5 : decode b_M_setFirstFive 5 = .ok (.iconst (0), 1) := by decide +kernel
theorem d_M_setFirstFive_6 : decode b_M_setFirstFive 6 = .ok (.istore_n 3, 1) := by decide +kernel
theorem d_M_setFirstFive_7 : decode b_M_setFirstFive 7 = .ok (.iload_n 3, 1) := by decide +kernel
theorem d_M_setFirstFive_8 : decode b_M_setFirstFive 8 = .ok (.iconst (5), 1) := by decide +kernel
theorem d_M_setFirstFive_9 : decode b_M_setFirstFive 9 = .ok (.if_icmp .ge (41), 3) := by decide +kernel
theorem d_M_setFirstFive_12 : decode b_M_setFirstFive 12 = .ok (.aload_n 0, 1) := by decide +kernel
theorem d_M_setFirstFive_13 : decode b_M_setFirstFive 13 = .ok (.getfield 11, 3) := by decide +kernel
theorem d_M_setFirstFive_16 : decode b_M_setFirstFive 16 = .ok (.iload_n 1, 1) := by decide +kernel
theorem d_M_setFirstFive_17 : decode b_M_setFirstFive 17 = .ok (.aaload, 1) := by decide +kernel
theorem d_M_setFirstFive_18 : decode b_M_setFirstFive 18 = .ok (.iload_n 3, 1) := by decide +kernel
theorem d_M_setFirstFive_19 : decode b_M_setFirstFive 19 = .ok (.aload_n 0, 1) := by decide +kernel
theorem d_M_setFirstFive_20 : decode b_M_setFirstFive 20 = .ok (.getfield 16, 3) := by decide +kernel
theorem d_M_setFirstFive_23 : decode b_M_setFirstFive 23 = .ok (.iload_n 3, 1) := by decide +kernel
theorem d_M_setFirstFive_24 : decode b_M_setFirstFive 24 = .ok (.iaload, 1) := by decide +kernel
theorem d_M_setFirstFive_25 : decode b_M_setFirstFive 25 = .ok (.iastore, 1) := by decide +kernel
theorem d_M_setFirstFive_26 : decode b_M_setFirstFive 26 = .ok (.aload_n 0, 1) := by decide +kernel
theorem d_M_setFirstFive_27 : decode b_M_setFirstFive 27 = .ok (.getfield 11, 3) := by decide +kernel
theorem d_M_setFirstFive_30 : decode b_M_setFirstFive 30 = .ok (.iload_n 1, 1) := by decide +kernel
theorem d_M_setFirstFive_31 : decode b_M_setFirstFive 31 = .ok (.iload_n 2, 1) := by decide +kernel
theorem d_M_setFirstFive_32 : decode b_M_setFirstFive 32 = .ok (.isub, 1) := by decide +kernel
theorem d_M_setFirstFive_33 : decode b_M_setFirstFive 33 = .ok (.iload_n 3, 1) := by decide +kernel
theorem d_M_setFirstFive_34 : decode b_M_setFirstFive 34 = .ok (.iadd, 1) := by decide +kernel
theorem d_M_setFirstFive_35 : decode b_M_setFirstFive 35 = .ok (.aaload, 1) := by decide +kernel
theorem d_M_setFirstFive_36 : decode b_M_setFirstFive 36 = .ok (.iload_n 2, 1) := by decide +kernel
theorem d_M_setFirstFive_37 : decode b_M_setFirstFive 37 = .ok (.aload_n 0, 1) := by decide +kernel
theorem d_M_setFirstFive_38 : decode b_M_setFirstFive 38 = .ok (.getfield 16, 3) := by decide +kernel
theorem d_M_setFirstFive_41 : decode b_M_setFirstFive 41 = .ok (.iload_n 3, 1) := by decide +kernel
theorem d_M_setFirstFive_42 : decode b_M_setFirstFive 42 = .ok (.iaload, 1) := by decide +kernel
theorem d_M_setFirstFive_43 : decode b_M_setFirstFive 43 = .ok (.iastore, 1) := by decide +kernel
theorem d_M_setFirstFive_44 : decode b_M_setFirstFive 44 = .ok (.iinc 3 (1), 3) := by decide +kernel
theorem d_M_setFirstFive_47 : decode b_M_setFirstFive 47 = .ok (.goto (-40), 3) := by decide +kernel
theorem d_M_setFirstFive_50 : decode b_M_setFirstFive 50 = .ok (.return_, 1) := by decide +kernel
theorem fw_G_11 : sm_fw RX0 11 0 0 := ⟨_, _, _, rfl, in_X0, by decide, sm_inT 33 (by decide +kernel) (by decide +kernel)⟩
theorem fw_G_15 : sm_fw RX0 15 0 1 := ⟨_, _, _, rfl, in_X0, by decide, sm_inT 34 (by decide +kernel) (by decide +kernel)⟩
theorem cw_G_18 : sm_cw RX0 18 y_G_times b_G_times 3 (some .int) 2 := ⟨sm_inT 365 (by decide +kernel) (by decide +kernel), sm_inT 2 (by decide +kernel) (by decide +kernel), sm_inT 362 (by decide +kernel) (by decide +kernel), ⟨by decide, by decide, by decide +kernel⟩, by decide⟩
theorem iw_G_times : Cond.instanceMethod y_G_times ∈ sm_ws := sm_inT 363 (by decide +kernel) (by decide +kernel)
theorem se_G_times : Cond.selects RX0 y_G_times y_G_times ∈ sm_ws := sm_inT 364 (by decide +kernel) (by decide +kernel)
theorem cw_G_22 : sm_cw RX0 22 y_G_over b_G_over 3 (some .int) 2 := ⟨sm_inT 468 (by decide +kernel) (by decide +kernel), sm_inT 2 (by decide +kernel) (by decide +kernel), sm_inT 465 (by decide +kernel) (by decide +kernel), ⟨by decide, by decide, by decide +kernel⟩, by decide⟩
theorem iw_G_over : Cond.instanceMethod y_G_over ∈ sm_ws := sm_inT 466 (by decide +kernel) (by decide +kernel)
theorem se_G_over : Cond.selects RX0 y_G_over y_G_over ∈ sm_ws := sm_inT 467 (by decide +kernel) (by decide +kernel)
theorem fw_I_16 : sm_fw RX1 16 1 2 := ⟨_, _, _, rfl, in_X1, by decide, sm_inT 140 (by decide +kernel) (by decide +kernel)⟩
theorem pw_I_16 : sm_pw RX1 16 1 2 .int := ⟨_, _, _, tyX1, rfl, in_X1, by decide, sm_inT 140 (by decide +kernel) (by decide +kernel), tyX1_ok, nmX1, rfl, by decide +kernel⟩
theorem pw_I_19 : sm_pw RX1 19 1 3 .int := ⟨_, _, _, tyX1, rfl, in_X1, by decide, sm_inT 142 (by decide +kernel) (by decide +kernel), tyX1_ok, nmX1, rfl, by decide +kernel⟩
theorem pw_I_22 : sm_pw RX1 22 1 4 .boolean := ⟨_, _, _, tyX1, rfl, in_X1, by decide, sm_inT 144 (by decide +kernel) (by decide +kernel), tyX1_ok, nmX1, rfl, by decide +kernel⟩
theorem pw_I_7 : sm_pw RX1 7 1 0 .int := ⟨_, _, _, tyX1, rfl, in_X1, by decide, sm_inT 136 (by decide +kernel) (by decide +kernel), tyX1_ok, nmX1, rfl, by decide +kernel⟩
theorem fw_I_19 : sm_fw RX1 19 1 3 := ⟨_, _, _, rfl, in_X1, by decide, sm_inT 142 (by decide +kernel) (by decide +kernel)⟩
theorem pw_I_13 : sm_pw RX1 13 1 1 .int := ⟨_, _, _, tyX1, rfl, in_X1, by decide, sm_inT 138 (by decide +kernel) (by decide +kernel), tyX1_ok, nmX1, rfl, by decide +kernel⟩
theorem pw_H_9 : sm_pw RX4 9 4 0 .int := ⟨_, _, _, tyX4, rfl, in_X4, by decide, sm_inT 93 (by decide +kernel) (by decide +kernel), tyX4_ok, nmX4, rfl, by decide +kernel⟩
theorem pw_H_15 : sm_pw RX4 15 4 1 .int := ⟨_, _, _, tyX4, rfl, in_X4, by decide, sm_inT 96 (by decide +kernel) (by decide +kernel), tyX4_ok, nmX4, rfl, by decide +kernel⟩
theorem pw_T_18 : sm_pw RX5 18 5 2 .int := ⟨_, _, _, tyX5, rfl, in_X5, by decide, sm_inT 72 (by decide +kernel) (by decide +kernel), tyX5_ok, nmX5, rfl, by decide +kernel⟩
theorem fw_T_18 : sm_fw RX5 18 5 2 := ⟨_, _, _, rfl, in_X5, by decide, sm_inT 72 (by decide +kernel) (by decide +kernel)⟩
theorem fw_T_9 : sm_fw RX5 9 5 0 := ⟨_, _, _, rfl, in_X5, by decide, sm_inT 66 (by decide +kernel) (by decide +kernel)⟩
theorem fw_T_15 : sm_fw RX5 15 5 1 := ⟨_, _, _, rfl, in_X5, by decide, sm_inT 69 (by decide +kernel) (by decide +kernel)⟩
theorem fw_N_11 : sm_fw RX3 11 3 1 := ⟨_, _, _, rfl, in_X3, by decide, sm_inT 111 (by decide +kernel) (by decide +kernel)⟩
theorem fw_N_17 : sm_fw RX3 17 3 2 := ⟨_, _, _, rfl, in_X3, by decide, sm_inT 114 (by decide +kernel) (by decide +kernel)⟩
theorem cw_N_32 : sm_cw RX3 32 y_H_become b_H_become 3 none 2 := ⟨sm_inT 353 (by decide +kernel) (by decide +kernel), sm_inT 6 (by decide +kernel) (by decide +kernel), sm_inT 374 (by decide +kernel) (by decide +kernel), ⟨by decide, by decide, by decide +kernel⟩, by decide⟩
theorem iw_H_become : Cond.instanceMethod y_H_become ∈ sm_ws := sm_inT 351 (by decide +kernel) (by decide +kernel)
theorem se_H_become : Cond.selects RX4 y_H_become y_H_become ∈ sm_ws := sm_inT 352 (by decide +kernel) (by decide +kernel)
theorem pw_N_20 : sm_pw RX3 20 3 3 .boolean := ⟨_, _, _, tyX3, rfl, in_X3, by decide, sm_inT 116 (by decide +kernel) (by decide +kernel), tyX3_ok, nmX3, rfl, by decide +kernel⟩
theorem fw_N_36 : sm_fw RX3 36 4 0 := ⟨_, _, _, rfl, in_X4, by decide, sm_inT 94 (by decide +kernel) (by decide +kernel)⟩
theorem sw_S_stripesOf : Cond.static y_S_stripesOf ∈ sm_ws := sm_inT 344 (by decide +kernel) (by decide +kernel)
theorem fw_M_11 : sm_fw RX2 11 2 0 := ⟨_, _, _, rfl, in_X2, by decide, sm_inT 49 (by decide +kernel) (by decide +kernel)⟩
theorem fw_M_30 : sm_fw RX2 30 4 1 := ⟨_, _, _, rfl, in_X4, by decide, sm_inT 97 (by decide +kernel) (by decide +kernel)⟩
theorem fw_M_36 : sm_fw RX2 36 4 2 := ⟨_, _, _, rfl, in_X4, by decide, sm_inT 100 (by decide +kernel) (by decide +kernel)⟩
theorem cw_M_39 : sm_cw RX2 39 y_G_valueAt b_G_valueAt 6 (some .int) 3 := ⟨sm_inT 361 (by decide +kernel) (by decide +kernel), sm_inT 2 (by decide +kernel) (by decide +kernel), sm_inT 358 (by decide +kernel) (by decide +kernel), ⟨by decide, by decide, by decide +kernel⟩, by decide⟩
theorem iw_G_valueAt : Cond.instanceMethod y_G_valueAt ∈ sm_ws := sm_inT 359 (by decide +kernel) (by decide +kernel)
theorem se_G_valueAt : Cond.selects RX0 y_G_valueAt y_G_valueAt ∈ sm_ws := sm_inT 360 (by decide +kernel) (by decide +kernel)
theorem cw_M_45 : sm_cw RX2 45 y_M_forgetFirstFive b_M_forgetFirstFive 3 none 1 := ⟨sm_inT 460 (by decide +kernel) (by decide +kernel), sm_inT 3 (by decide +kernel) (by decide +kernel), sm_inT 457 (by decide +kernel) (by decide +kernel), ⟨by decide, by decide, by decide +kernel⟩, by decide⟩
theorem iw_M_forgetFirstFive : Cond.instanceMethod y_M_forgetFirstFive ∈ sm_ws := sm_inT 459 (by decide +kernel) (by decide +kernel)
theorem se_M_forgetFirstFive : Cond.selects RX2 y_M_forgetFirstFive y_M_forgetFirstFive ∈ sm_ws := sm_inS 11 (by decide +kernel) (by decide +kernel)
theorem fw_M_49 : sm_fw RX2 49 5 1 := ⟨_, _, _, rfl, in_X5, by decide, sm_inT 70 (by decide +kernel) (by decide +kernel)⟩
theorem fw_M_16 : sm_fw RX2 16 2 1 := ⟨_, _, _, rfl, in_X2, by decide, sm_inT 50 (by decide +kernel) (by decide +kernel)⟩
theorem fw_M_54 : sm_fw RX2 54 5 0 := ⟨_, _, _, rfl, in_X5, by decide, sm_inT 67 (by decide +kernel) (by decide +kernel)⟩
theorem fw_M_57 : sm_fw RX2 57 3 1 := ⟨_, _, _, rfl, in_X3, by decide, sm_inT 112 (by decide +kernel) (by decide +kernel)⟩
theorem cw_M_63 : sm_cw RX2 63 y_G_interpolate b_G_interpolate 6 none 3 := ⟨sm_inT 464 (by decide +kernel) (by decide +kernel), sm_inT 2 (by decide +kernel) (by decide +kernel), sm_inT 461 (by decide +kernel) (by decide +kernel), ⟨by decide, by decide, by decide +kernel⟩, by decide⟩
theorem iw_G_interpolate : Cond.instanceMethod y_G_interpolate ∈ sm_ws := sm_inT 462 (by decide +kernel) (by decide +kernel)
theorem se_G_interpolate : Cond.selects RX0 y_G_interpolate y_G_interpolate ∈ sm_ws := sm_inT 463 (by decide +kernel) (by decide +kernel)
theorem cw_M_67 : sm_cw RX2 67 y_M_setFirstFive b_M_setFirstFive 4 none 1 := ⟨sm_inT 472 (by decide +kernel) (by decide +kernel), sm_inT 3 (by decide +kernel) (by decide +kernel), sm_inT 469 (by decide +kernel) (by decide +kernel), ⟨by decide, by decide, by decide +kernel⟩, by decide⟩
theorem iw_M_setFirstFive : Cond.instanceMethod y_M_setFirstFive ∈ sm_ws := sm_inT 471 (by decide +kernel) (by decide +kernel)
theorem se_M_setFirstFive : Cond.selects RX2 y_M_setFirstFive y_M_setFirstFive ∈ sm_ws := sm_inS 12 (by decide +kernel) (by decide +kernel)
end
section
theorem d_S_load_0 : decode b_S_load 0 = .ok (.iload_n 1, 1) := by decide +kernel
theorem d_S_load_1 : decode b_S_load 1 = .ok (.bipush (60), 2) := by decide +kernel
theorem d_S_load_3 : decode b_S_load 3 = .ok (.invokestatic 63, 3) := by decide +kernel
theorem d_S_load_6 : decode b_S_load 6 = .ok (.iconst (0), 1) := by decide +kernel
theorem d_S_load_7 : decode b_S_load 7 = .ok (.istore_n 3, 1) := by decide +kernel
theorem d_S_load_8 : decode b_S_load 8 = .ok (.iload_n 3, 1) := by decide +kernel
theorem d_S_load_9 : decode b_S_load 9 = .ok (.iconst (4), 1) := by decide +kernel
theorem d_S_load_10 : decode b_S_load 10 = .ok (.if_icmp .ge (32), 3) := by decide +kernel
theorem d_S_load_13 : decode b_S_load 13 = .ok (.aload_n 0, 1) := by decide +kernel
theorem d_S_load_14 : decode b_S_load 14 = .ok (.getfield 46, 3) := by decide +kernel
theorem d_S_load_17 : decode b_S_load 17 = .ok (.iconst (4), 1) := by decide +kernel
theorem d_S_load_18 : decode b_S_load 18 = .ok (.iload_n 1, 1) := by decide +kernel
theorem d_S_load_19 : decode b_S_load 19 = .ok (.imul, 1) := by decide +kernel
theorem d_S_load_20 : decode b_S_load 20 = .ok (.iload_n 3, 1) := by decide +kernel
theorem d_S_load_21 : decode b_S_load 21 = .ok (.iadd, 1) := by decide +kernel
theorem d_S_load_22 : decode b_S_load 22 = .ok (.iload_n 2, 1) := by decide +kernel
theorem d_S_load_23 : decode b_S_load 23 = .ok (.bipush (24), 2) := by decide +kernel
theorem d_S_load_25 : decode b_S_load 25 = .ok (.bipush (8), 2) := by decide +kernel
theorem d_S_load_27 : decode b_S_load 27 = .ok (.iload_n 3, 1) := by decide +kernel
theorem d_S_load_28 : decode b_S_load 28 = .ok (.imul, 1) := by decide +kernel
theorem d_S_load_29 : decode b_S_load 29 = .ok (.isub, 1) := by decide +kernel
theorem d_S_load_30 : decode b_S_load 30 = .ok (.iushr, 1) := by decide +kernel
theorem d_S_load_31 : decode b_S_load 31 = .ok (.sipush (255), 3) := by decide +kernel
theorem d_S_load_34 : decode b_S_load 34 = .ok (.iand, 1) := by decide +kernel
theorem d_S_load_35 : decode b_S_load 35 = .ok (.iastore, 1) := by decide +kernel
theorem d_S_load_36 : decode b_S_load 36 = .ok (.iinc 3 (1), 3) := by decide +kernel
theorem d_S_load_39 : decode b_S_load 39 = .ok (.goto (-31), 3) := by decide +kernel
theorem d_S_load_42 : decode b_S_load 42 = .ok (.return_, 1) := by decide +kernel
theorem d_S_put_0 : decode b_S_put 0 = .ok (.iload_n 1, 1) := by decide +kernel
theorem d_S_put_1 : decode b_S_put 1 = .ok (.bipush (12), 2) := by decide +kernel
theorem d_S_put_3 : decode b_S_put 3 = .ok (.invokestatic 63, 3) := by decide +kernel
theorem d_S_put_6 : decode b_S_put 6 = .ok (.iload_n 2, 1) := by decide +kernel
theorem d_S_put_7 : decode b_S_put 7 = .ok (.ifCond .lt (10), 3) := by decide +kernel
theorem d_S_put_10 : decode b_S_put 10 = .ok (.iload_n 2, 1) := by decide +kernel
theorem d_S_put_11 : decode b_S_put 11 = .ok (.sipush (240), 3) := by decide +kernel
theorem d_S_put_14 : decode b_S_put 14 = .ok (.if_icmp .le (11), 3) := by decide +kernel
theorem d_S_put_17 : decode b_S_put 17 = .ok (.new 67, 3) := by decide +kernel
theorem d_S_put_20 : decode b_S_put 20 = .ok (.dup, 1) := by decide +kernel
theorem d_S_put_21 : decode b_S_put 21 = .ok (.invokespecial 69, 3) := by decide +kernel
theorem d_S_put_24 : decode b_S_put 24 = .ok (.athrow, 1) := by decide +kernel
theorem d_S_put_25 : decode b_S_put 25 = .ok (.aload_n 0, 1) := by decide +kernel
theorem d_S_put_26 : decode b_S_put 26 = .ok (.iload_n 1, 1) := by decide +kernel
theorem d_S_put_27 : decode b_S_put 27 = .ok (.invokevirtual 70, 3) := by decide +kernel
theorem d_S_put_30 : decode b_S_put 30 = .ok (.aload_n 0, 1) := by decide +kernel
theorem d_S_put_31 : decode b_S_put 31 = .ok (.invokevirtual 73, 3) := by decide +kernel
theorem d_S_put_34 : decode b_S_put 34 = .ok (.istore_n 3, 1) := by decide +kernel
theorem d_S_put_35 : decode b_S_put 35 = .ok (.iload_n 3, 1) := by decide +kernel
theorem d_S_put_36 : decode b_S_put 36 = .ok (.bipush (9), 2) := by decide +kernel
theorem d_S_put_38 : decode b_S_put 38 = .ok (.if_icmp .ge (11), 3) := by decide +kernel
theorem d_S_put_41 : decode b_S_put 41 = .ok (.new 77, 3) := by decide +kernel
theorem d_S_put_44 : decode b_S_put 44 = .ok (.dup, 1) := by decide +kernel
theorem d_S_put_45 : decode b_S_put 45 = .ok (.invokespecial 79, 3) := by decide +kernel
theorem d_S_put_48 : decode b_S_put 48 = .ok (.athrow, 1) := by decide +kernel
theorem d_S_put_49 : decode b_S_put 49 = .ok (.aload_n 0, 1) := by decide +kernel
theorem d_S_put_50 : decode b_S_put 50 = .ok (.getfield 31, 3) := by decide +kernel
theorem d_S_put_53 : decode b_S_put 53 = .ok (.iload_n 1, 1) := by decide +kernel
theorem d_S_put_54 : decode b_S_put 54 = .ok (.aaload, 1) := by decide +kernel
theorem d_S_put_55 : decode b_S_put 55 = .ok (.astore 4, 2) := by decide +kernel
theorem d_S_put_57 : decode b_S_put 57 = .ok (.aload 4, 2) := by decide +kernel
theorem d_S_put_59 : decode b_S_put 59 = .ok (.iload_n 2, 1) := by decide +kernel
theorem d_S_put_60 : decode b_S_put 60 = .ok (.invokevirtual 80, 3) := by decide +kernel
theorem d_S_put_63 : decode b_S_put 63 = .ok (.aload_n 0, 1) := by decide +kernel
theorem d_S_put_64 : decode b_S_put 64 = .ok (.iconst (2), 1) := by decide +kernel
theorem d_S_put_65 : decode b_S_put 65 = .ok (.iload_n 3, 1) := by decide +kernel
theorem d_S_put_66 : decode b_S_put 66 = .ok (.imul, 1) := by decide +kernel
theorem d_S_put_67 : decode b_S_put 67 = .ok (.invokevirtual 83, 3) := by decide +kernel
theorem d_S_put_70 : decode b_S_put 70 = .ok (.istore 5, 2) := by decide +kernel
theorem d_S_put_72 : decode b_S_put 72 = .ok (.aload_n 0, 1) := by decide +kernel
theorem d_S_put_73 : decode b_S_put 73 = .ok (.iload_n 1, 1) := by decide +kernel
theorem d_S_put_74 : decode b_S_put 74 = .ok (.iload 5, 2) := by decide +kernel
theorem d_S_put_76 : decode b_S_put 76 = .ok (.iload_n 3, 1) := by decide +kernel
theorem d_S_put_77 : decode b_S_put 77 = .ok (.if_icmp .ge (8), 3) := by decide +kernel
theorem d_S_put_80 : decode b_S_put 80 = .ok (.iload 5, 2) := by decide +kernel
theorem d_S_put_82 : decode b_S_put 82 = .ok (.goto (4), 3) := by decide +kernel
theorem d_S_put_85 : decode b_S_put 85 = .ok (.iload_n 3, 1) := by decide +kernel
theorem d_S_put_86 : decode b_S_put 86 = .ok (.invokevirtual 87, 3) := by decide +kernel
theorem d_S_put_89 : decode b_S_put 89 = .ok (.aload_n 0, 1) := by decide +kernel
theorem d_S_put_90 : decode b_S_put 90 = .ok (.iload_n 1, 1) := by decide +kernel
theorem d_S_put_91 : decode b_S_put 91 = .ok (.iload 5, 2) := by decide +kernel
theorem d_S_put_93 : decode b_S_put 93 = .ok (.iload_n 3, 1) := by decide +kernel
theorem d_S_put_94 : decode b_S_put 94 = .ok (.isub, 1) := by decide +kernel
theorem d_S_put_95 : decode b_S_put 95 = .ok (.invokevirtual 90, 3) := by decide +kernel
theorem d_S_put_98 : decode b_S_put 98 = .ok (.iload 5, 2) := by decide +kernel
theorem d_S_put_100 : decode b_S_put 100 = .ok (.iconst (2), 1) := by decide +kernel
theorem d_S_put_101 : decode b_S_put 101 = .ok (.iload_n 3, 1) := by decide +kernel
theorem d_S_put_102 : decode b_S_put 102 = .ok (.imul, 1) := by decide +kernel
theorem d_S_put_103 : decode b_S_put 103 = .ok (.if_icmp .ne (9), 3) := by decide +kernel
theorem d_S_put_106 : decode b_S_put 106 = .ok (.aload 4, 2) := by decide +kernel
theorem d_S_put_108 : decode b_S_put 108 = .ok (.iconst (1), 1) := by decide +kernel
theorem d_S_put_109 : decode b_S_put 109 = .ok (.invokevirtual 93, 3) := by decide +kernel
theorem d_S_put_112 : decode b_S_put 112 = .ok (.aload 4, 2) := by decide +kernel
theorem d_S_put_114 : decode b_S_put 114 = .ok (.getfield 97, 3) := by decide +kernel
theorem d_S_put_117 : decode b_S_put 117 = .ok (.ireturn, 1) := by decide +kernel
theorem d_S_cut_0 : decode b_S_cut 0 = .ok (.iload_n 1, 1) := by decide +kernel
theorem d_S_cut_1 : decode b_S_cut 1 = .ok (.ifCond .lt (9), 3) := by decide +kernel
theorem d_S_cut_4 : decode b_S_cut 4 = .ok (.iload_n 1, 1) := by decide +kernel
theorem d_S_cut_5 : decode b_S_cut 5 = .ok (.bipush (24), 2) := by decide +kernel
theorem d_S_cut_7 : decode b_S_cut 7 = .ok (.if_icmp .lt (11), 3) := by decide +kernel
theorem d_S_cut_10 : decode b_S_cut 10 = .ok (.new 67, 3) := by decide +kernel
theorem d_S_cut_13 : decode b_S_cut 13 = .ok (.dup, 1) := by decide +kernel
theorem d_S_cut_14 : decode b_S_cut 14 = .ok (.invokespecial 69, 3) := by decide +kernel
theorem d_S_cut_17 : decode b_S_cut 17 = .ok (.athrow, 1) := by decide +kernel
theorem d_S_cut_18 : decode b_S_cut 18 = .ok (.aload_n 0, 1) := by decide +kernel
theorem d_S_cut_19 : decode b_S_cut 19 = .ok (.iload_n 1, 1) := by decide +kernel
theorem d_S_cut_20 : decode b_S_cut 20 = .ok (.putfield 56, 3) := by decide +kernel
theorem d_S_cut_23 : decode b_S_cut 23 = .ok (.return_, 1) := by decide +kernel
theorem d_S_settle_0 : decode b_S_settle 0 = .ok (.iload_n 1, 1) := by decide +kernel
theorem d_S_settle_1 : decode b_S_settle 1 = .ok (.bipush (12), 2) := by decide +kernel
theorem d_S_settle_3 : decode b_S_settle 3 = .ok (.invokestatic 63, 3) := by decide +kernel
theorem d_S_settle_6 : decode b_S_settle 6 = .ok (.aload_n 0, 1) := by decide +kernel
theorem d_S_settle_7 : decode b_S_settle 7 = .ok (.getfield 31, 3) := by decide +kernel
theorem d_S_settle_10 : decode b_S_settle 10 = .ok (.iload_n 1, 1) := by decide +kernel
theorem d_S_settle_11 : decode b_S_settle 11 = .ok (.aaload, 1) := by decide +kernel
theorem d_S_settle_12 : decode b_S_settle 12 = .ok (.astore_n 2, 1) := by decide +kernel
theorem d_S_settle_13 : decode b_S_settle 13 = .ok (.aload_n 2, 1) := by decide +kernel
theorem d_S_settle_14 : decode b_S_settle 14 = .ok (.getfield 100, 3) := by decide +kernel
theorem d_S_settle_17 : decode b_S_settle 17 = .ok (.ifCond .ne (11), 3) := by decide +kernel
theorem d_S_settle_20 : decode b_S_settle 20 = .ok (.new 104, 3) := by decide +kernel
theorem d_S_settle_23 : decode b_S_settle 23 = .ok (.dup, 1) := by decide +kernel
theorem d_S_settle_24 : decode b_S_settle 24 = .ok (.invokespecial 106, 3) := by decide +kernel
theorem d_S_settle_27 : decode b_S_settle 27 = .ok (.athrow, 1) := by decide +kernel
theorem d_S_settle_28 : decode b_S_settle 28 = .ok (.aload_n 0, 1) := by decide +kernel
theorem d_S_settle_29 : decode b_S_settle 29 = .ok (.iload_n 1, 1) := by decide +kernel
theorem d_S_settle_30 : decode b_S_settle 30 = .ok (.aload_n 2, 1) := by decide +kernel
theorem d_S_settle_31 : decode b_S_settle 31 = .ok (.getfield 97, 3) := by decide +kernel
theorem d_S_settle_34 : decode b_S_settle 34 = .ok (.invokevirtual 107, 3) := by decide +kernel
theorem d_S_settle_37 : decode b_S_settle 37 = .ok (.istore_n 3, 1) := by decide +kernel
theorem d_S_settle_38 : decode b_S_settle 38 = .ok (.iload_n 3, 1) := by decide +kernel
theorem d_S_settle_39 : decode b_S_settle 39 = .ok (.ifCond .eq (10), 3) := by decide +kernel
theorem d_S_settle_42 : decode b_S_settle 42 = .ok (.aload_n 0, 1) := by decide +kernel
theorem d_S_settle_43 : decode b_S_settle 43 = .ok (.iload_n 1, 1) := by decide +kernel
theorem d_S_settle_44 : decode b_S_settle 44 = .ok (.bipush (12), 2) := by decide +kernel
theorem d_S_settle_46 : decode b_S_settle 46 = .ok (.invokevirtual 90, 3) := by decide +kernel
theorem d_S_settle_49 : decode b_S_settle 49 = .ok (.aload_n 0, 1) := by decide +kernel
theorem d_S_settle_50 : decode b_S_settle 50 = .ok (.iload_n 1, 1) := by decide +kernel
theorem d_S_settle_51 : decode b_S_settle 51 = .ok (.invokevirtual 111, 3) := by decide +kernel
theorem d_S_settle_54 : decode b_S_settle 54 = .ok (.aload_n 2, 1) := by decide +kernel
theorem d_S_settle_55 : decode b_S_settle 55 = .ok (.iload_n 3, 1) := by decide +kernel
theorem d_S_settle_56 : decode b_S_settle 56 = .ok (.invokevirtual 93, 3) := by decide +kernel
theorem d_S_settle_59 : decode b_S_settle 59 = .ok (.iload_n 3, 1) := by decide +kernel
theorem d_S_settle_60 : decode b_S_settle 60 = .ok (.ireturn, 1) := by decide +kernel
theorem d_S_get_0 : decode b_S_get 0 = .ok (.iload_n 1, 1) := by decide +kernel
theorem d_S_get_1 : decode b_S_get 1 = .ok (.bipush (12), 2) := by decide +kernel
theorem d_S_get_3 : decode b_S_get 3 = .ok (.invokestatic 63, 3) := by decide +kernel
theorem d_S_get_6 : decode b_S_get 6 = .ok (.iload_n 2, 1) := by decide +kernel
theorem d_S_get_7 : decode b_S_get 7 = .ok (.invokestatic 114, 3) := by decide +kernel
theorem d_S_get_10 : decode b_S_get 10 = .ok (.aload_n 0, 1) := by decide +kernel
theorem d_S_get_11 : decode b_S_get 11 = .ok (.iload_n 1, 1) := by decide +kernel
theorem d_S_get_12 : decode b_S_get 12 = .ok (.invokevirtual 70, 3) := by decide +kernel
theorem d_S_get_15 : decode b_S_get 15 = .ok (.aload_n 0, 1) := by decide +kernel
theorem d_S_get_16 : decode b_S_get 16 = .ok (.getfield 31, 3) := by decide +kernel
theorem d_S_get_19 : decode b_S_get 19 = .ok (.iload_n 1, 1) := by decide +kernel
theorem d_S_get_20 : decode b_S_get 20 = .ok (.aaload, 1) := by decide +kernel
theorem d_S_get_21 : decode b_S_get 21 = .ok (.getfield 117, 3) := by decide +kernel
theorem d_S_get_24 : decode b_S_get 24 = .ok (.istore_n 3, 1) := by decide +kernel
theorem d_S_get_25 : decode b_S_get 25 = .ok (.iload_n 3, 1) := by decide +kernel
theorem d_S_get_26 : decode b_S_get 26 = .ok (.ifCond .ne (11), 3) := by decide +kernel
theorem d_S_get_29 : decode b_S_get 29 = .ok (.new 120, 3) := by decide +kernel
theorem d_S_get_32 : decode b_S_get 32 = .ok (.dup, 1) := by decide +kernel
theorem d_S_get_33 : decode b_S_get 33 = .ok (.invokespecial 122, 3) := by decide +kernel
theorem d_S_get_36 : decode b_S_get 36 = .ok (.athrow, 1) := by decide +kernel
theorem d_S_get_37 : decode b_S_get 37 = .ok (.aload_n 0, 1) := by decide +kernel
theorem d_S_get_38 : decode b_S_get 38 = .ok (.iload_n 1, 1) := by decide +kernel
theorem d_S_get_39 : decode b_S_get 39 = .ok (.iload_n 2, 1) := by decide +kernel
theorem d_S_get_40 : decode b_S_get 40 = .ok (.invokevirtual 123, 3) := by decide +kernel
theorem d_S_get_43 : decode b_S_get 43 = .ok (.istore 4, 2) := by decide +kernel
theorem d_S_get_45 : decode b_S_get 45 = .ok (.iload 4, 2) := by decide +kernel
theorem d_S_get_47 : decode b_S_get 47 = .ok (.invokestatic 127, 3) := by decide +kernel
theorem d_S_get_50 : decode b_S_get 50 = .ok (.iconst (5), 1) := by decide +kernel
theorem d_S_get_51 : decode b_S_get 51 = .ok (.if_icmp .ge (11), 3) := by decide +kernel
theorem d_S_get_54 : decode b_S_get 54 = .ok (.new 77, 3) := by decide +kernel
theorem d_S_get_57 : decode b_S_get 57 = .ok (.dup, 1) := by decide +kernel
theorem d_S_get_58 : decode b_S_get 58 = .ok (.invokespecial 79, 3) := by decide +kernel
theorem d_S_get_61 : decode b_S_get 61 = .ok (.athrow, 1) := by decide +kernel
theorem d_S_get_62 : decode b_S_get 62 = .ok (.aload_n 0, 1) := by decide +kernel
theorem d_S_get_63 : decode b_S_get 63 = .ok (.iload 4, 2) := by decide +kernel
theorem d_S_get_65 : decode b_S_get 65 = .ok (.invokevirtual 132, 3) := by decide +kernel
theorem d_S_get_68 : decode b_S_get 68 = .ok (.aload_n 0, 1) := by decide +kernel
theorem d_S_get_69 : decode b_S_get 69 = .ok (.getfield 19, 3) := by decide +kernel
theorem d_S_get_72 : decode b_S_get 72 = .ok (.aload_n 0, 1) := by decide +kernel
theorem d_S_get_73 : decode b_S_get 73 = .ok (.getfield 12, 3) := by decide +kernel
theorem d_S_get_76 : decode b_S_get 76 = .ok (.aload_n 0, 1) := by decide +kernel
theorem d_S_get_77 : decode b_S_get 77 = .ok (.getfield 25, 3) := by decide +kernel
theorem d_S_get_80 : decode b_S_get 80 = .ok (.iload_n 1, 1) := by decide +kernel
theorem d_S_get_81 : decode b_S_get 81 = .ok (.aload_n 0, 1) := by decide +kernel
theorem d_S_get_82 : decode b_S_get 82 = .ok (.getfield 38, 3) := by decide +kernel
theorem d_S_get_85 : decode b_S_get 85 = .ok (.iload_n 3, 1) := by decide +kernel
theorem d_S_get_86 : decode b_S_get 86 = .ok (.invokevirtual 135, 3) := by decide +kernel
theorem d_S_get_89 : decode b_S_get 89 = .ok (.aload_n 0, 1) := by decide +kernel
theorem d_S_get_90 : decode b_S_get 90 = .ok (.getfield 19, 3) := by decide +kernel
theorem d_S_get_93 : decode b_S_get 93 = .ok (.aload_n 0, 1) := by decide +kernel
theorem d_S_get_94 : decode b_S_get 94 = .ok (.getfield 49, 3) := by decide +kernel
theorem d_S_get_97 : decode b_S_get 97 = .ok (.iload_n 3, 1) := by decide +kernel
theorem d_S_get_98 : decode b_S_get 98 = .ok (.invokevirtual 139, 3) := by decide +kernel
theorem d_S_get_101 : decode b_S_get 101 = .ok (.aload_n 0, 1) := by decide +kernel
theorem d_S_get_102 : decode b_S_get 102 = .ok (.iload_n 3, 1) := by decide +kernel
theorem d_S_get_103 : decode b_S_get 103 = .ok (.putfield 52, 3) := by decide +kernel
theorem d_S_get_106 : decode b_S_get 106 = .ok (.iload_n 3, 1) := by decide +kernel
theorem d_S_get_107 : decode b_S_get 107 = .ok (.ireturn, 1) := by decide +kernel
theorem d_S_out_0 : decode b_S_out 0 = .ok (.iload_n 1, 1) := by decide +kernel
theorem d_S_out_1 : decode b_S_out 1 = .ok (.aload_n 0, 1) := by decide +kernel
theorem d_S_out_2 : decode b_S_out 2 = .ok (.getfield 52, 3) := by decide +kernel
theorem d_S_out_5 : decode b_S_out 5 = .ok (.invokestatic 63, 3) := by decide +kernel
theorem d_S_out_8 : decode b_S_out 8 = .ok (.aload_n 0, 1) := by decide +kernel
theorem d_S_out_9 : decode b_S_out 9 = .ok (.getfield 49, 3) := by decide +kernel
theorem d_S_out_12 : decode b_S_out 12 = .ok (.iload_n 1, 1) := by decide +kernel
theorem d_S_out_13 : decode b_S_out 13 = .ok (.iaload, 1) := by decide +kernel
theorem d_S_out_14 : decode b_S_out 14 = .ok (.ireturn, 1) := by decide +kernel
theorem d_S_object_0 : decode b_S_object 0 = .ok (.iload_n 1, 1) := by decide +kernel
theorem d_S_object_1 : decode b_S_object 1 = .ok (.bipush (12), 2) := by decide +kernel
theorem d_S_object_3 : decode b_S_object 3 = .ok (.invokestatic 63, 3) := by decide +kernel
theorem d_S_object_6 : decode b_S_object 6 = .ok (.iload_n 2, 1) := by decide +kernel
theorem d_S_object_7 : decode b_S_object 7 = .ok (.iconst (3), 1) := by decide +kernel
theorem d_S_object_8 : decode b_S_object 8 = .ok (.invokestatic 63, 3) := by decide +kernel
theorem d_S_object_11 : decode b_S_object 11 = .ok (.aload_n 0, 1) := by decide +kernel
theorem d_S_object_12 : decode b_S_object 12 = .ok (.getfield 31, 3) := by decide +kernel
theorem d_S_object_15 : decode b_S_object 15 = .ok (.iload_n 1, 1) := by decide +kernel
theorem d_S_object_16 : decode b_S_object 16 = .ok (.aaload, 1) := by decide +kernel
theorem d_S_object_17 : decode b_S_object 17 = .ok (.astore_n 3, 1) := by decide +kernel
theorem d_S_object_18 : decode b_S_object 18 = .ok (.iload_n 2, 1) := by decide +kernel
theorem d_S_object_19 : decode b_S_object 19 = .ok (.ifCond .ne (8), 3) := by decide +kernel
theorem d_S_object_22 : decode b_S_object 22 = .ok (.aload_n 3, 1) := by decide +kernel
theorem d_S_object_23 : decode b_S_object 23 = .ok (.getfield 143, 3) := by decide +kernel
theorem d_S_object_26 : decode b_S_object 26 = .ok (.ireturn, 1) := by decide +kernel
theorem d_S_object_27 : decode b_S_object 27 = .ok (.iload_n 2, 1) := by decide +kernel
theorem d_S_object_28 : decode b_S_object 28 = .ok (.iconst (1), 1) := by decide +kernel
theorem d_S_object_29 : decode b_S_object 29 = .ok (.if_icmp .ne (8), 3) := by decide +kernel
theorem d_S_object_32 : decode b_S_object 32 = .ok (.aload_n 3, 1) := by decide +kernel
theorem d_S_object_33 : decode b_S_object 33 = .ok (.getfield 117, 3) := by decide +kernel
theorem d_S_object_36 : decode b_S_object 36 = .ok (.ireturn, 1) := by decide +kernel
theorem d_S_object_37 : decode b_S_object 37 = .ok (.aload_n 3, 1) := by decide +kernel
theorem d_S_object_38 : decode b_S_object 38 = .ok (.getfield 100, 3) := by decide +kernel
theorem d_S_object_41 : decode b_S_object 41 = .ok (.ifCond .eq (7), 3) := by decide +kernel
theorem d_S_object_44 : decode b_S_object 44 = .ok (.iconst (1), 1) := by decide +kernel
theorem d_S_object_45 : decode b_S_object 45 = .ok (.goto (4), 3) := by decide +kernel
theorem d_S_object_48 : decode b_S_object 48 = .ok (.iconst (0), 1) := by decide +kernel
theorem d_S_object_49 : decode b_S_object 49 = .ok (.ireturn, 1) := by decide +kernel
theorem d_S_fail_0 : decode b_S_fail 0 = .ok (.iload_n 1, 1) := by decide +kernel
theorem d_S_fail_1 : decode b_S_fail 1 = .ok (.bipush (12), 2) := by decide +kernel
theorem d_S_fail_3 : decode b_S_fail 3 = .ok (.invokestatic 63, 3) := by decide +kernel
theorem d_S_fail_6 : decode b_S_fail 6 = .ok (.aload_n 0, 1) := by decide +kernel
theorem d_S_fail_7 : decode b_S_fail 7 = .ok (.iload_n 1, 1) := by decide +kernel
theorem d_S_fail_8 : decode b_S_fail 8 = .ok (.invokevirtual 146, 3) := by decide +kernel
theorem d_S_fail_11 : decode b_S_fail 11 = .ok (.aload_n 0, 1) := by decide +kernel
theorem d_S_fail_12 : decode b_S_fail 12 = .ok (.getfield 25, 3) := by decide +kernel
theorem d_S_fail_15 : decode b_S_fail 15 = .ok (.iload_n 1, 1) := by decide +kernel
theorem d_S_fail_16 : decode b_S_fail 16 = .ok (.aaload, 1) := by decide +kernel
theorem d_S_fail_17 : decode b_S_fail 17 = .ok (.iconst (0), 1) := by decide +kernel
theorem d_S_fail_18 : decode b_S_fail 18 = .ok (.putfield 149, 3) := by decide +kernel
theorem d_S_fail_21 : decode b_S_fail 21 = .ok (.return_, 1) := by decide +kernel
theorem d_S_back_0 : decode b_S_back 0 = .ok (.iload_n 1, 1) := by decide +kernel
theorem d_S_back_1 : decode b_S_back 1 = .ok (.bipush (12), 2) := by decide +kernel
theorem d_S_back_3 : decode b_S_back 3 = .ok (.invokestatic 63, 3) := by decide +kernel
theorem d_S_back_6 : decode b_S_back 6 = .ok (.aload_n 0, 1) := by decide +kernel
theorem d_S_back_7 : decode b_S_back 7 = .ok (.getfield 25, 3) := by decide +kernel
theorem d_S_back_10 : decode b_S_back 10 = .ok (.iload_n 1, 1) := by decide +kernel
theorem d_S_back_11 : decode b_S_back 11 = .ok (.aaload, 1) := by decide +kernel
theorem d_S_back_12 : decode b_S_back 12 = .ok (.getfield 149, 3) := by decide +kernel
theorem d_S_back_15 : decode b_S_back 15 = .ok (.ifCond .eq (11), 3) := by decide +kernel
theorem d_S_back_18 : decode b_S_back 18 = .ok (.new 104, 3) := by decide +kernel
theorem d_S_back_21 : decode b_S_back 21 = .ok (.dup, 1) := by decide +kernel
theorem d_S_back_22 : decode b_S_back 22 = .ok (.invokespecial 106, 3) := by decide +kernel
theorem d_S_back_25 : decode b_S_back 25 = .ok (.athrow, 1) := by decide +kernel
theorem d_S_back_26 : decode b_S_back 26 = .ok (.aload_n 0, 1) := by decide +kernel
theorem d_S_back_27 : decode b_S_back 27 = .ok (.getfield 25, 3) := by decide +kernel
theorem d_S_back_30 : decode b_S_back 30 = .ok (.iload_n 1, 1) := by decide +kernel
theorem d_S_back_31 : decode b_S_back 31 = .ok (.aaload, 1) := by decide +kernel
theorem d_S_back_32 : decode b_S_back 32 = .ok (.iload_n 2, 1) := by decide +kernel
theorem d_S_back_33 : decode b_S_back 33 = .ok (.invokevirtual 152, 3) := by decide +kernel
theorem d_S_back_36 : decode b_S_back 36 = .ok (.return_, 1) := by decide +kernel
theorem d_S_rebuild_0 : decode b_S_rebuild 0 = .ok (.iload_n 1, 1) := by decide +kernel
theorem d_S_rebuild_1 : decode b_S_rebuild 1 = .ok (.bipush (12), 2) := by decide +kernel
theorem d_S_rebuild_3 : decode b_S_rebuild 3 = .ok (.invokestatic 63, 3) := by decide +kernel
theorem d_S_rebuild_6 : decode b_S_rebuild 6 = .ok (.iload_n 2, 1) := by decide +kernel
theorem d_S_rebuild_7 : decode b_S_rebuild 7 = .ok (.invokestatic 114, 3) := by decide +kernel
theorem d_S_rebuild_10 : decode b_S_rebuild 10 = .ok (.aload_n 0, 1) := by decide +kernel
theorem d_S_rebuild_11 : decode b_S_rebuild 11 = .ok (.iload_n 1, 1) := by decide +kernel
theorem d_S_rebuild_12 : decode b_S_rebuild 12 = .ok (.invokevirtual 146, 3) := by decide +kernel
theorem d_S_rebuild_15 : decode b_S_rebuild 15 = .ok (.iload_n 2, 1) := by decide +kernel
theorem d_S_rebuild_16 : decode b_S_rebuild 16 = .ok (.iconst (1), 1) := by decide +kernel
theorem d_S_rebuild_17 : decode b_S_rebuild 17 = .ok (.iload_n 1, 1) := by decide +kernel
theorem d_S_rebuild_18 : decode b_S_rebuild 18 = .ok (.ishl, 1) := by decide +kernel
theorem d_S_rebuild_19 : decode b_S_rebuild 19 = .ok (.iconst (-1), 1) := by decide +kernel
theorem d_S_rebuild_20 : decode b_S_rebuild 20 = .ok (.ixor, 1) := by decide +kernel
theorem d_S_rebuild_21 : decode b_S_rebuild 21 = .ok (.iand, 1) := by decide +kernel
theorem d_S_rebuild_22 : decode b_S_rebuild 22 = .ok (.istore_n 3, 1) := by decide +kernel
theorem d_S_rebuild_23 : decode b_S_rebuild 23 = .ok (.iconst (0), 1) := by decide +kernel
theorem d_S_rebuild_24 : decode b_S_rebuild 24 = .ok (.istore 4, 2) := by decide +kernel
theorem d_S_rebuild_26 : decode b_S_rebuild 26 = .ok (.iload 4, 2) := by decide +kernel
theorem d_S_rebuild_28 : decode b_S_rebuild 28 = .ok (.bipush (12), 2) := by decide +kernel
theorem d_S_rebuild_30 : decode b_S_rebuild 30 = .ok (.if_icmp .ge (37), 3) := by decide +kernel
theorem d_S_rebuild_33 : decode b_S_rebuild 33 = .ok (.aload_n 0, 1) := by decide +kernel
theorem d_S_rebuild_34 : decode b_S_rebuild 34 = .ok (.iload_n 1, 1) := by decide +kernel
theorem d_S_rebuild_35 : decode b_S_rebuild 35 = .ok (.iload 4, 2) := by decide +kernel
theorem d_S_rebuild_37 : decode b_S_rebuild 37 = .ok (.invokevirtual 155, 3) := by decide +kernel
theorem d_S_rebuild_40 : decode b_S_rebuild 40 = .ok (.ifCond .eq (21), 3) := by decide +kernel
theorem d_S_rebuild_43 : decode b_S_rebuild 43 = .ok (.aload_n 0, 1) := by decide +kernel
theorem d_S_rebuild_44 : decode b_S_rebuild 44 = .ok (.iload 4, 2) := by decide +kernel
theorem d_S_rebuild_46 : decode b_S_rebuild 46 = .ok (.iload_n 3, 1) := by decide +kernel
theorem d_S_rebuild_47 : decode b_S_rebuild 47 = .ok (.invokevirtual 158, 3) := by decide +kernel
theorem d_S_rebuild_50 : decode b_S_rebuild 50 = .ok (.ifCond .eq (11), 3) := by decide +kernel
theorem d_S_rebuild_53 : decode b_S_rebuild 53 = .ok (.new 77, 3) := by decide +kernel
theorem d_S_rebuild_56 : decode b_S_rebuild 56 = .ok (.dup, 1) := by decide +kernel
theorem d_S_rebuild_57 : decode b_S_rebuild 57 = .ok (.invokespecial 79, 3) := by decide +kernel
theorem d_S_rebuild_60 : decode b_S_rebuild 60 = .ok (.athrow, 1) := by decide +kernel
theorem d_S_rebuild_61 : decode b_S_rebuild 61 = .ok (.iinc 4 (1), 3) := by decide +kernel
theorem d_S_rebuild_64 : decode b_S_rebuild 64 = .ok (.goto (-38), 3) := by decide +kernel
theorem d_S_rebuild_67 : decode b_S_rebuild 67 = .ok (.iconst (0), 1) := by decide +kernel
theorem d_S_rebuild_68 : decode b_S_rebuild 68 = .ok (.istore 4, 2) := by decide +kernel
theorem d_S_rebuild_70 : decode b_S_rebuild 70 = .ok (.iconst (0), 1) := by decide +kernel
theorem d_S_rebuild_71 : decode b_S_rebuild 71 = .ok (.istore 5, 2) := by decide +kernel
theorem d_S_rebuild_73 : decode b_S_rebuild 73 = .ok (.iload 5, 2) := by decide +kernel
theorem d_S_rebuild_75 : decode b_S_rebuild 75 = .ok (.bipush (12), 2) := by decide +kernel
theorem d_S_rebuild_77 : decode b_S_rebuild 77 = .ok (.if_icmp .ge (37), 3) := by decide +kernel
theorem d_S_rebuild_80 : decode b_S_rebuild 80 = .ok (.aload_n 0, 1) := by decide +kernel
theorem d_S_rebuild_81 : decode b_S_rebuild 81 = .ok (.iload_n 1, 1) := by decide +kernel
theorem d_S_rebuild_82 : decode b_S_rebuild 82 = .ok (.iload 5, 2) := by decide +kernel
theorem d_S_rebuild_84 : decode b_S_rebuild 84 = .ok (.invokevirtual 155, 3) := by decide +kernel
theorem d_S_rebuild_87 : decode b_S_rebuild 87 = .ok (.ifCond .eq (21), 3) := by decide +kernel
theorem d_S_rebuild_90 : decode b_S_rebuild 90 = .ok (.iload 4, 2) := by decide +kernel
theorem d_S_rebuild_92 : decode b_S_rebuild 92 = .ok (.aload_n 0, 1) := by decide +kernel
theorem d_S_rebuild_93 : decode b_S_rebuild 93 = .ok (.aload_n 0, 1) := by decide +kernel
theorem d_S_rebuild_94 : decode b_S_rebuild 94 = .ok (.getfield 25, 3) := by decide +kernel
theorem d_S_rebuild_97 : decode b_S_rebuild 97 = .ok (.iload_n 1, 1) := by decide +kernel
theorem d_S_rebuild_98 : decode b_S_rebuild 98 = .ok (.aaload, 1) := by decide +kernel
theorem d_S_rebuild_99 : decode b_S_rebuild 99 = .ok (.iload 5, 2) := by decide +kernel
theorem d_S_rebuild_101 : decode b_S_rebuild 101 = .ok (.iload_n 3, 1) := by decide +kernel
theorem d_S_rebuild_102 : decode b_S_rebuild 102 = .ok (.invokevirtual 161, 3) := by decide +kernel
theorem d_S_rebuild_105 : decode b_S_rebuild 105 = .ok (.iadd, 1) := by decide +kernel
theorem d_S_rebuild_106 : decode b_S_rebuild 106 = .ok (.istore 4, 2) := by decide +kernel
theorem d_S_rebuild_108 : decode b_S_rebuild 108 = .ok (.iinc 5 (1), 3) := by decide +kernel
theorem d_S_rebuild_111 : decode b_S_rebuild 111 = .ok (.goto (-38), 3) := by decide +kernel
theorem d_S_rebuild_114 : decode b_S_rebuild 114 = .ok (.iload 4, 2) := by decide +kernel
theorem d_S_rebuild_116 : decode b_S_rebuild 116 = .ok (.ireturn, 1) := by decide +kernel
theorem d_S_node_0 : decode b_S_node 0 = .ok (.iload_n 1, 1) := by decide +kernel
theorem d_S_node_1 : decode b_S_node 1 = .ok (.bipush (12), 2) := by decide +kernel
theorem d_S_node_3 : decode b_S_node 3 = .ok (.invokestatic 63, 3) := by decide +kernel
theorem d_S_node_6 : decode b_S_node 6 = .ok (.iload_n 2, 1) := by decide +kernel
theorem d_S_node_7 : decode b_S_node 7 = .ok (.iconst (4), 1) := by decide +kernel
theorem d_S_node_8 : decode b_S_node 8 = .ok (.invokestatic 63, 3) := by decide +kernel
theorem d_S_node_11 : decode b_S_node 11 = .ok (.iload_n 2, 1) := by decide +kernel
theorem d_S_node_12 : decode b_S_node 12 = .ok (.ifCond .ne (21), 3) := by decide +kernel
theorem d_S_node_15 : decode b_S_node 15 = .ok (.aload_n 0, 1) := by decide +kernel
theorem d_S_node_16 : decode b_S_node 16 = .ok (.getfield 25, 3) := by decide +kernel
theorem d_S_node_19 : decode b_S_node 19 = .ok (.iload_n 1, 1) := by decide +kernel
theorem d_S_node_20 : decode b_S_node 20 = .ok (.aaload, 1) := by decide +kernel
theorem d_S_node_21 : decode b_S_node 21 = .ok (.getfield 149, 3) := by decide +kernel
theorem d_S_node_24 : decode b_S_node 24 = .ok (.ifCond .eq (7), 3) := by decide +kernel
theorem d_S_node_27 : decode b_S_node 27 = .ok (.iconst (1), 1) := by decide +kernel
theorem d_S_node_28 : decode b_S_node 28 = .ok (.goto (4), 3) := by decide +kernel
theorem d_S_node_31 : decode b_S_node 31 = .ok (.iconst (0), 1) := by decide +kernel
theorem d_S_node_32 : decode b_S_node 32 = .ok (.ireturn, 1) := by decide +kernel
theorem d_S_node_33 : decode b_S_node 33 = .ok (.iload_n 2, 1) := by decide +kernel
theorem d_S_node_34 : decode b_S_node 34 = .ok (.iconst (1), 1) := by decide +kernel
theorem d_S_node_35 : decode b_S_node 35 = .ok (.if_icmp .ne (13), 3) := by decide +kernel
theorem d_S_node_38 : decode b_S_node 38 = .ok (.aload_n 0, 1) := by decide +kernel
theorem d_S_node_39 : decode b_S_node 39 = .ok (.getfield 25, 3) := by decide +kernel
theorem d_S_node_42 : decode b_S_node 42 = .ok (.iload_n 1, 1) := by decide +kernel
theorem d_S_node_43 : decode b_S_node 43 = .ok (.aaload, 1) := by decide +kernel
theorem d_S_node_44 : decode b_S_node 44 = .ok (.getfield 165, 3) := by decide +kernel
theorem d_S_node_47 : decode b_S_node 47 = .ok (.ireturn, 1) := by decide +kernel
theorem d_S_node_48 : decode b_S_node 48 = .ok (.iload_n 2, 1) := by decide +kernel
theorem d_S_node_49 : decode b_S_node 49 = .ok (.iconst (2), 1) := by decide +kernel
theorem d_S_node_50 : decode b_S_node 50 = .ok (.if_icmp .ne (11), 3) := by decide +kernel
theorem d_S_node_53 : decode b_S_node 53 = .ok (.aload_n 0, 1) := by decide +kernel
theorem d_S_node_54 : decode b_S_node 54 = .ok (.iload_n 1, 1) := by decide +kernel
theorem d_S_node_55 : decode b_S_node 55 = .ok (.invokevirtual 168, 3) := by decide +kernel
theorem d_S_node_58 : decode b_S_node 58 = .ok (.goto (12), 3) := by decide +kernel
theorem d_S_node_61 : decode b_S_node 61 = .ok (.aload_n 0, 1) := by decide +kernel
theorem d_S_node_62 : decode b_S_node 62 = .ok (.getfield 25, 3) := by decide +kernel
theorem d_S_node_65 : decode b_S_node 65 = .ok (.iload_n 1, 1) := by decide +kernel
theorem d_S_node_66 : decode b_S_node 66 = .ok (.aaload, 1) := by decide +kernel
theorem d_S_node_67 : decode b_S_node 67 = .ok (.invokevirtual 171, 3) := by decide +kernel
theorem d_S_node_70 : decode b_S_node 70 = .ok (.ireturn, 1) := by decide +kernel
theorem d_S_share_0 : decode b_S_share 0 = .ok (.iload_n 1, 1) := by decide +kernel
theorem d_S_share_1 : decode b_S_share 1 = .ok (.bipush (12), 2) := by decide +kernel
theorem d_S_share_3 : decode b_S_share 3 = .ok (.invokestatic 63, 3) := by decide +kernel
theorem d_S_share_6 : decode b_S_share 6 = .ok (.iload_n 2, 1) := by decide +kernel
theorem d_S_share_7 : decode b_S_share 7 = .ok (.bipush (12), 2) := by decide +kernel
theorem d_S_share_9 : decode b_S_share 9 = .ok (.invokestatic 63, 3) := by decide +kernel
theorem d_S_share_12 : decode b_S_share 12 = .ok (.iload_n 3, 1) := by decide +kernel
theorem d_S_share_13 : decode b_S_share 13 = .ok (.iconst (2), 1) := by decide +kernel
theorem d_S_share_14 : decode b_S_share 14 = .ok (.invokestatic 63, 3) := by decide +kernel
theorem d_S_share_17 : decode b_S_share 17 = .ok (.aload_n 0, 1) := by decide +kernel
theorem d_S_share_18 : decode b_S_share 18 = .ok (.getfield 25, 3) := by decide +kernel
theorem d_S_share_21 : decode b_S_share 21 = .ok (.iload_n 1, 1) := by decide +kernel
theorem d_S_share_22 : decode b_S_share 22 = .ok (.aaload, 1) := by decide +kernel
theorem d_S_share_23 : decode b_S_share 23 = .ok (.getfield 174, 3) := by decide +kernel
theorem d_S_share_26 : decode b_S_share 26 = .ok (.iload_n 2, 1) := by decide +kernel
theorem d_S_share_27 : decode b_S_share 27 = .ok (.aaload, 1) := by decide +kernel
theorem d_S_share_28 : decode b_S_share 28 = .ok (.astore 4, 2) := by decide +kernel
theorem d_S_share_30 : decode b_S_share 30 = .ok (.iload_n 3, 1) := by decide +kernel
theorem d_S_share_31 : decode b_S_share 31 = .ok (.ifCond .ne (11), 3) := by decide +kernel
theorem d_S_share_34 : decode b_S_share 34 = .ok (.aload 4, 2) := by decide +kernel
theorem d_S_share_36 : decode b_S_share 36 = .ok (.getfield 178, 3) := by decide +kernel
theorem d_S_share_39 : decode b_S_share 39 = .ok (.goto (8), 3) := by decide +kernel
theorem d_S_share_42 : decode b_S_share 42 = .ok (.aload 4, 2) := by decide +kernel
theorem d_S_share_44 : decode b_S_share 44 = .ok (.getfield 183, 3) := by decide +kernel
theorem d_S_share_47 : decode b_S_share 47 = .ok (.ireturn, 1) := by decide +kernel
theorem d_S_byteAt_0 : decode b_S_byteAt 0 = .ok (.iload_n 1, 1) := by decide +kernel
theorem d_S_byteAt_1 : decode b_S_byteAt 1 = .ok (.bipush (12), 2) := by decide +kernel
theorem d_S_byteAt_3 : decode b_S_byteAt 3 = .ok (.invokestatic 63, 3) := by decide +kernel
theorem d_S_byteAt_6 : decode b_S_byteAt 6 = .ok (.iload_n 2, 1) := by decide +kernel
theorem d_S_byteAt_7 : decode b_S_byteAt 7 = .ok (.bipush (12), 2) := by decide +kernel
theorem d_S_byteAt_9 : decode b_S_byteAt 9 = .ok (.invokestatic 63, 3) := by decide +kernel
theorem d_S_byteAt_12 : decode b_S_byteAt 12 = .ok (.aload_n 0, 1) := by decide +kernel
theorem d_S_byteAt_13 : decode b_S_byteAt 13 = .ok (.getfield 25, 3) := by decide +kernel
theorem d_S_byteAt_16 : decode b_S_byteAt 16 = .ok (.iload_n 1, 1) := by decide +kernel
theorem d_S_byteAt_17 : decode b_S_byteAt 17 = .ok (.aaload, 1) := by decide +kernel
theorem d_S_byteAt_18 : decode b_S_byteAt 18 = .ok (.getfield 174, 3) := by decide +kernel
theorem d_S_byteAt_21 : decode b_S_byteAt 21 = .ok (.iload_n 2, 1) := by decide +kernel
theorem d_S_byteAt_22 : decode b_S_byteAt 22 = .ok (.aaload, 1) := by decide +kernel
theorem d_S_byteAt_23 : decode b_S_byteAt 23 = .ok (.astore 4, 2) := by decide +kernel
theorem d_S_byteAt_25 : decode b_S_byteAt 25 = .ok (.iload_n 3, 1) := by decide +kernel
theorem d_S_byteAt_26 : decode b_S_byteAt 26 = .ok (.bipush (8), 2) := by decide +kernel
theorem d_S_byteAt_28 : decode b_S_byteAt 28 = .ok (.aload 4, 2) := by decide +kernel
theorem d_S_byteAt_30 : decode b_S_byteAt 30 = .ok (.getfield 183, 3) := by decide +kernel
theorem d_S_byteAt_33 : decode b_S_byteAt 33 = .ok (.invokestatic 184, 3) := by decide +kernel
theorem d_S_byteAt_36 : decode b_S_byteAt 36 = .ok (.imul, 1) := by decide +kernel
theorem d_S_byteAt_37 : decode b_S_byteAt 37 = .ok (.invokestatic 63, 3) := by decide +kernel
theorem d_S_byteAt_40 : decode b_S_byteAt 40 = .ok (.aload 4, 2) := by decide +kernel
theorem d_S_byteAt_42 : decode b_S_byteAt 42 = .ok (.getfield 187, 3) := by decide +kernel
theorem d_S_byteAt_45 : decode b_S_byteAt 45 = .ok (.iload_n 3, 1) := by decide +kernel
theorem d_S_byteAt_46 : decode b_S_byteAt 46 = .ok (.iaload, 1) := by decide +kernel
theorem d_S_byteAt_47 : decode b_S_byteAt 47 = .ok (.ireturn, 1) := by decide +kernel
theorem d_S_field_0 : decode b_S_field 0 = .ok (.iload_n 3, 1) := by decide +kernel
theorem d_S_field_1 : decode b_S_field 1 = .ok (.iconst (2), 1) := by decide +kernel
theorem d_S_field_2 : decode b_S_field 2 = .ok (.invokestatic 63, 3) := by decide +kernel
theorem d_S_field_5 : decode b_S_field 5 = .ok (.iload_n 1, 1) := by decide +kernel
theorem d_S_field_6 : decode b_S_field 6 = .ok (.invokestatic 190, 3) := by decide +kernel
theorem d_S_field_9 : decode b_S_field 9 = .ok (.ifCond .eq (19), 3) := by decide +kernel
theorem d_S_field_12 : decode b_S_field 12 = .ok (.iload_n 2, 1) := by decide +kernel
theorem d_S_field_13 : decode b_S_field 13 = .ok (.invokestatic 190, 3) := by decide +kernel
theorem d_S_field_16 : decode b_S_field 16 = .ok (.ifCond .eq (12), 3) := by decide +kernel
theorem d_S_field_19 : decode b_S_field 19 = .ok (.iload_n 3, 1) := by decide +kernel
theorem d_S_field_20 : decode b_S_field 20 = .ok (.iconst (1), 1) := by decide +kernel
theorem d_S_field_21 : decode b_S_field 21 = .ok (.if_icmp .ne (15), 3) := by decide +kernel
theorem d_S_field_24 : decode b_S_field 24 = .ok (.iload_n 1, 1) := by decide +kernel
theorem d_S_field_25 : decode b_S_field 25 = .ok (.ifCond .ne (11), 3) := by decide +kernel
theorem d_S_field_28 : decode b_S_field 28 = .ok (.new 67, 3) := by decide +kernel
theorem d_S_field_31 : decode b_S_field 31 = .ok (.dup, 1) := by decide +kernel
theorem d_S_field_32 : decode b_S_field 32 = .ok (.invokespecial 69, 3) := by decide +kernel
theorem d_S_field_35 : decode b_S_field 35 = .ok (.athrow, 1) := by decide +kernel
theorem d_S_field_36 : decode b_S_field 36 = .ok (.iload_n 3, 1) := by decide +kernel
theorem d_S_field_37 : decode b_S_field 37 = .ok (.ifCond .ne (15), 3) := by decide +kernel
theorem d_S_field_40 : decode b_S_field 40 = .ok (.aload_n 0, 1) := by decide +kernel
theorem d_S_field_41 : decode b_S_field 41 = .ok (.getfield 12, 3) := by decide +kernel
theorem d_S_field_44 : decode b_S_field 44 = .ok (.iload_n 1, 1) := by decide +kernel
theorem d_S_field_45 : decode b_S_field 45 = .ok (.iload_n 2, 1) := by decide +kernel
theorem d_S_field_46 : decode b_S_field 46 = .ok (.invokevirtual 194, 3) := by decide +kernel
theorem d_S_field_49 : decode b_S_field 49 = .ok (.goto (12), 3) := by decide +kernel
theorem d_S_field_52 : decode b_S_field 52 = .ok (.aload_n 0, 1) := by decide +kernel
theorem d_S_field_53 : decode b_S_field 53 = .ok (.getfield 12, 3) := by decide +kernel
theorem d_S_field_56 : decode b_S_field 56 = .ok (.iload_n 2, 1) := by decide +kernel
theorem d_S_field_57 : decode b_S_field 57 = .ok (.iload_n 1, 1) := by decide +kernel
theorem d_S_field_58 : decode b_S_field 58 = .ok (.invokevirtual 197, 3) := by decide +kernel
theorem d_S_field_61 : decode b_S_field 61 = .ok (.ireturn, 1) := by decide +kernel
theorem d_S_checkIndex_0 : decode b_S_checkIndex 0 = .ok (.iload_n 0, 1) := by decide +kernel
theorem d_S_checkIndex_1 : decode b_S_checkIndex 1 = .ok (.ifCond .lt (8), 3) := by decide +kernel
theorem d_S_checkIndex_4 : decode b_S_checkIndex 4 = .ok (.iload_n 0, 1) := by decide +kernel
theorem d_S_checkIndex_5 : decode b_S_checkIndex 5 = .ok (.iload_n 1, 1) := by decide +kernel
theorem d_S_checkIndex_6 : decode b_S_checkIndex 6 = .ok (.if_icmp .lt (11), 3) := by decide +kernel
theorem d_S_checkIndex_9 : decode b_S_checkIndex 9 = .ok (.new 200, 3) := by decide +kernel
theorem d_S_checkIndex_12 : decode b_S_checkIndex 12 = .ok (.dup, 1) := by decide +kernel
theorem d_S_checkIndex_13 : decode b_S_checkIndex 13 = .ok (.invokespecial 202, 3) := by decide +kernel
theorem d_S_checkIndex_16 : decode b_S_checkIndex 16 = .ok (.athrow, 1) := by decide +kernel
theorem d_S_checkIndex_17 : decode b_S_checkIndex 17 = .ok (.return_, 1) := by decide +kernel
theorem d_S_checkMask_0 : decode b_S_checkMask 0 = .ok (.iload_n 0, 1) := by decide +kernel
theorem d_S_checkMask_1 : decode b_S_checkMask 1 = .ok (.sipush (-4096), 3) := by decide +kernel
theorem d_S_checkMask_4 : decode b_S_checkMask 4 = .ok (.iand, 1) := by decide +kernel
theorem d_S_checkMask_5 : decode b_S_checkMask 5 = .ok (.ifCond .eq (11), 3) := by decide +kernel
theorem d_S_checkMask_8 : decode b_S_checkMask 8 = .ok (.new 67, 3) := by decide +kernel
theorem d_S_checkMask_11 : decode b_S_checkMask 11 = .ok (.dup, 1) := by decide +kernel
theorem d_S_checkMask_12 : decode b_S_checkMask 12 = .ok (.invokespecial 69, 3) := by decide +kernel
theorem d_S_checkMask_15 : decode b_S_checkMask 15 = .ok (.athrow, 1) := by decide +kernel
theorem d_S_checkMask_16 : decode b_S_checkMask 16 = .ok (.return_, 1) := by decide +kernel
theorem d_S_checkNotStopped_0 : decode b_S_checkNotStopped 0 = .ok (.aload_n 0, 1) := by decide +kernel
theorem d_S_checkNotStopped_1 : decode b_S_checkNotStopped 1 = .ok (.getfield 31, 3) := by decide +kernel
theorem d_S_checkNotStopped_4 : decode b_S_checkNotStopped 4 = .ok (.iload_n 1, 1) := by decide +kernel
theorem d_S_checkNotStopped_5 : decode b_S_checkNotStopped 5 = .ok (.aaload, 1) := by decide +kernel
theorem d_S_checkNotStopped_6 : decode b_S_checkNotStopped 6 = .ok (.getfield 100, 3) := by decide +kernel
theorem d_S_checkNotStopped_9 : decode b_S_checkNotStopped 9 = .ok (.ifCond .eq (11), 3) := by decide +kernel
theorem d_S_checkNotStopped_12 : decode b_S_checkNotStopped 12 = .ok (.new 104, 3) := by decide +kernel
theorem d_S_checkNotStopped_15 : decode b_S_checkNotStopped 15 = .ok (.dup, 1) := by decide +kernel
theorem d_S_checkNotStopped_16 : decode b_S_checkNotStopped 16 = .ok (.invokespecial 106, 3) := by decide +kernel
theorem d_S_checkNotStopped_19 : decode b_S_checkNotStopped 19 = .ok (.athrow, 1) := by decide +kernel
theorem d_S_checkNotStopped_20 : decode b_S_checkNotStopped 20 = .ok (.return_, 1) := by decide +kernel
theorem d_S_checkLive_0 : decode b_S_checkLive 0 = .ok (.aload_n 0, 1) := by decide +kernel
theorem d_S_checkLive_1 : decode b_S_checkLive 1 = .ok (.getfield 25, 3) := by decide +kernel
theorem d_S_checkLive_4 : decode b_S_checkLive 4 = .ok (.iload_n 1, 1) := by decide +kernel
theorem d_S_checkLive_5 : decode b_S_checkLive 5 = .ok (.aaload, 1) := by decide +kernel
theorem d_S_checkLive_6 : decode b_S_checkLive 6 = .ok (.getfield 149, 3) := by decide +kernel
theorem d_S_checkLive_9 : decode b_S_checkLive 9 = .ok (.ifCond .ne (11), 3) := by decide +kernel
theorem d_S_checkLive_12 : decode b_S_checkLive 12 = .ok (.new 104, 3) := by decide +kernel
theorem d_S_checkLive_15 : decode b_S_checkLive 15 = .ok (.dup, 1) := by decide +kernel
theorem d_S_checkLive_16 : decode b_S_checkLive 16 = .ok (.invokespecial 106, 3) := by decide +kernel
theorem d_S_checkLive_19 : decode b_S_checkLive 19 = .ok (.athrow, 1) := by decide +kernel
theorem d_S_checkLive_20 : decode b_S_checkLive 20 = .ok (.return_, 1) := by decide +kernel
theorem d_S_isByte_0 : decode b_S_isByte 0 = .ok (.iload_n 0, 1) := by decide +kernel
theorem d_S_isByte_1 : decode b_S_isByte 1 = .ok (.ifCond .lt (14), 3) := by decide +kernel
theorem d_S_isByte_4 : decode b_S_isByte 4 = .ok (.iload_n 0, 1) := by decide +kernel
theorem d_S_isByte_5 : decode b_S_isByte 5 = .ok (.sipush (255), 3) := by decide +kernel
theorem d_S_isByte_8 : decode b_S_isByte 8 = .ok (.if_icmp .gt (7), 3) := by decide +kernel
theorem d_S_isByte_11 : decode b_S_isByte 11 = .ok (.iconst (1), 1) := by decide +kernel
theorem d_S_isByte_12 : decode b_S_isByte 12 = .ok (.goto (4), 3) := by decide +kernel
theorem d_S_isByte_15 : decode b_S_isByte 15 = .ok (.iconst (0), 1) := by decide +kernel
theorem d_S_isByte_16 : decode b_S_isByte 16 = .ok (.ireturn, 1) := by decide +kernel
theorem d_S_stripesOf_0 : decode b_S_stripesOf 0 = .ok (.iload_n 0, 1) := by decide +kernel
theorem d_S_stripesOf_1 : decode b_S_stripesOf 1 = .ok (.bipush (30), 2) := by decide +kernel
theorem d_S_stripesOf_3 : decode b_S_stripesOf 3 = .ok (.iadd, 1) := by decide +kernel
theorem d_S_stripesOf_4 : decode b_S_stripesOf 4 = .ok (.iconst (1), 1) := by decide +kernel
theorem d_S_stripesOf_5 : decode b_S_stripesOf 5 = .ok (.isub, 1) := by decide +kernel
theorem d_S_stripesOf_6 : decode b_S_stripesOf 6 = .ok (.bipush (30), 2) := by decide +kernel
theorem d_S_stripesOf_8 : decode b_S_stripesOf 8 = .ok (.idiv, 1) := by decide +kernel
theorem d_S_stripesOf_9 : decode b_S_stripesOf 9 = .ok (.ireturn, 1) := by decide +kernel
theorem d_S_countLive_0 : decode b_S_countLive 0 = .ok (.iconst (0), 1) := by decide +kernel
theorem d_S_countLive_1 : decode b_S_countLive 1 = .ok (.istore_n 1, 1) := by decide +kernel
theorem d_S_countLive_2 : decode b_S_countLive 2 = .ok (.iconst (0), 1) := by decide +kernel
theorem d_S_countLive_3 : decode b_S_countLive 3 = .ok (.istore_n 2, 1) := by decide +kernel
theorem d_S_countLive_4 : decode b_S_countLive 4 = .ok (.iload_n 2, 1) := by decide +kernel
theorem d_S_countLive_5 : decode b_S_countLive 5 = .ok (.bipush (12), 2) := by decide +kernel
theorem d_S_countLive_7 : decode b_S_countLive 7 = .ok (.if_icmp .ge (24), 3) := by decide +kernel
theorem d_S_countLive_10 : decode b_S_countLive 10 = .ok (.aload_n 0, 1) := by decide +kernel
theorem d_S_countLive_11 : decode b_S_countLive 11 = .ok (.getfield 25, 3) := by decide +kernel
theorem d_S_countLive_14 : decode b_S_countLive 14 = .ok (.iload_n 2, 1) := by decide +kernel
theorem d_S_countLive_15 : decode b_S_countLive 15 = .ok (.aaload, 1) := by decide +kernel
theorem d_S_countLive_16 : decode b_S_countLive 16 = .ok (.getfield 149, 3) := by decide +kernel
theorem d_S_countLive_19 : decode b_S_countLive 19 = .ok (.ifCond .eq (6), 3) := by decide +kernel
theorem d_S_countLive_22 : decode b_S_countLive 22 = .ok (.iinc 1 (1), 3) := by decide +kernel
theorem d_S_countLive_25 : decode b_S_countLive 25 = .ok (.iinc 2 (1), 3) := by decide +kernel
theorem d_S_countLive_28 : decode b_S_countLive 28 = .ok (.goto (-24), 3) := by decide +kernel
theorem d_S_countLive_31 : decode b_S_countLive 31 = .ok (.iload_n 1, 1) := by decide +kernel
theorem d_S_countLive_32 : decode b_S_countLive 32 = .ok (.ireturn, 1) := by decide +kernel
theorem d_S_isFresh_0 : decode b_S_isFresh 0 = .ok (.aload_n 0, 1) := by decide +kernel
theorem d_S_isFresh_1 : decode b_S_isFresh 1 = .ok (.getfield 25, 3) := by decide +kernel
theorem d_S_isFresh_4 : decode b_S_isFresh 4 = .ok (.iload_n 1, 1) := by decide +kernel
theorem d_S_isFresh_5 : decode b_S_isFresh 5 = .ok (.aaload, 1) := by decide +kernel
theorem d_S_isFresh_6 : decode b_S_isFresh 6 = .ok (.getfield 174, 3) := by decide +kernel
theorem d_S_isFresh_9 : decode b_S_isFresh 9 = .ok (.iload_n 2, 1) := by decide +kernel
theorem d_S_isFresh_10 : decode b_S_isFresh 10 = .ok (.aaload, 1) := by decide +kernel
theorem d_S_isFresh_11 : decode b_S_isFresh 11 = .ok (.getfield 178, 3) := by decide +kernel
theorem d_S_isFresh_14 : decode b_S_isFresh 14 = .ok (.aload_n 0, 1) := by decide +kernel
theorem d_S_isFresh_15 : decode b_S_isFresh 15 = .ok (.getfield 31, 3) := by decide +kernel
theorem d_S_isFresh_18 : decode b_S_isFresh 18 = .ok (.iload_n 2, 1) := by decide +kernel
theorem d_S_isFresh_19 : decode b_S_isFresh 19 = .ok (.aaload, 1) := by decide +kernel
theorem d_S_isFresh_20 : decode b_S_isFresh 20 = .ok (.getfield 143, 3) := by decide +kernel
theorem d_S_isFresh_23 : decode b_S_isFresh 23 = .ok (.if_icmp .ne (7), 3) := by decide +kernel
theorem d_S_isFresh_26 : decode b_S_isFresh 26 = .ok (.iconst (1), 1) := by decide +kernel
theorem d_S_isFresh_27 : decode b_S_isFresh 27 = .ok (.goto (4), 3) := by decide +kernel
theorem d_S_isFresh_30 : decode b_S_isFresh 30 = .ok (.iconst (0), 1) := by decide +kernel
theorem d_S_isFresh_31 : decode b_S_isFresh 31 = .ok (.ireturn, 1) := by decide +kernel
theorem d_S_countFresh_0 : decode b_S_countFresh 0 = .ok (.iconst (0), 1) := by decide +kernel
theorem d_S_countFresh_1 : decode b_S_countFresh 1 = .ok (.istore_n 2, 1) := by decide +kernel
theorem d_S_countFresh_2 : decode b_S_countFresh 2 = .ok (.iconst (0), 1) := by decide +kernel
theorem d_S_countFresh_3 : decode b_S_countFresh 3 = .ok (.istore_n 3, 1) := by decide +kernel
theorem d_S_countFresh_4 : decode b_S_countFresh 4 = .ok (.iload_n 3, 1) := by decide +kernel
theorem d_S_countFresh_5 : decode b_S_countFresh 5 = .ok (.bipush (12), 2) := by decide +kernel
theorem d_S_countFresh_7 : decode b_S_countFresh 7 = .ok (.if_icmp .ge (21), 3) := by decide +kernel
theorem d_S_countFresh_10 : decode b_S_countFresh 10 = .ok (.aload_n 0, 1) := by decide +kernel
theorem d_S_countFresh_11 : decode b_S_countFresh 11 = .ok (.iload_n 1, 1) := by decide +kernel
theorem d_S_countFresh_12 : decode b_S_countFresh 12 = .ok (.iload_n 3, 1) := by decide +kernel
theorem d_S_countFresh_13 : decode b_S_countFresh 13 = .ok (.invokevirtual 203, 3) := by decide +kernel
theorem d_S_countFresh_16 : decode b_S_countFresh 16 = .ok (.ifCond .eq (6), 3) := by decide +kernel
theorem d_S_countFresh_19 : decode b_S_countFresh 19 = .ok (.iinc 2 (1), 3) := by decide +kernel
theorem d_S_countFresh_22 : decode b_S_countFresh 22 = .ok (.iinc 3 (1), 3) := by decide +kernel
theorem d_S_countFresh_25 : decode b_S_countFresh 25 = .ok (.goto (-21), 3) := by decide +kernel
theorem d_S_countFresh_28 : decode b_S_countFresh 28 = .ok (.iload_n 2, 1) := by decide +kernel
theorem d_S_countFresh_29 : decode b_S_countFresh 29 = .ok (.ireturn, 1) := by decide +kernel
theorem d_S_liveAndFresh_0 : decode b_S_liveAndFresh 0 = .ok (.iconst (0), 1) := by decide +kernel
theorem d_S_liveAndFresh_1 : decode b_S_liveAndFresh 1 = .ok (.istore_n 3, 1) := by decide +kernel
theorem d_S_liveAndFresh_2 : decode b_S_liveAndFresh 2 = .ok (.iconst (0), 1) := by decide +kernel
theorem d_S_liveAndFresh_3 : decode b_S_liveAndFresh 3 = .ok (.istore 4, 2) := by decide +kernel
theorem d_S_liveAndFresh_5 : decode b_S_liveAndFresh 5 = .ok (.iload 4, 2) := by decide +kernel
theorem d_S_liveAndFresh_7 : decode b_S_liveAndFresh 7 = .ok (.bipush (12), 2) := by decide +kernel
theorem d_S_liveAndFresh_9 : decode b_S_liveAndFresh 9 = .ok (.if_icmp .ge (49), 3) := by decide +kernel
theorem d_S_liveAndFresh_12 : decode b_S_liveAndFresh 12 = .ok (.iload_n 2, 1) := by decide +kernel
theorem d_S_liveAndFresh_13 : decode b_S_liveAndFresh 13 = .ok (.iload 4, 2) := by decide +kernel
theorem d_S_liveAndFresh_15 : decode b_S_liveAndFresh 15 = .ok (.ishr, 1) := by decide +kernel
theorem d_S_liveAndFresh_16 : decode b_S_liveAndFresh 16 = .ok (.iconst (1), 1) := by decide +kernel
theorem d_S_liveAndFresh_17 : decode b_S_liveAndFresh 17 = .ok (.iand, 1) := by decide +kernel
theorem d_S_liveAndFresh_18 : decode b_S_liveAndFresh 18 = .ok (.iconst (1), 1) := by decide +kernel
theorem d_S_liveAndFresh_19 : decode b_S_liveAndFresh 19 = .ok (.if_icmp .ne (33), 3) := by decide +kernel
theorem d_S_liveAndFresh_22 : decode b_S_liveAndFresh 22 = .ok (.aload_n 0, 1) := by decide +kernel
theorem d_S_liveAndFresh_23 : decode b_S_liveAndFresh 23 = .ok (.getfield 25, 3) := by decide +kernel
theorem d_S_liveAndFresh_26 : decode b_S_liveAndFresh 26 = .ok (.iload 4, 2) := by decide +kernel
theorem d_S_liveAndFresh_28 : decode b_S_liveAndFresh 28 = .ok (.aaload, 1) := by decide +kernel
theorem d_S_liveAndFresh_29 : decode b_S_liveAndFresh 29 = .ok (.getfield 149, 3) := by decide +kernel
theorem d_S_liveAndFresh_32 : decode b_S_liveAndFresh 32 = .ok (.ifCond .eq (20), 3) := by decide +kernel
theorem d_S_liveAndFresh_35 : decode b_S_liveAndFresh 35 = .ok (.aload_n 0, 1) := by decide +kernel
theorem d_S_liveAndFresh_36 : decode b_S_liveAndFresh 36 = .ok (.iload 4, 2) := by decide +kernel
theorem d_S_liveAndFresh_38 : decode b_S_liveAndFresh 38 = .ok (.iload_n 1, 1) := by decide +kernel
theorem d_S_liveAndFresh_39 : decode b_S_liveAndFresh 39 = .ok (.invokevirtual 203, 3) := by decide +kernel
theorem d_S_liveAndFresh_42 : decode b_S_liveAndFresh 42 = .ok (.ifCond .eq (10), 3) := by decide +kernel
theorem d_S_liveAndFresh_45 : decode b_S_liveAndFresh 45 = .ok (.iload_n 3, 1) := by decide +kernel
theorem d_S_liveAndFresh_46 : decode b_S_liveAndFresh 46 = .ok (.iconst (1), 1) := by decide +kernel
theorem d_S_liveAndFresh_47 : decode b_S_liveAndFresh 47 = .ok (.iload 4, 2) := by decide +kernel
theorem d_S_liveAndFresh_49 : decode b_S_liveAndFresh 49 = .ok (.ishl, 1) := by decide +kernel
theorem d_S_liveAndFresh_50 : decode b_S_liveAndFresh 50 = .ok (.ior, 1) := by decide +kernel
theorem d_S_liveAndFresh_51 : decode b_S_liveAndFresh 51 = .ok (.istore_n 3, 1) := by decide +kernel
theorem d_S_liveAndFresh_52 : decode b_S_liveAndFresh 52 = .ok (.iinc 4 (1), 3) := by decide +kernel
theorem d_S_liveAndFresh_55 : decode b_S_liveAndFresh 55 = .ok (.goto (-50), 3) := by decide +kernel
theorem d_S_liveAndFresh_58 : decode b_S_liveAndFresh 58 = .ok (.iload_n 3, 1) := by decide +kernel
theorem d_S_liveAndFresh_59 : decode b_S_liveAndFresh 59 = .ok (.ireturn, 1) := by decide +kernel
theorem d_S_takeMessages_0 : decode b_S_takeMessages 0 = .ok (.aload_n 0, 1) := by decide +kernel
theorem d_S_takeMessages_1 : decode b_S_takeMessages 1 = .ok (.getfield 56, 3) := by decide +kernel
theorem d_S_takeMessages_4 : decode b_S_takeMessages 4 = .ok (.istore_n 2, 1) := by decide +kernel
theorem d_S_takeMessages_5 : decode b_S_takeMessages 5 = .ok (.aload_n 0, 1) := by decide +kernel
theorem d_S_takeMessages_6 : decode b_S_takeMessages 6 = .ok (.iconst (-1), 1) := by decide +kernel
theorem d_S_takeMessages_7 : decode b_S_takeMessages 7 = .ok (.putfield 56, 3) := by decide +kernel
theorem d_S_takeMessages_10 : decode b_S_takeMessages 10 = .ok (.iload_n 2, 1) := by decide +kernel
theorem d_S_takeMessages_11 : decode b_S_takeMessages 11 = .ok (.iconst (-1), 1) := by decide +kernel
theorem d_S_takeMessages_12 : decode b_S_takeMessages 12 = .ok (.if_icmp .eq (8), 3) := by decide +kernel
theorem d_S_takeMessages_15 : decode b_S_takeMessages 15 = .ok (.iload_n 2, 1) := by decide +kernel
theorem d_S_takeMessages_16 : decode b_S_takeMessages 16 = .ok (.iload_n 1, 1) := by decide +kernel
theorem d_S_takeMessages_17 : decode b_S_takeMessages 17 = .ok (.if_icmp .le (7), 3) := by decide +kernel
theorem d_S_takeMessages_20 : decode b_S_takeMessages 20 = .ok (.iload_n 1, 1) := by decide +kernel
theorem d_S_takeMessages_21 : decode b_S_takeMessages 21 = .ok (.goto (4), 3) := by decide +kernel
theorem d_S_takeMessages_24 : decode b_S_takeMessages 24 = .ok (.iload_n 2, 1) := by decide +kernel
theorem d_S_takeMessages_25 : decode b_S_takeMessages 25 = .ok (.ireturn, 1) := by decide +kernel
theorem d_S_sendShadows_0 : decode b_S_sendShadows 0 = .ok (.aload_n 0, 1) := by decide +kernel
theorem d_S_sendShadows_1 : decode b_S_sendShadows 1 = .ok (.getfield 31, 3) := by decide +kernel
theorem d_S_sendShadows_4 : decode b_S_sendShadows 4 = .ok (.iload_n 1, 1) := by decide +kernel
theorem d_S_sendShadows_5 : decode b_S_sendShadows 5 = .ok (.aaload, 1) := by decide +kernel
theorem d_S_sendShadows_6 : decode b_S_sendShadows 6 = .ok (.astore_n 3, 1) := by decide +kernel
theorem d_S_sendShadows_7 : decode b_S_sendShadows 7 = .ok (.aload_n 0, 1) := by decide +kernel
theorem d_S_sendShadows_8 : decode b_S_sendShadows 8 = .ok (.getfield 19, 3) := by decide +kernel
theorem d_S_sendShadows_11 : decode b_S_sendShadows 11 = .ok (.aload_n 0, 1) := by decide +kernel
theorem d_S_sendShadows_12 : decode b_S_sendShadows 12 = .ok (.getfield 46, 3) := by decide +kernel
theorem d_S_sendShadows_15 : decode b_S_sendShadows 15 = .ok (.aload_n 3, 1) := by decide +kernel
theorem d_S_sendShadows_16 : decode b_S_sendShadows 16 = .ok (.getfield 206, 3) := by decide +kernel
theorem d_S_sendShadows_19 : decode b_S_sendShadows 19 = .ok (.invokevirtual 209, 3) := by decide +kernel
theorem d_S_sendShadows_22 : decode b_S_sendShadows 22 = .ok (.iload_n 2, 1) := by decide +kernel
theorem d_S_sendShadows_23 : decode b_S_sendShadows 23 = .ok (.istore 4, 2) := by decide +kernel
theorem d_S_sendShadows_25 : decode b_S_sendShadows 25 = .ok (.iconst (0), 1) := by decide +kernel
theorem d_S_sendShadows_26 : decode b_S_sendShadows 26 = .ok (.istore 5, 2) := by decide +kernel
theorem d_S_sendShadows_28 : decode b_S_sendShadows 28 = .ok (.iload 5, 2) := by decide +kernel
theorem d_S_sendShadows_30 : decode b_S_sendShadows 30 = .ok (.bipush (12), 2) := by decide +kernel
theorem d_S_sendShadows_32 : decode b_S_sendShadows 32 = .ok (.if_icmp .ge (80), 3) := by decide +kernel
theorem d_S_sendShadows_35 : decode b_S_sendShadows 35 = .ok (.iload 4, 2) := by decide +kernel
theorem d_S_sendShadows_37 : decode b_S_sendShadows 37 = .ok (.ifCond .le (75), 3) := by decide +kernel
theorem d_S_sendShadows_40 : decode b_S_sendShadows 40 = .ok (.aload_n 0, 1) := by decide +kernel
theorem d_S_sendShadows_41 : decode b_S_sendShadows 41 = .ok (.getfield 25, 3) := by decide +kernel
theorem d_S_sendShadows_44 : decode b_S_sendShadows 44 = .ok (.iload 5, 2) := by decide +kernel
theorem d_S_sendShadows_46 : decode b_S_sendShadows 46 = .ok (.aaload, 1) := by decide +kernel
theorem d_S_sendShadows_47 : decode b_S_sendShadows 47 = .ok (.getfield 149, 3) := by decide +kernel
theorem d_S_sendShadows_50 : decode b_S_sendShadows 50 = .ok (.ifCond .eq (56), 3) := by decide +kernel
theorem d_S_sendShadows_53 : decode b_S_sendShadows 53 = .ok (.aload_n 0, 1) := by decide +kernel
theorem d_S_sendShadows_54 : decode b_S_sendShadows 54 = .ok (.getfield 25, 3) := by decide +kernel
theorem d_S_sendShadows_57 : decode b_S_sendShadows 57 = .ok (.iload 5, 2) := by decide +kernel
theorem d_S_sendShadows_59 : decode b_S_sendShadows 59 = .ok (.aaload, 1) := by decide +kernel
theorem d_S_sendShadows_60 : decode b_S_sendShadows 60 = .ok (.getfield 212, 3) := by decide +kernel
theorem d_S_sendShadows_63 : decode b_S_sendShadows 63 = .ok (.iload_n 1, 1) := by decide +kernel
theorem d_S_sendShadows_64 : decode b_S_sendShadows 64 = .ok (.aaload, 1) := by decide +kernel
theorem d_S_sendShadows_65 : decode b_S_sendShadows 65 = .ok (.astore 6, 2) := by decide +kernel
theorem d_S_sendShadows_67 : decode b_S_sendShadows 67 = .ok (.aload 6, 2) := by decide +kernel
theorem d_S_sendShadows_69 : decode b_S_sendShadows 69 = .ok (.aload_n 3, 1) := by decide +kernel
theorem d_S_sendShadows_70 : decode b_S_sendShadows 70 = .ok (.getfield 97, 3) := by decide +kernel
theorem d_S_sendShadows_73 : decode b_S_sendShadows 73 = .ok (.aload_n 3, 1) := by decide +kernel
theorem d_S_sendShadows_74 : decode b_S_sendShadows 74 = .ok (.getfield 206, 3) := by decide +kernel
theorem d_S_sendShadows_77 : decode b_S_sendShadows 77 = .ok (.invokevirtual 215, 3) := by decide +kernel
theorem d_S_sendShadows_80 : decode b_S_sendShadows 80 = .ok (.aload_n 0, 1) := by decide +kernel
theorem d_S_sendShadows_81 : decode b_S_sendShadows 81 = .ok (.getfield 19, 3) := by decide +kernel
theorem d_S_sendShadows_84 : decode b_S_sendShadows 84 = .ok (.aload_n 0, 1) := by decide +kernel
theorem d_S_sendShadows_85 : decode b_S_sendShadows 85 = .ok (.getfield 12, 3) := by decide +kernel
theorem d_S_sendShadows_88 : decode b_S_sendShadows 88 = .ok (.aload_n 0, 1) := by decide +kernel
theorem d_S_sendShadows_89 : decode b_S_sendShadows 89 = .ok (.getfield 25, 3) := by decide +kernel
theorem d_S_sendShadows_92 : decode b_S_sendShadows 92 = .ok (.iload 5, 2) := by decide +kernel
theorem d_S_sendShadows_94 : decode b_S_sendShadows 94 = .ok (.aaload, 1) := by decide +kernel
theorem d_S_sendShadows_95 : decode b_S_sendShadows 95 = .ok (.getfield 218, 3) := by decide +kernel
theorem d_S_sendShadows_98 : decode b_S_sendShadows 98 = .ok (.aload 6, 2) := by decide +kernel
theorem d_S_sendShadows_100 : decode b_S_sendShadows 100 = .ok (.invokevirtual 221, 3) := by decide +kernel
theorem d_S_sendShadows_103 : decode b_S_sendShadows 103 = .ok (.iinc 4 (-1), 3) := by decide +kernel
theorem d_S_sendShadows_106 : decode b_S_sendShadows 106 = .ok (.iinc 5 (1), 3) := by decide +kernel
theorem d_S_sendShadows_109 : decode b_S_sendShadows 109 = .ok (.goto (-81), 3) := by decide +kernel
theorem d_S_sendShadows_112 : decode b_S_sendShadows 112 = .ok (.return_, 1) := by decide +kernel
theorem d_S_turnShadows_0 : decode b_S_turnShadows 0 = .ok (.iload_n 2, 1) := by decide +kernel
theorem d_S_turnShadows_1 : decode b_S_turnShadows 1 = .ok (.istore_n 3, 1) := by decide +kernel
theorem d_S_turnShadows_2 : decode b_S_turnShadows 2 = .ok (.iconst (0), 1) := by decide +kernel
theorem d_S_turnShadows_3 : decode b_S_turnShadows 3 = .ok (.istore 4, 2) := by decide +kernel
theorem d_S_turnShadows_5 : decode b_S_turnShadows 5 = .ok (.iload 4, 2) := by decide +kernel
theorem d_S_turnShadows_7 : decode b_S_turnShadows 7 = .ok (.bipush (12), 2) := by decide +kernel
theorem d_S_turnShadows_9 : decode b_S_turnShadows 9 = .ok (.if_icmp .ge (67), 3) := by decide +kernel
theorem d_S_turnShadows_12 : decode b_S_turnShadows 12 = .ok (.iload_n 3, 1) := by decide +kernel
theorem d_S_turnShadows_13 : decode b_S_turnShadows 13 = .ok (.ifCond .le (63), 3) := by decide +kernel
theorem d_S_turnShadows_16 : decode b_S_turnShadows 16 = .ok (.aload_n 0, 1) := by decide +kernel
theorem d_S_turnShadows_17 : decode b_S_turnShadows 17 = .ok (.getfield 25, 3) := by decide +kernel
theorem d_S_turnShadows_20 : decode b_S_turnShadows 20 = .ok (.iload 4, 2) := by decide +kernel
theorem d_S_turnShadows_22 : decode b_S_turnShadows 22 = .ok (.aaload, 1) := by decide +kernel
theorem d_S_turnShadows_23 : decode b_S_turnShadows 23 = .ok (.getfield 149, 3) := by decide +kernel
theorem d_S_turnShadows_26 : decode b_S_turnShadows 26 = .ok (.ifCond .eq (44), 3) := by decide +kernel
theorem d_S_turnShadows_29 : decode b_S_turnShadows 29 = .ok (.aload_n 0, 1) := by decide +kernel
theorem d_S_turnShadows_30 : decode b_S_turnShadows 30 = .ok (.getfield 25, 3) := by decide +kernel
theorem d_S_turnShadows_33 : decode b_S_turnShadows 33 = .ok (.iload 4, 2) := by decide +kernel
theorem d_S_turnShadows_35 : decode b_S_turnShadows 35 = .ok (.aaload, 1) := by decide +kernel
theorem d_S_turnShadows_36 : decode b_S_turnShadows 36 = .ok (.getfield 212, 3) := by decide +kernel
theorem d_S_turnShadows_39 : decode b_S_turnShadows 39 = .ok (.iload_n 1, 1) := by decide +kernel
theorem d_S_turnShadows_40 : decode b_S_turnShadows 40 = .ok (.aaload, 1) := by decide +kernel
theorem d_S_turnShadows_41 : decode b_S_turnShadows 41 = .ok (.getfield 178, 3) := by decide +kernel
theorem d_S_turnShadows_44 : decode b_S_turnShadows 44 = .ok (.aload_n 0, 1) := by decide +kernel
theorem d_S_turnShadows_45 : decode b_S_turnShadows 45 = .ok (.getfield 31, 3) := by decide +kernel
theorem d_S_turnShadows_48 : decode b_S_turnShadows 48 = .ok (.iload_n 1, 1) := by decide +kernel
theorem d_S_turnShadows_49 : decode b_S_turnShadows 49 = .ok (.aaload, 1) := by decide +kernel
theorem d_S_turnShadows_50 : decode b_S_turnShadows 50 = .ok (.getfield 97, 3) := by decide +kernel
theorem d_S_turnShadows_53 : decode b_S_turnShadows 53 = .ok (.if_icmp .ne (17), 3) := by decide +kernel
theorem d_S_turnShadows_56 : decode b_S_turnShadows 56 = .ok (.aload_n 0, 1) := by decide +kernel
theorem d_S_turnShadows_57 : decode b_S_turnShadows 57 = .ok (.getfield 25, 3) := by decide +kernel
theorem d_S_turnShadows_60 : decode b_S_turnShadows 60 = .ok (.iload 4, 2) := by decide +kernel
theorem d_S_turnShadows_62 : decode b_S_turnShadows 62 = .ok (.aaload, 1) := by decide +kernel
theorem d_S_turnShadows_63 : decode b_S_turnShadows 63 = .ok (.iload_n 1, 1) := by decide +kernel
theorem d_S_turnShadows_64 : decode b_S_turnShadows 64 = .ok (.invokevirtual 225, 3) := by decide +kernel
theorem d_S_turnShadows_67 : decode b_S_turnShadows 67 = .ok (.iinc 3 (-1), 3) := by decide +kernel
theorem d_S_turnShadows_70 : decode b_S_turnShadows 70 = .ok (.iinc 4 (1), 3) := by decide +kernel
theorem d_S_turnShadows_73 : decode b_S_turnShadows 73 = .ok (.goto (-68), 3) := by decide +kernel
theorem d_S_turnShadows_76 : decode b_S_turnShadows 76 = .ok (.return_, 1) := by decide +kernel
theorem d_S_dropShadows_0 : decode b_S_dropShadows 0 = .ok (.iconst (0), 1) := by decide +kernel
theorem d_S_dropShadows_1 : decode b_S_dropShadows 1 = .ok (.istore_n 2, 1) := by decide +kernel
theorem d_S_dropShadows_2 : decode b_S_dropShadows 2 = .ok (.iload_n 2, 1) := by decide +kernel
theorem d_S_dropShadows_3 : decode b_S_dropShadows 3 = .ok (.bipush (12), 2) := by decide +kernel
theorem d_S_dropShadows_5 : decode b_S_dropShadows 5 = .ok (.if_icmp .ge (37), 3) := by decide +kernel
theorem d_S_dropShadows_8 : decode b_S_dropShadows 8 = .ok (.aload_n 0, 1) := by decide +kernel
theorem d_S_dropShadows_9 : decode b_S_dropShadows 9 = .ok (.getfield 25, 3) := by decide +kernel
theorem d_S_dropShadows_12 : decode b_S_dropShadows 12 = .ok (.iload_n 2, 1) := by decide +kernel
theorem d_S_dropShadows_13 : decode b_S_dropShadows 13 = .ok (.aaload, 1) := by decide +kernel
theorem d_S_dropShadows_14 : decode b_S_dropShadows 14 = .ok (.getfield 149, 3) := by decide +kernel
theorem d_S_dropShadows_17 : decode b_S_dropShadows 17 = .ok (.ifCond .eq (19), 3) := by decide +kernel
theorem d_S_dropShadows_20 : decode b_S_dropShadows 20 = .ok (.aload_n 0, 1) := by decide +kernel
theorem d_S_dropShadows_21 : decode b_S_dropShadows 21 = .ok (.getfield 25, 3) := by decide +kernel
theorem d_S_dropShadows_24 : decode b_S_dropShadows 24 = .ok (.iload_n 2, 1) := by decide +kernel
theorem d_S_dropShadows_25 : decode b_S_dropShadows 25 = .ok (.aaload, 1) := by decide +kernel
theorem d_S_dropShadows_26 : decode b_S_dropShadows 26 = .ok (.getfield 212, 3) := by decide +kernel
theorem d_S_dropShadows_29 : decode b_S_dropShadows 29 = .ok (.iload_n 1, 1) := by decide +kernel
theorem d_S_dropShadows_30 : decode b_S_dropShadows 30 = .ok (.aaload, 1) := by decide +kernel
theorem d_S_dropShadows_31 : decode b_S_dropShadows 31 = .ok (.iconst (0), 1) := by decide +kernel
theorem d_S_dropShadows_32 : decode b_S_dropShadows 32 = .ok (.iconst (0), 1) := by decide +kernel
theorem d_S_dropShadows_33 : decode b_S_dropShadows 33 = .ok (.invokevirtual 215, 3) := by decide +kernel
theorem d_S_dropShadows_36 : decode b_S_dropShadows 36 = .ok (.iinc 2 (1), 3) := by decide +kernel
theorem d_S_dropShadows_39 : decode b_S_dropShadows 39 = .ok (.goto (-37), 3) := by decide +kernel
theorem d_S_dropShadows_42 : decode b_S_dropShadows 42 = .ok (.return_, 1) := by decide +kernel
theorem d_S_someNodeHasShare_0 : decode b_S_someNodeHasShare 0 = .ok (.iconst (0), 1) := by decide +kernel
theorem d_S_someNodeHasShare_1 : decode b_S_someNodeHasShare 1 = .ok (.istore_n 3, 1) := by decide +kernel
theorem d_S_someNodeHasShare_2 : decode b_S_someNodeHasShare 2 = .ok (.iload_n 3, 1) := by decide +kernel
theorem d_S_someNodeHasShare_3 : decode b_S_someNodeHasShare 3 = .ok (.bipush (12), 2) := by decide +kernel
theorem d_S_someNodeHasShare_5 : decode b_S_someNodeHasShare 5 = .ok (.if_icmp .ge (29), 3) := by decide +kernel
theorem d_S_someNodeHasShare_8 : decode b_S_someNodeHasShare 8 = .ok (.aload_n 0, 1) := by decide +kernel
theorem d_S_someNodeHasShare_9 : decode b_S_someNodeHasShare 9 = .ok (.getfield 25, 3) := by decide +kernel
theorem d_S_someNodeHasShare_12 : decode b_S_someNodeHasShare 12 = .ok (.iload_n 3, 1) := by decide +kernel
theorem d_S_someNodeHasShare_13 : decode b_S_someNodeHasShare 13 = .ok (.aaload, 1) := by decide +kernel
theorem d_S_someNodeHasShare_14 : decode b_S_someNodeHasShare 14 = .ok (.getfield 174, 3) := by decide +kernel
theorem d_S_someNodeHasShare_17 : decode b_S_someNodeHasShare 17 = .ok (.iload_n 1, 1) := by decide +kernel
theorem d_S_someNodeHasShare_18 : decode b_S_someNodeHasShare 18 = .ok (.aaload, 1) := by decide +kernel
theorem d_S_someNodeHasShare_19 : decode b_S_someNodeHasShare 19 = .ok (.getfield 178, 3) := by decide +kernel
theorem d_S_someNodeHasShare_22 : decode b_S_someNodeHasShare 22 = .ok (.iload_n 2, 1) := by decide +kernel
theorem d_S_someNodeHasShare_23 : decode b_S_someNodeHasShare 23 = .ok (.if_icmp .ne (5), 3) := by decide +kernel
theorem d_S_someNodeHasShare_26 : decode b_S_someNodeHasShare 26 = .ok (.iconst (1), 1) := by decide +kernel
theorem d_S_someNodeHasShare_27 : decode b_S_someNodeHasShare 27 = .ok (.ireturn, 1) := by decide +kernel
theorem d_S_someNodeHasShare_28 : decode b_S_someNodeHasShare 28 = .ok (.iinc 3 (1), 3) := by decide +kernel
theorem d_S_someNodeHasShare_31 : decode b_S_someNodeHasShare 31 = .ok (.goto (-29), 3) := by decide +kernel
theorem d_S_someNodeHasShare_34 : decode b_S_someNodeHasShare 34 = .ok (.iconst (0), 1) := by decide +kernel
theorem d_S_someNodeHasShare_35 : decode b_S_someNodeHasShare 35 = .ok (.ireturn, 1) := by decide +kernel
theorem d_S_needsRebuild_0 : decode b_S_needsRebuild 0 = .ok (.aload_n 0, 1) := by decide +kernel
theorem d_S_needsRebuild_1 : decode b_S_needsRebuild 1 = .ok (.getfield 31, 3) := by decide +kernel
theorem d_S_needsRebuild_4 : decode b_S_needsRebuild 4 = .ok (.iload_n 2, 1) := by decide +kernel
theorem d_S_needsRebuild_5 : decode b_S_needsRebuild 5 = .ok (.aaload, 1) := by decide +kernel
theorem d_S_needsRebuild_6 : decode b_S_needsRebuild 6 = .ok (.getfield 100, 3) := by decide +kernel
theorem d_S_needsRebuild_9 : decode b_S_needsRebuild 9 = .ok (.ifCond .ne (16), 3) := by decide +kernel
theorem d_S_needsRebuild_12 : decode b_S_needsRebuild 12 = .ok (.aload_n 0, 1) := by decide +kernel
theorem d_S_needsRebuild_13 : decode b_S_needsRebuild 13 = .ok (.iload_n 1, 1) := by decide +kernel
theorem d_S_needsRebuild_14 : decode b_S_needsRebuild 14 = .ok (.iload_n 2, 1) := by decide +kernel
theorem d_S_needsRebuild_15 : decode b_S_needsRebuild 15 = .ok (.invokevirtual 203, 3) := by decide +kernel
theorem d_S_needsRebuild_18 : decode b_S_needsRebuild 18 = .ok (.ifCond .ne (7), 3) := by decide +kernel
theorem d_S_needsRebuild_21 : decode b_S_needsRebuild 21 = .ok (.iconst (1), 1) := by decide +kernel
theorem d_S_needsRebuild_22 : decode b_S_needsRebuild 22 = .ok (.goto (4), 3) := by decide +kernel
theorem d_S_needsRebuild_25 : decode b_S_needsRebuild 25 = .ok (.iconst (0), 1) := by decide +kernel
theorem d_S_needsRebuild_26 : decode b_S_needsRebuild 26 = .ok (.ireturn, 1) := by decide +kernel
theorem d_S_lacksHelpers_0 : decode b_S_lacksHelpers 0 = .ok (.aload_n 0, 1) := by decide +kernel
theorem d_S_lacksHelpers_1 : decode b_S_lacksHelpers 1 = .ok (.getfield 31, 3) := by decide +kernel
theorem d_S_lacksHelpers_4 : decode b_S_lacksHelpers 4 = .ok (.iload_n 1, 1) := by decide +kernel
theorem d_S_lacksHelpers_5 : decode b_S_lacksHelpers 5 = .ok (.aaload, 1) := by decide +kernel
theorem d_S_lacksHelpers_6 : decode b_S_lacksHelpers 6 = .ok (.getfield 117, 3) := by decide +kernel
theorem d_S_lacksHelpers_9 : decode b_S_lacksHelpers 9 = .ok (.ifCond .le (21), 3) := by decide +kernel
theorem d_S_lacksHelpers_12 : decode b_S_lacksHelpers 12 = .ok (.aload_n 0, 1) := by decide +kernel
theorem d_S_lacksHelpers_13 : decode b_S_lacksHelpers 13 = .ok (.iload_n 1, 1) := by decide +kernel
theorem d_S_lacksHelpers_14 : decode b_S_lacksHelpers 14 = .ok (.iload_n 2, 1) := by decide +kernel
theorem d_S_lacksHelpers_15 : decode b_S_lacksHelpers 15 = .ok (.invokevirtual 123, 3) := by decide +kernel
theorem d_S_lacksHelpers_18 : decode b_S_lacksHelpers 18 = .ok (.invokestatic 127, 3) := by decide +kernel
theorem d_S_lacksHelpers_21 : decode b_S_lacksHelpers 21 = .ok (.bipush (8), 2) := by decide +kernel
theorem d_S_lacksHelpers_23 : decode b_S_lacksHelpers 23 = .ok (.if_icmp .ge (7), 3) := by decide +kernel
theorem d_S_lacksHelpers_26 : decode b_S_lacksHelpers 26 = .ok (.iconst (1), 1) := by decide +kernel
theorem d_S_lacksHelpers_27 : decode b_S_lacksHelpers 27 = .ok (.goto (4), 3) := by decide +kernel
theorem d_S_lacksHelpers_30 : decode b_S_lacksHelpers 30 = .ok (.iconst (0), 1) := by decide +kernel
theorem d_S_lacksHelpers_31 : decode b_S_lacksHelpers 31 = .ok (.ireturn, 1) := by decide +kernel
theorem d_S_rebuildShare_0 : decode b_S_rebuildShare 0 = .ok (.aload_n 0, 1) := by decide +kernel
theorem d_S_rebuildShare_1 : decode b_S_rebuildShare 1 = .ok (.getfield 31, 3) := by decide +kernel
theorem d_S_rebuildShare_4 : decode b_S_rebuildShare 4 = .ok (.iload_n 2, 1) := by decide +kernel
theorem d_S_rebuildShare_5 : decode b_S_rebuildShare 5 = .ok (.aaload, 1) := by decide +kernel
theorem d_S_rebuildShare_6 : decode b_S_rebuildShare 6 = .ok (.astore 4, 2) := by decide +kernel
theorem d_S_rebuildShare_8 : decode b_S_rebuildShare 8 = .ok (.aload_n 1, 1) := by decide +kernel
theorem d_S_rebuildShare_9 : decode b_S_rebuildShare 9 = .ok (.getfield 174, 3) := by decide +kernel
theorem d_S_rebuildShare_12 : decode b_S_rebuildShare 12 = .ok (.iload_n 2, 1) := by decide +kernel
theorem d_S_rebuildShare_13 : decode b_S_rebuildShare 13 = .ok (.aaload, 1) := by decide +kernel
theorem d_S_rebuildShare_14 : decode b_S_rebuildShare 14 = .ok (.astore 5, 2) := by decide +kernel
theorem d_S_rebuildShare_16 : decode b_S_rebuildShare 16 = .ok (.aload 4, 2) := by decide +kernel
theorem d_S_rebuildShare_18 : decode b_S_rebuildShare 18 = .ok (.getfield 117, 3) := by decide +kernel
theorem d_S_rebuildShare_21 : decode b_S_rebuildShare 21 = .ok (.invokestatic 184, 3) := by decide +kernel
theorem d_S_rebuildShare_24 : decode b_S_rebuildShare 24 = .ok (.istore 6, 2) := by decide +kernel
theorem d_S_rebuildShare_26 : decode b_S_rebuildShare 26 = .ok (.iload 6, 2) := by decide +kernel
theorem d_S_rebuildShare_28 : decode b_S_rebuildShare 28 = .ok (.ifCond .le (13), 3) := by decide +kernel
theorem d_S_rebuildShare_31 : decode b_S_rebuildShare 31 = .ok (.aload_n 0, 1) := by decide +kernel
theorem d_S_rebuildShare_32 : decode b_S_rebuildShare 32 = .ok (.aload_n 0, 1) := by decide +kernel
theorem d_S_rebuildShare_33 : decode b_S_rebuildShare 33 = .ok (.iload_n 2, 1) := by decide +kernel
theorem d_S_rebuildShare_34 : decode b_S_rebuildShare 34 = .ok (.iload_n 3, 1) := by decide +kernel
theorem d_S_rebuildShare_35 : decode b_S_rebuildShare 35 = .ok (.invokevirtual 123, 3) := by decide +kernel
theorem d_S_rebuildShare_38 : decode b_S_rebuildShare 38 = .ok (.invokevirtual 228, 3) := by decide +kernel
theorem d_S_rebuildShare_41 : decode b_S_rebuildShare 41 = .ok (.aload 5, 2) := by decide +kernel
theorem d_S_rebuildShare_43 : decode b_S_rebuildShare 43 = .ok (.aload 4, 2) := by decide +kernel
theorem d_S_rebuildShare_45 : decode b_S_rebuildShare 45 = .ok (.getfield 143, 3) := by decide +kernel
theorem d_S_rebuildShare_48 : decode b_S_rebuildShare 48 = .ok (.aload 4, 2) := by decide +kernel
theorem d_S_rebuildShare_50 : decode b_S_rebuildShare 50 = .ok (.getfield 117, 3) := by decide +kernel
theorem d_S_rebuildShare_53 : decode b_S_rebuildShare 53 = .ok (.invokevirtual 215, 3) := by decide +kernel
theorem d_S_rebuildShare_56 : decode b_S_rebuildShare 56 = .ok (.iconst (0), 1) := by decide +kernel
theorem d_S_rebuildShare_57 : decode b_S_rebuildShare 57 = .ok (.istore 7, 2) := by decide +kernel
theorem d_S_rebuildShare_59 : decode b_S_rebuildShare 59 = .ok (.iload 7, 2) := by decide +kernel
theorem d_S_rebuildShare_61 : decode b_S_rebuildShare 61 = .ok (.iload 6, 2) := by decide +kernel
theorem d_S_rebuildShare_63 : decode b_S_rebuildShare 63 = .ok (.if_icmp .ge (63), 3) := by decide +kernel
theorem d_S_rebuildShare_66 : decode b_S_rebuildShare 66 = .ok (.aload_n 0, 1) := by decide +kernel
theorem d_S_rebuildShare_67 : decode b_S_rebuildShare 67 = .ok (.aload_n 1, 1) := by decide +kernel
theorem d_S_rebuildShare_68 : decode b_S_rebuildShare 68 = .ok (.getfield 218, 3) := by decide +kernel
theorem d_S_rebuildShare_71 : decode b_S_rebuildShare 71 = .ok (.iload_n 2, 1) := by decide +kernel
theorem d_S_rebuildShare_72 : decode b_S_rebuildShare 72 = .ok (.bipush (8), 2) := by decide +kernel
theorem d_S_rebuildShare_74 : decode b_S_rebuildShare 74 = .ok (.iload 7, 2) := by decide +kernel
theorem d_S_rebuildShare_76 : decode b_S_rebuildShare 76 = .ok (.imul, 1) := by decide +kernel
theorem d_S_rebuildShare_77 : decode b_S_rebuildShare 77 = .ok (.invokevirtual 231, 3) := by decide +kernel
theorem d_S_rebuildShare_80 : decode b_S_rebuildShare 80 = .ok (.aload_n 0, 1) := by decide +kernel
theorem d_S_rebuildShare_81 : decode b_S_rebuildShare 81 = .ok (.getfield 12, 3) := by decide +kernel
theorem d_S_rebuildShare_84 : decode b_S_rebuildShare 84 = .ok (.aload_n 0, 1) := by decide +kernel
theorem d_S_rebuildShare_85 : decode b_S_rebuildShare 85 = .ok (.getfield 38, 3) := by decide +kernel
theorem d_S_rebuildShare_88 : decode b_S_rebuildShare 88 = .ok (.getfield 235, 3) := by decide +kernel
theorem d_S_rebuildShare_91 : decode b_S_rebuildShare 91 = .ok (.aload_n 0, 1) := by decide +kernel
theorem d_S_rebuildShare_92 : decode b_S_rebuildShare 92 = .ok (.getfield 42, 3) := by decide +kernel
theorem d_S_rebuildShare_95 : decode b_S_rebuildShare 95 = .ok (.bipush (8), 2) := by decide +kernel
theorem d_S_rebuildShare_97 : decode b_S_rebuildShare 97 = .ok (.invokevirtual 238, 3) := by decide +kernel
theorem d_S_rebuildShare_100 : decode b_S_rebuildShare 100 = .ok (.aload_n 0, 1) := by decide +kernel
theorem d_S_rebuildShare_101 : decode b_S_rebuildShare 101 = .ok (.getfield 42, 3) := by decide +kernel
theorem d_S_rebuildShare_104 : decode b_S_rebuildShare 104 = .ok (.iconst (0), 1) := by decide +kernel
theorem d_S_rebuildShare_105 : decode b_S_rebuildShare 105 = .ok (.aload 5, 2) := by decide +kernel
theorem d_S_rebuildShare_107 : decode b_S_rebuildShare 107 = .ok (.getfield 187, 3) := by decide +kernel
theorem d_S_rebuildShare_110 : decode b_S_rebuildShare 110 = .ok (.bipush (8), 2) := by decide +kernel
theorem d_S_rebuildShare_112 : decode b_S_rebuildShare 112 = .ok (.iload 7, 2) := by decide +kernel
theorem d_S_rebuildShare_114 : decode b_S_rebuildShare 114 = .ok (.imul, 1) := by decide +kernel
theorem d_S_rebuildShare_115 : decode b_S_rebuildShare 115 = .ok (.bipush (8), 2) := by decide +kernel
theorem d_S_rebuildShare_117 : decode b_S_rebuildShare 117 = .ok (.invokestatic 242, 3) := by decide +kernel
theorem d_S_rebuildShare_120 : decode b_S_rebuildShare 120 = .ok (.iinc 7 (1), 3) := by decide +kernel
theorem d_S_rebuildShare_123 : decode b_S_rebuildShare 123 = .ok (.goto (-64), 3) := by decide +kernel
theorem d_S_rebuildShare_126 : decode b_S_rebuildShare 126 = .ok (.bipush (8), 2) := by decide +kernel
theorem d_S_rebuildShare_128 : decode b_S_rebuildShare 128 = .ok (.iload 6, 2) := by decide +kernel
theorem d_S_rebuildShare_130 : decode b_S_rebuildShare 130 = .ok (.imul, 1) := by decide +kernel
theorem d_S_rebuildShare_131 : decode b_S_rebuildShare 131 = .ok (.ireturn, 1) := by decide +kernel
theorem d_S_askHelpers_0 : decode b_S_askHelpers 0 = .ok (.iconst (0), 1) := by decide +kernel
theorem d_S_askHelpers_1 : decode b_S_askHelpers 1 = .ok (.istore 4, 2) := by decide +kernel
theorem d_S_askHelpers_3 : decode b_S_askHelpers 3 = .ok (.iload 4, 2) := by decide +kernel
theorem d_S_askHelpers_5 : decode b_S_askHelpers 5 = .ok (.bipush (8), 2) := by decide +kernel
theorem d_S_askHelpers_7 : decode b_S_askHelpers 7 = .ok (.if_icmp .ge (63), 3) := by decide +kernel
theorem d_S_askHelpers_10 : decode b_S_askHelpers 10 = .ok (.aload_n 0, 1) := by decide +kernel
theorem d_S_askHelpers_11 : decode b_S_askHelpers 11 = .ok (.getfield 25, 3) := by decide +kernel
theorem d_S_askHelpers_14 : decode b_S_askHelpers 14 = .ok (.aload_n 0, 1) := by decide +kernel
theorem d_S_askHelpers_15 : decode b_S_askHelpers 15 = .ok (.getfield 38, 3) := by decide +kernel
theorem d_S_askHelpers_18 : decode b_S_askHelpers 18 = .ok (.getfield 248, 3) := by decide +kernel
theorem d_S_askHelpers_21 : decode b_S_askHelpers 21 = .ok (.iload 4, 2) := by decide +kernel
theorem d_S_askHelpers_23 : decode b_S_askHelpers 23 = .ok (.iaload, 1) := by decide +kernel
theorem d_S_askHelpers_24 : decode b_S_askHelpers 24 = .ok (.aaload, 1) := by decide +kernel
theorem d_S_askHelpers_25 : decode b_S_askHelpers 25 = .ok (.astore 5, 2) := by decide +kernel
theorem d_S_askHelpers_27 : decode b_S_askHelpers 27 = .ok (.aload_n 0, 1) := by decide +kernel
theorem d_S_askHelpers_28 : decode b_S_askHelpers 28 = .ok (.getfield 42, 3) := by decide +kernel
theorem d_S_askHelpers_31 : decode b_S_askHelpers 31 = .ok (.iload 4, 2) := by decide +kernel
theorem d_S_askHelpers_33 : decode b_S_askHelpers 33 = .ok (.aload_n 0, 1) := by decide +kernel
theorem d_S_askHelpers_34 : decode b_S_askHelpers 34 = .ok (.getfield 12, 3) := by decide +kernel
theorem d_S_askHelpers_37 : decode b_S_askHelpers 37 = .ok (.iload_n 1, 1) := by decide +kernel
theorem d_S_askHelpers_38 : decode b_S_askHelpers 38 = .ok (.aload 5, 2) := by decide +kernel
theorem d_S_askHelpers_40 : decode b_S_askHelpers 40 = .ok (.getfield 174, 3) := by decide +kernel
theorem d_S_askHelpers_43 : decode b_S_askHelpers 43 = .ok (.iload_n 2, 1) := by decide +kernel
theorem d_S_askHelpers_44 : decode b_S_askHelpers 44 = .ok (.aaload, 1) := by decide +kernel
theorem d_S_askHelpers_45 : decode b_S_askHelpers 45 = .ok (.getfield 187, 3) := by decide +kernel
theorem d_S_askHelpers_48 : decode b_S_askHelpers 48 = .ok (.iload_n 3, 1) := by decide +kernel
theorem d_S_askHelpers_49 : decode b_S_askHelpers 49 = .ok (.invokevirtual 251, 3) := by decide +kernel
theorem d_S_askHelpers_52 : decode b_S_askHelpers 52 = .ok (.iastore, 1) := by decide +kernel
theorem d_S_askHelpers_53 : decode b_S_askHelpers 53 = .ok (.aload 5, 2) := by decide +kernel
theorem d_S_askHelpers_55 : decode b_S_askHelpers 55 = .ok (.dup, 1) := by decide +kernel
theorem d_S_askHelpers_56 : decode b_S_askHelpers 56 = .ok (.getfield 165, 3) := by decide +kernel
theorem d_S_askHelpers_59 : decode b_S_askHelpers 59 = .ok (.iconst (1), 1) := by decide +kernel
theorem d_S_askHelpers_60 : decode b_S_askHelpers 60 = .ok (.iadd, 1) := by decide +kernel
theorem d_S_askHelpers_61 : decode b_S_askHelpers 61 = .ok (.putfield 165, 3) := by decide +kernel
theorem d_S_askHelpers_64 : decode b_S_askHelpers 64 = .ok (.iinc 4 (1), 3) := by decide +kernel
theorem d_S_askHelpers_67 : decode b_S_askHelpers 67 = .ok (.goto (-64), 3) := by decide +kernel
theorem d_S_askHelpers_70 : decode b_S_askHelpers 70 = .ok (.return_, 1) := by decide +kernel
theorem d_S_chooseLowest_0 : decode b_S_chooseLowest 0 = .ok (.aload_n 0, 1) := by decide +kernel
theorem d_S_chooseLowest_1 : decode b_S_chooseLowest 1 = .ok (.getfield 38, 3) := by decide +kernel
theorem d_S_chooseLowest_4 : decode b_S_chooseLowest 4 = .ok (.invokevirtual 255, 3) := by decide +kernel
theorem d_S_chooseLowest_7 : decode b_S_chooseLowest 7 = .ok (.iconst (0), 1) := by decide +kernel
theorem d_S_chooseLowest_8 : decode b_S_chooseLowest 8 = .ok (.istore_n 2, 1) := by decide +kernel
theorem d_S_chooseLowest_9 : decode b_S_chooseLowest 9 = .ok (.iload_n 2, 1) := by decide +kernel
theorem d_S_chooseLowest_10 : decode b_S_chooseLowest 10 = .ok (.bipush (12), 2) := by decide +kernel
theorem d_S_chooseLowest_12 : decode b_S_chooseLowest 12 = .ok (.if_icmp .ge (37), 3) := by decide +kernel
theorem d_S_chooseLowest_15 : decode b_S_chooseLowest 15 = .ok (.aload_n 0, 1) := by decide +kernel
theorem d_S_chooseLowest_16 : decode b_S_chooseLowest 16 = .ok (.getfield 38, 3) := by decide +kernel
theorem d_S_chooseLowest_19 : decode b_S_chooseLowest 19 = .ok (.getfield 258, 3) := by decide +kernel
theorem d_S_chooseLowest_22 : decode b_S_chooseLowest 22 = .ok (.iconst (5), 1) := by decide +kernel
theorem d_S_chooseLowest_23 : decode b_S_chooseLowest 23 = .ok (.if_icmp .ge (26), 3) := by decide +kernel
theorem d_S_chooseLowest_26 : decode b_S_chooseLowest 26 = .ok (.iload_n 1, 1) := by decide +kernel
theorem d_S_chooseLowest_27 : decode b_S_chooseLowest 27 = .ok (.iload_n 2, 1) := by decide +kernel
theorem d_S_chooseLowest_28 : decode b_S_chooseLowest 28 = .ok (.ishr, 1) := by decide +kernel
theorem d_S_chooseLowest_29 : decode b_S_chooseLowest 29 = .ok (.iconst (1), 1) := by decide +kernel
theorem d_S_chooseLowest_30 : decode b_S_chooseLowest 30 = .ok (.iand, 1) := by decide +kernel
theorem d_S_chooseLowest_31 : decode b_S_chooseLowest 31 = .ok (.iconst (1), 1) := by decide +kernel
theorem d_S_chooseLowest_32 : decode b_S_chooseLowest 32 = .ok (.if_icmp .ne (11), 3) := by decide +kernel
theorem d_S_chooseLowest_35 : decode b_S_chooseLowest 35 = .ok (.aload_n 0, 1) := by decide +kernel
theorem d_S_chooseLowest_36 : decode b_S_chooseLowest 36 = .ok (.getfield 38, 3) := by decide +kernel
theorem d_S_chooseLowest_39 : decode b_S_chooseLowest 39 = .ok (.iload_n 2, 1) := by decide +kernel
theorem d_S_chooseLowest_40 : decode b_S_chooseLowest 40 = .ok (.invokevirtual 261, 3) := by decide +kernel
theorem d_S_chooseLowest_43 : decode b_S_chooseLowest 43 = .ok (.iinc 2 (1), 3) := by decide +kernel
theorem d_S_chooseLowest_46 : decode b_S_chooseLowest 46 = .ok (.goto (-37), 3) := by decide +kernel
theorem d_S_chooseLowest_49 : decode b_S_chooseLowest 49 = .ok (.return_, 1) := by decide +kernel
theorem d_S_chooseLeastSent_0 : decode b_S_chooseLeastSent 0 = .ok (.aload_n 0, 1) := by decide +kernel
theorem d_S_chooseLeastSent_1 : decode b_S_chooseLeastSent 1 = .ok (.getfield 38, 3) := by decide +kernel
theorem d_S_chooseLeastSent_4 : decode b_S_chooseLeastSent 4 = .ok (.invokevirtual 255, 3) := by decide +kernel
theorem d_S_chooseLeastSent_7 : decode b_S_chooseLeastSent 7 = .ok (.iload_n 1, 1) := by decide +kernel
theorem d_S_chooseLeastSent_8 : decode b_S_chooseLeastSent 8 = .ok (.istore_n 2, 1) := by decide +kernel
theorem d_S_chooseLeastSent_9 : decode b_S_chooseLeastSent 9 = .ok (.iconst (0), 1) := by decide +kernel
theorem d_S_chooseLeastSent_10 : decode b_S_chooseLeastSent 10 = .ok (.istore_n 3, 1) := by decide +kernel
theorem d_S_chooseLeastSent_11 : decode b_S_chooseLeastSent 11 = .ok (.iload_n 3, 1) := by decide +kernel
theorem d_S_chooseLeastSent_12 : decode b_S_chooseLeastSent 12 = .ok (.bipush (8), 2) := by decide +kernel
theorem d_S_chooseLeastSent_14 : decode b_S_chooseLeastSent 14 = .ok (.if_icmp .ge (44), 3) := by decide +kernel
theorem d_S_chooseLeastSent_17 : decode b_S_chooseLeastSent 17 = .ok (.iload_n 2, 1) := by decide +kernel
theorem d_S_chooseLeastSent_18 : decode b_S_chooseLeastSent 18 = .ok (.ifCond .eq (40), 3) := by decide +kernel
theorem d_S_chooseLeastSent_21 : decode b_S_chooseLeastSent 21 = .ok (.aload_n 0, 1) := by decide +kernel
theorem d_S_chooseLeastSent_22 : decode b_S_chooseLeastSent 22 = .ok (.iload_n 2, 1) := by decide +kernel
theorem d_S_chooseLeastSent_23 : decode b_S_chooseLeastSent 23 = .ok (.invokevirtual 264, 3) := by decide +kernel
theorem d_S_chooseLeastSent_26 : decode b_S_chooseLeastSent 26 = .ok (.istore 4, 2) := by decide +kernel
theorem d_S_chooseLeastSent_28 : decode b_S_chooseLeastSent 28 = .ok (.iload 4, 2) := by decide +kernel
theorem d_S_chooseLeastSent_30 : decode b_S_chooseLeastSent 30 = .ok (.iconst (-1), 1) := by decide +kernel
theorem d_S_chooseLeastSent_31 : decode b_S_chooseLeastSent 31 = .ok (.if_icmp .eq (21), 3) := by decide +kernel
theorem d_S_chooseLeastSent_34 : decode b_S_chooseLeastSent 34 = .ok (.aload_n 0, 1) := by decide +kernel
theorem d_S_chooseLeastSent_35 : decode b_S_chooseLeastSent 35 = .ok (.getfield 38, 3) := by decide +kernel
theorem d_S_chooseLeastSent_38 : decode b_S_chooseLeastSent 38 = .ok (.iload 4, 2) := by decide +kernel
theorem d_S_chooseLeastSent_40 : decode b_S_chooseLeastSent 40 = .ok (.invokevirtual 261, 3) := by decide +kernel
theorem d_S_chooseLeastSent_43 : decode b_S_chooseLeastSent 43 = .ok (.iload_n 2, 1) := by decide +kernel
theorem d_S_chooseLeastSent_44 : decode b_S_chooseLeastSent 44 = .ok (.iconst (1), 1) := by decide +kernel
theorem d_S_chooseLeastSent_45 : decode b_S_chooseLeastSent 45 = .ok (.iload 4, 2) := by decide +kernel
theorem d_S_chooseLeastSent_47 : decode b_S_chooseLeastSent 47 = .ok (.ishl, 1) := by decide +kernel
theorem d_S_chooseLeastSent_48 : decode b_S_chooseLeastSent 48 = .ok (.iconst (-1), 1) := by decide +kernel
theorem d_S_chooseLeastSent_49 : decode b_S_chooseLeastSent 49 = .ok (.ixor, 1) := by decide +kernel
theorem d_S_chooseLeastSent_50 : decode b_S_chooseLeastSent 50 = .ok (.iand, 1) := by decide +kernel
theorem d_S_chooseLeastSent_51 : decode b_S_chooseLeastSent 51 = .ok (.istore_n 2, 1) := by decide +kernel
theorem d_S_chooseLeastSent_52 : decode b_S_chooseLeastSent 52 = .ok (.iinc 3 (1), 3) := by decide +kernel
theorem d_S_chooseLeastSent_55 : decode b_S_chooseLeastSent 55 = .ok (.goto (-44), 3) := by decide +kernel
theorem d_S_chooseLeastSent_58 : decode b_S_chooseLeastSent 58 = .ok (.return_, 1) := by decide +kernel
theorem d_S_leastSent_0 : decode b_S_leastSent 0 = .ok (.iconst (-1), 1) := by decide +kernel
theorem d_S_leastSent_1 : decode b_S_leastSent 1 = .ok (.istore_n 2, 1) := by decide +kernel
theorem d_S_leastSent_2 : decode b_S_leastSent 2 = .ok (.iconst (0), 1) := by decide +kernel
theorem d_S_leastSent_3 : decode b_S_leastSent 3 = .ok (.istore_n 3, 1) := by decide +kernel
theorem d_S_leastSent_4 : decode b_S_leastSent 4 = .ok (.iload_n 3, 1) := by decide +kernel
theorem d_S_leastSent_5 : decode b_S_leastSent 5 = .ok (.bipush (12), 2) := by decide +kernel
theorem d_S_leastSent_7 : decode b_S_leastSent 7 = .ok (.if_icmp .ge (58), 3) := by decide +kernel
theorem d_S_leastSent_10 : decode b_S_leastSent 10 = .ok (.iload_n 1, 1) := by decide +kernel
theorem d_S_leastSent_11 : decode b_S_leastSent 11 = .ok (.iload_n 3, 1) := by decide +kernel
theorem d_S_leastSent_12 : decode b_S_leastSent 12 = .ok (.ishr, 1) := by decide +kernel
theorem d_S_leastSent_13 : decode b_S_leastSent 13 = .ok (.iconst (1), 1) := by decide +kernel
theorem d_S_leastSent_14 : decode b_S_leastSent 14 = .ok (.iand, 1) := by decide +kernel
theorem d_S_leastSent_15 : decode b_S_leastSent 15 = .ok (.iconst (1), 1) := by decide +kernel
theorem d_S_leastSent_16 : decode b_S_leastSent 16 = .ok (.if_icmp .ne (7), 3) := by decide +kernel
theorem d_S_leastSent_19 : decode b_S_leastSent 19 = .ok (.iconst (1), 1) := by decide +kernel
theorem d_S_leastSent_20 : decode b_S_leastSent 20 = .ok (.goto (4), 3) := by decide +kernel
theorem d_S_leastSent_23 : decode b_S_leastSent 23 = .ok (.iconst (0), 1) := by decide +kernel
theorem d_S_leastSent_24 : decode b_S_leastSent 24 = .ok (.istore 4, 2) := by decide +kernel
theorem d_S_leastSent_26 : decode b_S_leastSent 26 = .ok (.iload 4, 2) := by decide +kernel
theorem d_S_leastSent_28 : decode b_S_leastSent 28 = .ok (.ifCond .eq (31), 3) := by decide +kernel
theorem d_S_leastSent_31 : decode b_S_leastSent 31 = .ok (.iload_n 2, 1) := by decide +kernel
theorem d_S_leastSent_32 : decode b_S_leastSent 32 = .ok (.iconst (-1), 1) := by decide +kernel
theorem d_S_leastSent_33 : decode b_S_leastSent 33 = .ok (.if_icmp .eq (24), 3) := by decide +kernel
theorem d_S_leastSent_36 : decode b_S_leastSent 36 = .ok (.aload_n 0, 1) := by decide +kernel
theorem d_S_leastSent_37 : decode b_S_leastSent 37 = .ok (.getfield 25, 3) := by decide +kernel
theorem d_S_leastSent_40 : decode b_S_leastSent 40 = .ok (.iload_n 3, 1) := by decide +kernel
theorem d_S_leastSent_41 : decode b_S_leastSent 41 = .ok (.aaload, 1) := by decide +kernel
theorem d_S_leastSent_42 : decode b_S_leastSent 42 = .ok (.getfield 165, 3) := by decide +kernel
theorem d_S_leastSent_45 : decode b_S_leastSent 45 = .ok (.aload_n 0, 1) := by decide +kernel
theorem d_S_leastSent_46 : decode b_S_leastSent 46 = .ok (.getfield 25, 3) := by decide +kernel
theorem d_S_leastSent_49 : decode b_S_leastSent 49 = .ok (.iload_n 2, 1) := by decide +kernel
theorem d_S_leastSent_50 : decode b_S_leastSent 50 = .ok (.aaload, 1) := by decide +kernel
theorem d_S_leastSent_51 : decode b_S_leastSent 51 = .ok (.getfield 165, 3) := by decide +kernel
theorem d_S_leastSent_54 : decode b_S_leastSent 54 = .ok (.if_icmp .ge (5), 3) := by decide +kernel
theorem d_S_leastSent_57 : decode b_S_leastSent 57 = .ok (.iload_n 3, 1) := by decide +kernel
theorem d_S_leastSent_58 : decode b_S_leastSent 58 = .ok (.istore_n 2, 1) := by decide +kernel
theorem d_S_leastSent_59 : decode b_S_leastSent 59 = .ok (.iinc 3 (1), 3) := by decide +kernel
theorem d_S_leastSent_62 : decode b_S_leastSent 62 = .ok (.goto (-58), 3) := by decide +kernel
theorem d_S_leastSent_65 : decode b_S_leastSent 65 = .ok (.iload_n 2, 1) := by decide +kernel
theorem d_S_leastSent_66 : decode b_S_leastSent 66 = .ok (.ireturn, 1) := by decide +kernel
theorem cw_S_63 : sm_cw RX6 63 y_S_checkIndex b_S_checkIndex 2 none 2 := ⟨sm_inT 198 (by decide +kernel) (by decide +kernel), sm_inT 1 (by decide +kernel) (by decide +kernel), sm_inT 196 (by decide +kernel) (by decide +kernel), ⟨by decide, by decide, by decide +kernel⟩, by decide⟩
theorem sw_S_checkIndex : Cond.static y_S_checkIndex ∈ sm_ws := sm_inT 197 (by decide +kernel) (by decide +kernel)
theorem fw_S_46 : sm_fw RX6 46 6 6 := ⟨_, _, _, rfl, in_X6, by decide, sm_inT 163 (by decide +kernel) (by decide +kernel)⟩
theorem cw_S_70 : sm_cw RX6 70 y_S_checkNotStopped b_S_checkNotStopped 2 none 1 := ⟨sm_inT 292 (by decide +kernel) (by decide +kernel), sm_inT 1 (by decide +kernel) (by decide +kernel), sm_inT 289 (by decide +kernel) (by decide +kernel), ⟨by decide, by decide, by decide +kernel⟩, by decide⟩
theorem iw_S_checkNotStopped : Cond.instanceMethod y_S_checkNotStopped ∈ sm_ws := sm_inT 291 (by decide +kernel) (by decide +kernel)
theorem se_S_checkNotStopped : Cond.selects RX6 y_S_checkNotStopped y_S_checkNotStopped ∈ sm_ws := sm_inS 1 (by decide +kernel) (by decide +kernel)
theorem cw_S_73 : sm_cw RX6 73 y_S_countLive b_S_countLive 3 (some .int) 0 := ⟨sm_inT 311 (by decide +kernel) (by decide +kernel), sm_inT 1 (by decide +kernel) (by decide +kernel), sm_inT 308 (by decide +kernel) (by decide +kernel), ⟨by decide, by decide, by decide +kernel⟩, by decide⟩
theorem iw_S_countLive : Cond.instanceMethod y_S_countLive ∈ sm_ws := sm_inT 310 (by decide +kernel) (by decide +kernel)
theorem se_S_countLive : Cond.selects RX6 y_S_countLive y_S_countLive ∈ sm_ws := sm_inS 2 (by decide +kernel) (by decide +kernel)
theorem fw_S_31 : sm_fw RX6 31 6 3 := ⟨_, _, _, rfl, in_X6, by decide, sm_inT 160 (by decide +kernel) (by decide +kernel)⟩
theorem cw_S_80 : sm_cw RX6 80 y_I_begin b_I_begin 2 none 1 := ⟨sm_inT 330 (by decide +kernel) (by decide +kernel), sm_inT 7 (by decide +kernel) (by decide +kernel), sm_inT 327 (by decide +kernel) (by decide +kernel), ⟨by decide, by decide, by decide +kernel⟩, by decide⟩
theorem iw_I_begin : Cond.instanceMethod y_I_begin ∈ sm_ws := sm_inT 328 (by decide +kernel) (by decide +kernel)
theorem se_I_begin : Cond.selects RX1 y_I_begin y_I_begin ∈ sm_ws := sm_inT 329 (by decide +kernel) (by decide +kernel)
theorem cw_S_83 : sm_cw RX6 83 y_S_takeMessages b_S_takeMessages 3 (some .int) 1 := ⟨sm_inT 334 (by decide +kernel) (by decide +kernel), sm_inT 1 (by decide +kernel) (by decide +kernel), sm_inT 331 (by decide +kernel) (by decide +kernel), ⟨by decide, by decide, by decide +kernel⟩, by decide⟩
theorem iw_S_takeMessages : Cond.instanceMethod y_S_takeMessages ∈ sm_ws := sm_inT 333 (by decide +kernel) (by decide +kernel)
theorem se_S_takeMessages : Cond.selects RX6 y_S_takeMessages y_S_takeMessages ∈ sm_ws := sm_inS 3 (by decide +kernel) (by decide +kernel)
theorem cw_S_87 : sm_cw RX6 87 y_S_sendShadows b_S_sendShadows 7 none 2 := ⟨sm_inT 338 (by decide +kernel) (by decide +kernel), sm_inT 1 (by decide +kernel) (by decide +kernel), sm_inT 335 (by decide +kernel) (by decide +kernel), ⟨by decide, by decide, by decide +kernel⟩, by decide⟩
theorem iw_S_sendShadows : Cond.instanceMethod y_S_sendShadows ∈ sm_ws := sm_inT 337 (by decide +kernel) (by decide +kernel)
theorem se_S_sendShadows : Cond.selects RX6 y_S_sendShadows y_S_sendShadows ∈ sm_ws := sm_inS 4 (by decide +kernel) (by decide +kernel)
theorem cw_S_90 : sm_cw RX6 90 y_S_turnShadows b_S_turnShadows 5 none 2 := ⟨sm_inT 369 (by decide +kernel) (by decide +kernel), sm_inT 1 (by decide +kernel) (by decide +kernel), sm_inT 366 (by decide +kernel) (by decide +kernel), ⟨by decide, by decide, by decide +kernel⟩, by decide⟩
theorem iw_S_turnShadows : Cond.instanceMethod y_S_turnShadows ∈ sm_ws := sm_inT 368 (by decide +kernel) (by decide +kernel)
theorem se_S_turnShadows : Cond.selects RX6 y_S_turnShadows y_S_turnShadows ∈ sm_ws := sm_inS 5 (by decide +kernel) (by decide +kernel)
theorem cw_S_93 : sm_cw RX6 93 y_I_finish b_I_finish 2 none 1 := ⟨sm_inT 378 (by decide +kernel) (by decide +kernel), sm_inT 7 (by decide +kernel) (by decide +kernel), sm_inT 375 (by decide +kernel) (by decide +kernel), ⟨by decide, by decide, by decide +kernel⟩, by decide⟩
theorem iw_I_finish : Cond.instanceMethod y_I_finish ∈ sm_ws := sm_inT 376 (by decide +kernel) (by decide +kernel)
theorem se_I_finish : Cond.selects RX1 y_I_finish y_I_finish ∈ sm_ws := sm_inT 377 (by decide +kernel) (by decide +kernel)
theorem fw_S_97 : sm_fw RX6 97 1 2 := ⟨_, _, _, rfl, in_X1, by decide, sm_inT 141 (by decide +kernel) (by decide +kernel)⟩
theorem pw_S_56 : sm_pw RX6 56 6 9 .int := ⟨_, _, _, tyX6, rfl, in_X6, by decide, sm_inT 166 (by decide +kernel) (by decide +kernel), tyX6_ok, nmX6, rfl, by decide +kernel⟩
theorem fw_S_100 : sm_fw RX6 100 1 4 := ⟨_, _, _, rfl, in_X1, by decide, sm_inT 145 (by decide +kernel) (by decide +kernel)⟩
theorem cw_S_107 : sm_cw RX6 107 y_S_someNodeHasShare b_S_someNodeHasShare 4 (some .boolean) 2 := ⟨sm_inT 396 (by decide +kernel) (by decide +kernel), sm_inT 1 (by decide +kernel) (by decide +kernel), sm_inT 393 (by decide +kernel) (by decide +kernel), ⟨by decide, by decide, by decide +kernel⟩, by decide⟩
theorem iw_S_someNodeHasShare : Cond.instanceMethod y_S_someNodeHasShare ∈ sm_ws := sm_inT 395 (by decide +kernel) (by decide +kernel)
theorem se_S_someNodeHasShare : Cond.selects RX6 y_S_someNodeHasShare y_S_someNodeHasShare ∈ sm_ws := sm_inS 6 (by decide +kernel) (by decide +kernel)
theorem cw_S_111 : sm_cw RX6 111 y_S_dropShadows b_S_dropShadows 3 none 1 := ⟨sm_inT 400 (by decide +kernel) (by decide +kernel), sm_inT 1 (by decide +kernel) (by decide +kernel), sm_inT 397 (by decide +kernel) (by decide +kernel), ⟨by decide, by decide, by decide +kernel⟩, by decide⟩
theorem iw_S_dropShadows : Cond.instanceMethod y_S_dropShadows ∈ sm_ws := sm_inT 399 (by decide +kernel) (by decide +kernel)
theorem se_S_dropShadows : Cond.selects RX6 y_S_dropShadows y_S_dropShadows ∈ sm_ws := sm_inS 7 (by decide +kernel) (by decide +kernel)
theorem cw_S_114 : sm_cw RX6 114 y_S_checkMask b_S_checkMask 1 none 1 := ⟨sm_inT 411 (by decide +kernel) (by decide +kernel), sm_inT 1 (by decide +kernel) (by decide +kernel), sm_inT 409 (by decide +kernel) (by decide +kernel), ⟨by decide, by decide, by decide +kernel⟩, by decide⟩
theorem sw_S_checkMask : Cond.static y_S_checkMask ∈ sm_ws := sm_inT 410 (by decide +kernel) (by decide +kernel)
theorem fw_S_117 : sm_fw RX6 117 1 1 := ⟨_, _, _, rfl, in_X1, by decide, sm_inT 139 (by decide +kernel) (by decide +kernel)⟩
theorem cw_S_123 : sm_cw RX6 123 y_S_liveAndFresh b_S_liveAndFresh 5 (some .int) 2 := ⟨sm_inT 430 (by decide +kernel) (by decide +kernel), sm_inT 1 (by decide +kernel) (by decide +kernel), sm_inT 427 (by decide +kernel) (by decide +kernel), ⟨by decide, by decide, by decide +kernel⟩, by decide⟩
theorem iw_S_liveAndFresh : Cond.instanceMethod y_S_liveAndFresh ∈ sm_ws := sm_inT 429 (by decide +kernel) (by decide +kernel)
theorem se_S_liveAndFresh : Cond.selects RX6 y_S_liveAndFresh y_S_liveAndFresh ∈ sm_ws := sm_inS 8 (by decide +kernel) (by decide +kernel)
theorem cw_S_132 : sm_cw RX6 132 y_S_chooseLowest b_S_chooseLowest 3 none 1 := ⟨sm_inT 444 (by decide +kernel) (by decide +kernel), sm_inT 1 (by decide +kernel) (by decide +kernel), sm_inT 441 (by decide +kernel) (by decide +kernel), ⟨by decide, by decide, by decide +kernel⟩, by decide⟩
theorem iw_S_chooseLowest : Cond.instanceMethod y_S_chooseLowest ∈ sm_ws := sm_inT 443 (by decide +kernel) (by decide +kernel)
theorem se_S_chooseLowest : Cond.selects RX6 y_S_chooseLowest y_S_chooseLowest ∈ sm_ws := sm_inS 10 (by decide +kernel) (by decide +kernel)
theorem fw_S_19 : sm_fw RX6 19 6 1 := ⟨_, _, _, rfl, in_X6, by decide, sm_inT 158 (by decide +kernel) (by decide +kernel)⟩
theorem fw_S_12 : sm_fw RX6 12 6 0 := ⟨_, _, _, rfl, in_X6, by decide, sm_inT 157 (by decide +kernel) (by decide +kernel)⟩
theorem fw_S_25 : sm_fw RX6 25 6 2 := ⟨_, _, _, rfl, in_X6, by decide, sm_inT 159 (by decide +kernel) (by decide +kernel)⟩
theorem fw_S_38 : sm_fw RX6 38 6 4 := ⟨_, _, _, rfl, in_X6, by decide, sm_inT 161 (by decide +kernel) (by decide +kernel)⟩
theorem cw_S_135 : sm_cw RX6 135 y_M_decode b_M_decode 9 none 5 := ⟨sm_inT 456 (by decide +kernel) (by decide +kernel), sm_inT 3 (by decide +kernel) (by decide +kernel), sm_inT 453 (by decide +kernel) (by decide +kernel), ⟨by decide, by decide, by decide +kernel⟩, by decide⟩
theorem iw_M_decode : Cond.instanceMethod y_M_decode ∈ sm_ws := sm_inT 454 (by decide +kernel) (by decide +kernel)
theorem se_M_decode : Cond.selects RX2 y_M_decode y_M_decode ∈ sm_ws := sm_inT 455 (by decide +kernel) (by decide +kernel)
theorem fw_S_49 : sm_fw RX6 49 6 7 := ⟨_, _, _, rfl, in_X6, by decide, sm_inT 164 (by decide +kernel) (by decide +kernel)⟩
theorem cw_S_139 : sm_cw RX6 139 y_M_spill b_M_spill 5 none 2 := ⟨sm_inT 476 (by decide +kernel) (by decide +kernel), sm_inT 3 (by decide +kernel) (by decide +kernel), sm_inT 473 (by decide +kernel) (by decide +kernel), ⟨by decide, by decide, by decide +kernel⟩, by decide⟩
theorem iw_M_spill : Cond.instanceMethod y_M_spill ∈ sm_ws := sm_inT 474 (by decide +kernel) (by decide +kernel)
theorem se_M_spill : Cond.selects RX2 y_M_spill y_M_spill ∈ sm_ws := sm_inT 475 (by decide +kernel) (by decide +kernel)
theorem pw_S_52 : sm_pw RX6 52 6 8 .int := ⟨_, _, _, tyX6, rfl, in_X6, by decide, sm_inT 165 (by decide +kernel) (by decide +kernel), tyX6_ok, nmX6, rfl, by decide +kernel⟩
theorem fw_S_52 : sm_fw RX6 52 6 8 := ⟨_, _, _, rfl, in_X6, by decide, sm_inT 165 (by decide +kernel) (by decide +kernel)⟩
theorem fw_S_143 : sm_fw RX6 143 1 0 := ⟨_, _, _, rfl, in_X1, by decide, sm_inT 137 (by decide +kernel) (by decide +kernel)⟩
theorem cw_S_146 : sm_cw RX6 146 y_S_checkLive b_S_checkLive 2 none 1 := ⟨sm_inT 501 (by decide +kernel) (by decide +kernel), sm_inT 1 (by decide +kernel) (by decide +kernel), sm_inT 498 (by decide +kernel) (by decide +kernel), ⟨by decide, by decide, by decide +kernel⟩, by decide⟩
theorem iw_S_checkLive : Cond.instanceMethod y_S_checkLive ∈ sm_ws := sm_inT 500 (by decide +kernel) (by decide +kernel)
theorem se_S_checkLive : Cond.selects RX6 y_S_checkLive y_S_checkLive ∈ sm_ws := sm_inS 13 (by decide +kernel) (by decide +kernel)
theorem pw_S_149 : sm_pw RX6 149 3 3 .boolean := ⟨_, _, _, tyX3, rfl, in_X3, by decide, sm_inT 117 (by decide +kernel) (by decide +kernel), tyX3_ok, nmX3, rfl, by decide +kernel⟩
theorem fw_S_149 : sm_fw RX6 149 3 3 := ⟨_, _, _, rfl, in_X3, by decide, sm_inT 117 (by decide +kernel) (by decide +kernel)⟩
theorem cw_S_152 : sm_cw RX6 152 y_N_comeBack b_N_comeBack 3 none 1 := ⟨sm_inT 512 (by decide +kernel) (by decide +kernel), sm_inT 5 (by decide +kernel) (by decide +kernel), sm_inT 509 (by decide +kernel) (by decide +kernel), ⟨by decide, by decide, by decide +kernel⟩, by decide⟩
theorem iw_N_comeBack : Cond.instanceMethod y_N_comeBack ∈ sm_ws := sm_inT 510 (by decide +kernel) (by decide +kernel)
theorem se_N_comeBack : Cond.selects RX3 y_N_comeBack y_N_comeBack ∈ sm_ws := sm_inT 511 (by decide +kernel) (by decide +kernel)
theorem cw_S_155 : sm_cw RX6 155 y_S_needsRebuild b_S_needsRebuild 3 (some .boolean) 2 := ⟨sm_inT 523 (by decide +kernel) (by decide +kernel), sm_inT 1 (by decide +kernel) (by decide +kernel), sm_inT 520 (by decide +kernel) (by decide +kernel), ⟨by decide, by decide, by decide +kernel⟩, by decide⟩
theorem iw_S_needsRebuild : Cond.instanceMethod y_S_needsRebuild ∈ sm_ws := sm_inT 522 (by decide +kernel) (by decide +kernel)
theorem se_S_needsRebuild : Cond.selects RX6 y_S_needsRebuild y_S_needsRebuild ∈ sm_ws := sm_inS 14 (by decide +kernel) (by decide +kernel)
theorem cw_S_158 : sm_cw RX6 158 y_S_lacksHelpers b_S_lacksHelpers 3 (some .boolean) 2 := ⟨sm_inT 527 (by decide +kernel) (by decide +kernel), sm_inT 1 (by decide +kernel) (by decide +kernel), sm_inT 524 (by decide +kernel) (by decide +kernel), ⟨by decide, by decide, by decide +kernel⟩, by decide⟩
theorem iw_S_lacksHelpers : Cond.instanceMethod y_S_lacksHelpers ∈ sm_ws := sm_inT 526 (by decide +kernel) (by decide +kernel)
theorem se_S_lacksHelpers : Cond.selects RX6 y_S_lacksHelpers y_S_lacksHelpers ∈ sm_ws := sm_inS 15 (by decide +kernel) (by decide +kernel)
theorem cw_S_161 : sm_cw RX6 161 y_S_rebuildShare b_S_rebuildShare 8 (some .int) 3 := ⟨sm_inT 531 (by decide +kernel) (by decide +kernel), sm_inT 1 (by decide +kernel) (by decide +kernel), sm_inT 528 (by decide +kernel) (by decide +kernel), ⟨by decide, by decide, by decide +kernel⟩, by decide⟩
theorem iw_S_rebuildShare : Cond.instanceMethod y_S_rebuildShare ∈ sm_ws := sm_inT 530 (by decide +kernel) (by decide +kernel)
theorem se_S_rebuildShare : Cond.selects RX6 y_S_rebuildShare y_S_rebuildShare ∈ sm_ws := sm_inS 16 (by decide +kernel) (by decide +kernel)
theorem fw_S_165 : sm_fw RX6 165 3 4 := ⟨_, _, _, rfl, in_X3, by decide, sm_inT 119 (by decide +kernel) (by decide +kernel)⟩
theorem cw_S_168 : sm_cw RX6 168 y_S_countFresh b_S_countFresh 4 (some .int) 1 := ⟨sm_inT 560 (by decide +kernel) (by decide +kernel), sm_inT 1 (by decide +kernel) (by decide +kernel), sm_inT 557 (by decide +kernel) (by decide +kernel), ⟨by decide, by decide, by decide +kernel⟩, by decide⟩
theorem iw_S_countFresh : Cond.instanceMethod y_S_countFresh ∈ sm_ws := sm_inT 559 (by decide +kernel) (by decide +kernel)
theorem se_S_countFresh : Cond.selects RX6 y_S_countFresh y_S_countFresh ∈ sm_ws := sm_inS 20 (by decide +kernel) (by decide +kernel)
theorem cw_S_171 : sm_cw RX6 171 y_N_countShadows b_N_countShadows 3 (some .int) 0 := ⟨sm_inT 564 (by decide +kernel) (by decide +kernel), sm_inT 5 (by decide +kernel) (by decide +kernel), sm_inT 561 (by decide +kernel) (by decide +kernel), ⟨by decide, by decide, by decide +kernel⟩, by decide⟩
theorem iw_N_countShadows : Cond.instanceMethod y_N_countShadows ∈ sm_ws := sm_inT 562 (by decide +kernel) (by decide +kernel)
theorem se_N_countShadows : Cond.selects RX3 y_N_countShadows y_N_countShadows ∈ sm_ws := sm_inT 563 (by decide +kernel) (by decide +kernel)
theorem fw_S_174 : sm_fw RX6 174 3 1 := ⟨_, _, _, rfl, in_X3, by decide, sm_inT 113 (by decide +kernel) (by decide +kernel)⟩
theorem fw_S_178 : sm_fw RX6 178 4 0 := ⟨_, _, _, rfl, in_X4, by decide, sm_inT 95 (by decide +kernel) (by decide +kernel)⟩
theorem fw_S_183 : sm_fw RX6 183 4 1 := ⟨_, _, _, rfl, in_X4, by decide, sm_inT 98 (by decide +kernel) (by decide +kernel)⟩
theorem cw_S_184 : sm_cw RX6 184 y_S_stripesOf b_S_stripesOf 1 (some .int) 1 := ⟨sm_inT 345 (by decide +kernel) (by decide +kernel), sm_inT 1 (by decide +kernel) (by decide +kernel), sm_inT 532 (by decide +kernel) (by decide +kernel), ⟨by decide, by decide, by decide +kernel⟩, by decide⟩
theorem fw_S_187 : sm_fw RX6 187 4 2 := ⟨_, _, _, rfl, in_X4, by decide, sm_inT 101 (by decide +kernel) (by decide +kernel)⟩
theorem cw_S_190 : sm_cw RX6 190 y_S_isByte b_S_isByte 1 (some .boolean) 1 := ⟨sm_inT 588 (by decide +kernel) (by decide +kernel), sm_inT 1 (by decide +kernel) (by decide +kernel), sm_inT 586 (by decide +kernel) (by decide +kernel), ⟨by decide, by decide, by decide +kernel⟩, by decide⟩
theorem sw_S_isByte : Cond.static y_S_isByte ∈ sm_ws := sm_inT 587 (by decide +kernel) (by decide +kernel)
theorem cw_S_194 : sm_cw RX6 194 y_G_times b_G_times 3 (some .int) 2 := ⟨sm_inT 365 (by decide +kernel) (by decide +kernel), sm_inT 2 (by decide +kernel) (by decide +kernel), sm_inT 589 (by decide +kernel) (by decide +kernel), ⟨by decide, by decide, by decide +kernel⟩, by decide⟩
theorem cw_S_197 : sm_cw RX6 197 y_G_over b_G_over 3 (some .int) 2 := ⟨sm_inT 468 (by decide +kernel) (by decide +kernel), sm_inT 2 (by decide +kernel) (by decide +kernel), sm_inT 590 (by decide +kernel) (by decide +kernel), ⟨by decide, by decide, by decide +kernel⟩, by decide⟩
theorem cw_S_203 : sm_cw RX6 203 y_S_isFresh b_S_isFresh 3 (some .boolean) 2 := ⟨sm_inT 434 (by decide +kernel) (by decide +kernel), sm_inT 1 (by decide +kernel) (by decide +kernel), sm_inT 431 (by decide +kernel) (by decide +kernel), ⟨by decide, by decide, by decide +kernel⟩, by decide⟩
theorem iw_S_isFresh : Cond.instanceMethod y_S_isFresh ∈ sm_ws := sm_inT 433 (by decide +kernel) (by decide +kernel)
theorem se_S_isFresh : Cond.selects RX6 y_S_isFresh y_S_isFresh ∈ sm_ws := sm_inS 9 (by decide +kernel) (by decide +kernel)
theorem fw_S_56 : sm_fw RX6 56 6 9 := ⟨_, _, _, rfl, in_X6, by decide, sm_inT 166 (by decide +kernel) (by decide +kernel)⟩
theorem fw_S_206 : sm_fw RX6 206 1 3 := ⟨_, _, _, rfl, in_X1, by decide, sm_inT 143 (by decide +kernel) (by decide +kernel)⟩
theorem cw_S_209 : sm_cw RX6 209 y_M_fill b_M_fill 9 none 2 := ⟨sm_inT 342 (by decide +kernel) (by decide +kernel), sm_inT 3 (by decide +kernel) (by decide +kernel), sm_inT 339 (by decide +kernel) (by decide +kernel), ⟨by decide, by decide, by decide +kernel⟩, by decide⟩
theorem iw_M_fill : Cond.instanceMethod y_M_fill ∈ sm_ws := sm_inT 340 (by decide +kernel) (by decide +kernel)
theorem se_M_fill : Cond.selects RX2 y_M_fill y_M_fill ∈ sm_ws := sm_inT 341 (by decide +kernel) (by decide +kernel)
theorem fw_S_212 : sm_fw RX6 212 3 2 := ⟨_, _, _, rfl, in_X3, by decide, sm_inT 115 (by decide +kernel) (by decide +kernel)⟩
theorem cw_S_215 : sm_cw RX6 215 y_H_become b_H_become 3 none 2 := ⟨sm_inT 353 (by decide +kernel) (by decide +kernel), sm_inT 6 (by decide +kernel) (by decide +kernel), sm_inT 350 (by decide +kernel) (by decide +kernel), ⟨by decide, by decide, by decide +kernel⟩, by decide⟩
theorem fw_S_218 : sm_fw RX6 218 3 0 := ⟨_, _, _, rfl, in_X3, by decide, sm_inT 110 (by decide +kernel) (by decide +kernel)⟩
theorem cw_S_221 : sm_cw RX6 221 y_M_encode b_M_encode 6 none 3 := ⟨sm_inT 357 (by decide +kernel) (by decide +kernel), sm_inT 3 (by decide +kernel) (by decide +kernel), sm_inT 354 (by decide +kernel) (by decide +kernel), ⟨by decide, by decide, by decide +kernel⟩, by decide⟩
theorem iw_M_encode : Cond.instanceMethod y_M_encode ∈ sm_ws := sm_inT 355 (by decide +kernel) (by decide +kernel)
theorem se_M_encode : Cond.selects RX2 y_M_encode y_M_encode ∈ sm_ws := sm_inT 356 (by decide +kernel) (by decide +kernel)
theorem cw_S_225 : sm_cw RX6 225 y_N_turnShadow b_N_turnShadow 3 none 1 := ⟨sm_inT 373 (by decide +kernel) (by decide +kernel), sm_inT 5 (by decide +kernel) (by decide +kernel), sm_inT 370 (by decide +kernel) (by decide +kernel), ⟨by decide, by decide, by decide +kernel⟩, by decide⟩
theorem iw_N_turnShadow : Cond.instanceMethod y_N_turnShadow ∈ sm_ws := sm_inT 371 (by decide +kernel) (by decide +kernel)
theorem se_N_turnShadow : Cond.selects RX3 y_N_turnShadow y_N_turnShadow ∈ sm_ws := sm_inT 372 (by decide +kernel) (by decide +kernel)
theorem cw_S_228 : sm_cw RX6 228 y_S_chooseLeastSent b_S_chooseLeastSent 5 none 1 := ⟨sm_inT 536 (by decide +kernel) (by decide +kernel), sm_inT 1 (by decide +kernel) (by decide +kernel), sm_inT 533 (by decide +kernel) (by decide +kernel), ⟨by decide, by decide, by decide +kernel⟩, by decide⟩
theorem iw_S_chooseLeastSent : Cond.instanceMethod y_S_chooseLeastSent ∈ sm_ws := sm_inT 535 (by decide +kernel) (by decide +kernel)
theorem se_S_chooseLeastSent : Cond.selects RX6 y_S_chooseLeastSent y_S_chooseLeastSent ∈ sm_ws := sm_inS 17 (by decide +kernel) (by decide +kernel)
theorem cw_S_231 : sm_cw RX6 231 y_S_askHelpers b_S_askHelpers 6 none 3 := ⟨sm_inT 544 (by decide +kernel) (by decide +kernel), sm_inT 1 (by decide +kernel) (by decide +kernel), sm_inT 541 (by decide +kernel) (by decide +kernel), ⟨by decide, by decide, by decide +kernel⟩, by decide⟩
theorem iw_S_askHelpers : Cond.instanceMethod y_S_askHelpers ∈ sm_ws := sm_inT 543 (by decide +kernel) (by decide +kernel)
theorem se_S_askHelpers : Cond.selects RX6 y_S_askHelpers y_S_askHelpers ∈ sm_ws := sm_inS 19 (by decide +kernel) (by decide +kernel)
theorem fw_S_235 : sm_fw RX6 235 5 1 := ⟨_, _, _, rfl, in_X5, by decide, sm_inT 71 (by decide +kernel) (by decide +kernel)⟩
theorem fw_S_42 : sm_fw RX6 42 6 5 := ⟨_, _, _, rfl, in_X6, by decide, sm_inT 162 (by decide +kernel) (by decide +kernel)⟩
theorem cw_S_238 : sm_cw RX6 238 y_G_interpolate b_G_interpolate 6 none 3 := ⟨sm_inT 464 (by decide +kernel) (by decide +kernel), sm_inT 2 (by decide +kernel) (by decide +kernel), sm_inT 546 (by decide +kernel) (by decide +kernel), ⟨by decide, by decide, by decide +kernel⟩, by decide⟩
theorem fw_S_248 : sm_fw RX6 248 5 0 := ⟨_, _, _, rfl, in_X5, by decide, sm_inT 68 (by decide +kernel) (by decide +kernel)⟩
theorem cw_S_251 : sm_cw RX6 251 y_G_valueAt b_G_valueAt 6 (some .int) 3 := ⟨sm_inT 361 (by decide +kernel) (by decide +kernel), sm_inT 2 (by decide +kernel) (by decide +kernel), sm_inT 545 (by decide +kernel) (by decide +kernel), ⟨by decide, by decide, by decide +kernel⟩, by decide⟩
theorem pw_S_165 : sm_pw RX6 165 3 4 .int := ⟨_, _, _, tyX3, rfl, in_X3, by decide, sm_inT 119 (by decide +kernel) (by decide +kernel), tyX3_ok, nmX3, rfl, by decide +kernel⟩
theorem cw_S_255 : sm_cw RX6 255 y_T_clear b_T_clear 1 none 0 := ⟨sm_inT 448 (by decide +kernel) (by decide +kernel), sm_inT 4 (by decide +kernel) (by decide +kernel), sm_inT 445 (by decide +kernel) (by decide +kernel), ⟨by decide, by decide, by decide +kernel⟩, by decide⟩
theorem iw_T_clear : Cond.instanceMethod y_T_clear ∈ sm_ws := sm_inT 446 (by decide +kernel) (by decide +kernel)
theorem se_T_clear : Cond.selects RX5 y_T_clear y_T_clear ∈ sm_ws := sm_inT 447 (by decide +kernel) (by decide +kernel)
theorem fw_S_258 : sm_fw RX6 258 5 2 := ⟨_, _, _, rfl, in_X5, by decide, sm_inT 73 (by decide +kernel) (by decide +kernel)⟩
theorem cw_S_261 : sm_cw RX6 261 y_T_add b_T_add 2 none 1 := ⟨sm_inT 452 (by decide +kernel) (by decide +kernel), sm_inT 4 (by decide +kernel) (by decide +kernel), sm_inT 449 (by decide +kernel) (by decide +kernel), ⟨by decide, by decide, by decide +kernel⟩, by decide⟩
theorem iw_T_add : Cond.instanceMethod y_T_add ∈ sm_ws := sm_inT 450 (by decide +kernel) (by decide +kernel)
theorem se_T_add : Cond.selects RX5 y_T_add y_T_add ∈ sm_ws := sm_inT 451 (by decide +kernel) (by decide +kernel)
theorem cw_S_264 : sm_cw RX6 264 y_S_leastSent b_S_leastSent 5 (some .int) 1 := ⟨sm_inT 540 (by decide +kernel) (by decide +kernel), sm_inT 1 (by decide +kernel) (by decide +kernel), sm_inT 537 (by decide +kernel) (by decide +kernel), ⟨by decide, by decide, by decide +kernel⟩, by decide⟩
theorem iw_S_leastSent : Cond.instanceMethod y_S_leastSent ∈ sm_ws := sm_inT 539 (by decide +kernel) (by decide +kernel)
theorem se_S_leastSent : Cond.selects RX6 y_S_leastSent y_S_leastSent ∈ sm_ws := sm_inS 18 (by decide +kernel) (by decide +kernel)
end
section
/-! Galois: the tables hold; products, quotients, values, interpolation -/
def gal (X : sm_X) : Prop := (∀ k, k < 255 → X 2 k = gf_p k) ∧ ∀ a, a < 256 → X 3 a = gf_e a
theorem sn_sa {a b c : Nat} (h : b ≤ c) : nI a - nI b + nI c = nI (a + c - b) := by
  rw [← pk_sub (by omega : b ≤ a + c), ← nI_add, Int32.sub_eq_add_neg, Int32.sub_eq_add_neg, Int32.add_assoc, Int32.add_comm (-nI b), ← Int32.add_assoc]

set_option maxHeartbeats 4000000 in
set_option maxRecDepth 100000 in
theorem c_G_times (l : Launch) (Ω : sm_Ω) {X : sm_X} {w : Nat → Nat → Nat} {a b : Nat} (hG : gal X) (ha : a < 256) (hb : b < 256) : sm_met l Ω y_G_times b_G_times 3 (some .int) 1 723 [.ref (Ω.2.1 + 1), .int (nI a), .int (nI b)] X (sm_rf w) (sm_det (some (.int (nI (gf_t a b)))) X (sm_rf w)) := by
  refine sm_intro (own := RX0) (L := [some (.ref (Ω.2.1 + 1)), some (.int (nI a)), some (.int (nI b))]) (by decide) rfl (by simp [Value.category]) (Nat.le_of_ble_eq_true rfl) rfl ?_
  intro Γ C I
  have e1 := hG.2 a ha
  have e2 := hG.2 b hb
  have b1 := gf_e_lt ha
  have b2 := gf_e_lt hb
  refine sg_iln (pc := 0) C d_G_times_0 rfl ?_
  refine sg_ifeq (pc := 1) (tgt := 8) C d_G_times_1 (by decide) (by omega) (fun h1 => ?_) (fun h1 => ?_)
  · refine sg_ic (pc := 8) (v := 0) C d_G_times_8 (by decide) ?_
    exact sg_iret (pc := 9) C I rfl rfl d_G_times_9 ⟨by first | rw [h1, gf_t_0l] | rw [h5, gf_t_0r], rfl, rfl⟩
  · refine sg_iln (pc := 4) C d_G_times_4 rfl ?_
    refine sg_ifne (pc := 5) (tgt := 10) C d_G_times_5 (by decide) (by omega) (fun h5 => ?_) (fun h5 => ?_)
    · refine sg_aln (pc := 10) C d_G_times_10 rfl ?_
      refine sg_getr (pc := 11) C fw_G_11 (by omega) rfl rfl rfl d_G_times_11 ?_
      refine sg_aln (pc := 14) C d_G_times_14 rfl ?_
      refine sg_getr (pc := 15) C fw_G_15 (by omega) rfl rfl rfl d_G_times_15 ?_
      refine sg_iln (pc := 18) C d_G_times_18 rfl ?_
      refine sg_iald (pc := 19) (n := 256) C (by omega) rfl (by omega) (by decide) d_G_times_19 ?_
      refine sg_aln (pc := 20) C d_G_times_20 rfl ?_
      refine sg_getr (pc := 21) C fw_G_15 (by omega) rfl rfl rfl d_G_times_21 ?_
      refine sg_iln (pc := 24) C d_G_times_24 rfl ?_
      refine sg_iald (pc := 25) (n := 256) C (by omega) rfl (by omega) (by decide) d_G_times_25 ?_
      refine sg_add (pc := 26) C d_G_times_26 ?_
      refine sg_si (pc := 27) (v := 255) C d_G_times_27 (by decide) ?_
      refine sg_rem (pc := 30) C d_G_times_30 (by omega) (by decide) (by decide) ?_
      refine sg_iald (pc := 31) (n := 255) C (by omega) rfl (by omega) (by decide) d_G_times_31 ?_
      exact sg_iret (pc := 32) C I rfl rfl d_G_times_32 ⟨by rw [hG.1 _ (by omega), e1, e2, gf_t, if_neg (fun h => h.elim h1 h5)], rfl, rfl⟩
    · refine sg_ic (pc := 8) (v := 0) C d_G_times_8 (by decide) ?_
      exact sg_iret (pc := 9) C I rfl rfl d_G_times_9 ⟨by first | rw [h1, gf_t_0l] | rw [h5, gf_t_0r], rfl, rfl⟩

set_option maxHeartbeats 4000000 in
set_option maxRecDepth 100000 in
theorem c_G_over (l : Launch) (Ω : sm_Ω) {X : sm_X} {w : Nat → Nat → Nat} {a b : Nat} (hG : gal X) (ha : a < 256) (hb : b < 256) : sm_met l Ω y_G_over b_G_over 3 (some .int) 1 723 [.ref (Ω.2.1 + 1), .int (nI b), .int (nI a)] X (sm_rf w) (sm_det (some (.int (nI (gf_d b a)))) X (sm_rf w)) := by
  refine sm_intro (own := RX0) (L := [some (.ref (Ω.2.1 + 1)), some (.int (nI b)), some (.int (nI a))]) (by decide) rfl (by simp [Value.category]) (Nat.le_of_ble_eq_true rfl) rfl ?_
  intro Γ C I
  have e1 := hG.2 a ha
  have e2 := hG.2 b hb
  have b1 := gf_e_lt ha
  have b2 := gf_e_lt hb
  refine sg_iln (pc := 0) C d_G_over_0 rfl ?_
  refine sg_ifeq (pc := 1) (tgt := 8) C d_G_over_1 (by decide) (by omega) (fun h1 => ?_) (fun h1 => ?_)
  · refine sg_ic (pc := 8) (v := 0) C d_G_over_8 (by decide) ?_
    exact sg_iret (pc := 9) C I rfl rfl d_G_over_9 ⟨by first | rw [h1, gf_d, if_pos (Or.inl rfl)] | rw [h5, gf_d, if_pos (Or.inr rfl)], rfl, rfl⟩
  · refine sg_iln (pc := 4) C d_G_over_4 rfl ?_
    refine sg_ifne (pc := 5) (tgt := 10) C d_G_over_5 (by decide) (by omega) (fun h5 => ?_) (fun h5 => ?_)
    · refine sg_aln (pc := 10) C d_G_over_10 rfl ?_
      refine sg_getr (pc := 11) C fw_G_11 (by omega) rfl rfl rfl d_G_over_11 ?_
      refine sg_aln (pc := 14) C d_G_over_14 rfl ?_
      refine sg_getr (pc := 15) C fw_G_15 (by omega) rfl rfl rfl d_G_over_15 ?_
      refine sg_iln (pc := 18) C d_G_over_18 rfl ?_
      refine sg_iald (pc := 19) (n := 256) C (by omega) rfl (by omega) (by decide) d_G_over_19 ?_
      refine sg_aln (pc := 20) C d_G_over_20 rfl ?_
      refine sg_getr (pc := 21) C fw_G_15 (by omega) rfl rfl rfl d_G_over_21 ?_
      refine sg_iln (pc := 24) C d_G_over_24 rfl ?_
      refine sg_iald (pc := 25) (n := 256) C (by omega) rfl (by omega) (by decide) d_G_over_25 ?_
      refine sr_isub (pc := 26) C d_G_over_26 rfl ?_
      refine sg_si (pc := 27) (v := 255) C d_G_over_27 (by decide) ?_
      refine sr_iadd (pc := 30) C d_G_over_30 (sn_sa (by omega)) ?_
      refine sg_si (pc := 31) (v := 255) C d_G_over_31 (by decide) ?_
      refine sg_rem (pc := 34) C d_G_over_34 (by omega) (by decide) (by decide) ?_
      refine sg_iald (pc := 35) (n := 255) C (by omega) rfl (by omega) (by decide) d_G_over_35 ?_
      exact sg_iret (pc := 36) C I rfl rfl d_G_over_36 ⟨by rw [hG.1 _ (by omega), e1, e2, gf_d, if_neg (fun h => h.elim h1 h5)], rfl, rfl⟩
    · refine sg_ic (pc := 8) (v := 0) C d_G_over_8 (by decide) ?_
      exact sg_iret (pc := 9) C I rfl rfl d_G_over_9 ⟨by first | rw [h1, gf_d, if_pos (Or.inl rfl)] | rw [h5, gf_d, if_pos (Or.inr rfl)], rfl, rfl⟩

theorem gf_h_lt2 {c : Nat → Nat} {x k m : Nat} (h : ∀ j, k ≤ j → j < k + m → c j < 256) : gf_h c x k m < 256 := by
  cases m with
  | zero => show (0 : Nat) < 256; decide
  | succ m => exact gf_xor_lt (gf_t_lt _ _) (h k (Nat.le_refl k) (by omega))

set_option maxHeartbeats 4000000 in
set_option maxRecDepth 100000 in
theorem c_G_valueAt (l : Launch) (Ω : sm_Ω) {X : sm_X} {w : Nat → Nat → Nat} {p i n fr : Nat} (hG : gal X) (hp : p < 256) (hi : i < 723) (hs : sm_sh i = .inr (n, 0)) (hn : n < 2 ^ 31) (hf : fr + 8 ≤ n) (hv : ∀ j, j < 8 → X i (fr + j) < 256) : sm_met l Ω y_G_valueAt b_G_valueAt 6 (some .int) 2 723 [.ref (Ω.2.1 + 1), .int (nI p), .ref (Ω.2.1 + i), .int (nI fr)] X (sm_rf w) (sm_det (some (.int (nI (gf_h (fun j => X i (fr + j)) p 0 8)))) X (sm_rf w)) := by
  refine sm_intro (own := RX0) (L := [some (.ref (Ω.2.1 + 1)), some (.int (nI p)), some (.ref (Ω.2.1 + i)), some (.int (nI fr)), none, none]) (by decide) rfl (by simp [Value.category]) (Nat.le_of_ble_eq_true rfl) rfl ?_
  intro Γ C I
  refine sg_ic (pc := 0) (v := 0) C d_G_valueAt_0 (by decide) ?_
  refine sg_is4 (pc := 1) C d_G_valueAt_1 ?_
  refine sg_bi (pc := 3) (v := 7) C d_G_valueAt_3 (by decide) ?_
  refine sg_is5 (pc := 5) C d_G_valueAt_5 ?_
  have loop : ∀ k, k ≤ 8 → sm_G Γ Ω 723 0 0 7 [some (.ref (Ω.2.1 + 1)), some (.int (nI p)), some (.ref (Ω.2.1 + i)), some (.int (nI fr)), some (.int (nI (gf_h (fun j => X i (fr + j)) p k (8 - k)))), some (.int (nI k + (-1)))] [] X (sm_rf w) := by
    intro k
    induction k with
    | zero =>
      intro _
      refine sg_il (pc := 7) C d_G_valueAt_7 rfl ?_
      refine sr_iflt (pc := 9) (tgt := 34) C d_G_valueAt_9 (by decide) (fun h9 => ?_) (fun h9 => absurd (by decide) h9)
      refine sg_il (pc := 34) C d_G_valueAt_34 rfl ?_
      exact sg_iret (pc := 36) C I rfl rfl d_G_valueAt_36 ⟨rfl, rfl, rfl⟩
    | succ k ih =>
      intro hk
      rw [sn_m1]
      have hb : gf_h (fun j => X i (fr + j)) p (k + 1) (8 - (k + 1)) < 256 := gf_h_lt2 (fun j h1 h2 => hv j (by omega))
      refine sg_il (pc := 7) C d_G_valueAt_7 rfl ?_
      refine sr_iflt (pc := 9) (tgt := 34) C d_G_valueAt_9 (by decide) (fun h9 => absurd h9 (nI_pos (by omega))) (fun h9 => ?_)
      refine sg_aln (pc := 12) C d_G_valueAt_12 rfl ?_
      refine sg_il (pc := 13) C d_G_valueAt_13 rfl ?_
      refine sg_iln (pc := 15) C d_G_valueAt_15 rfl ?_
      refine sm_callV (pc := 16) (As := [.int (nI (gf_h (fun j => X i (fr + j)) p (k + 1) (8 - (k + 1)))), .int (nI p)]) C I (c_G_times l Ω hG hb hp) cw_G_18 iw_G_times (C.1.2.2.2.2 _ (List.mem_cons_of_mem _ se_G_times)) (by omega) rfl rfl rfl rfl (by decide) ⟨by decide, by decide⟩ rfl (Nat.le_of_ble_eq_true rfl) d_G_valueAt_16 (sm_det_i ?_)
      refine sg_aln (pc := 19) C d_G_valueAt_19 rfl ?_
      refine sg_iln (pc := 20) C d_G_valueAt_20 rfl ?_
      refine sg_il (pc := 21) C d_G_valueAt_21 rfl ?_
      refine sg_add (pc := 23) C d_G_valueAt_23 ?_
      refine sg_iald (pc := 24) (n := n) C hi hs (by omega) hn d_G_valueAt_24 ?_
      refine sg_xor (pc := 25) C d_G_valueAt_25 ?_
      refine sg_is4 (pc := 26) C d_G_valueAt_26 ?_
      refine sg_dec5 (pc := 28) C d_G_valueAt_28 ?_
      refine sg_goto (pc := 31) (tgt := 7) C d_G_valueAt_31 (by decide) ?_
      have h := ih (by omega)
      rw [show 8 - k = 8 - (k + 1) + 1 by omega] at h
      exact h
  have h0 := loop 8 (Nat.le_refl 8)
  rw [show nI 8 + (-1) = nI 7 from by decide] at h0
  exact h0

/-! interpolation: the arrays between two turns -/
def ip_f (m : Nat) (P : Nat → Nat) (s r : Nat) (v : Nat → Nat) : Nat → Nat := fun k => if s + r + 1 ≤ k ∧ k < m then gf_d (v k ^^^ v (k - 1)) (P k ^^^ P (k - (s + 1))) else v k
theorem ip_f_n {m s r k : Nat} {P v : Nat → Nat} (h : ¬ (s + r + 1 ≤ k ∧ k < m)) : ip_f m P s r v k = v k := if_neg h
theorem ip_f_0 {m s : Nat} {P v : Nat → Nat} : ip_f m P s 0 (gf_q1 m P s v) = gf_q1 m P (s + 1) v := rfl
theorem ip_f_all {m s r : Nat} {P v : Nat → Nat} (h : s + r + 1 = m) : ip_f m P s r v = v := funext fun k => ip_f_n (by omega)
theorem ip_f_step {m s r : Nat} {P v : Nat → Nat} (h : s + (r + 1) < m) : (fun k => if k = s + (r + 1) then gf_d (v (s + (r + 1)) ^^^ v (s + (r + 1) - 1)) (P (s + (r + 1)) ^^^ P (s + (r + 1) - (s + 1))) else ip_f m P s (r + 1) v k) = ip_f m P s r v := by
  funext k
  by_cases hk : k = s + (r + 1)
  · subst hk
    rw [if_pos rfl]
    unfold ip_f
    rw [if_pos ⟨by omega, h⟩]
  · rw [if_neg hk]
    unfold ip_f
    by_cases h2 : s + r + 1 ≤ k ∧ k < m
    · rw [if_pos h2, if_pos ⟨by omega, h2.2⟩]
    · rw [if_neg h2, if_neg (fun q => h2 ⟨by omega, q.2⟩)]
theorem gf_q1_lt {m : Nat} {P v : Nat → Nat} (hv : ∀ k, k < m → v k < 256) : ∀ s k, k < m → gf_q1 m P s v k < 256
  | 0, k, h => hv k h
  | s + 1, k, h => by
    show gf_p1 m P (s + 1) (gf_q1 m P s v) k < 256
    unfold gf_p1
    split
    · exact gf_d_lt _ _
    · exact gf_q1_lt hv s k h
def ip_g (P : Nat → Nat) (c i : Nat) (u : Nat → Nat) : Nat → Nat := fun k => if c ≤ k ∧ k < i then u k ^^^ gf_t (u (k + 1)) (P c) else u k
theorem ip_g_n {c i k : Nat} {P u : Nat → Nat} (h : ¬ (c ≤ k ∧ k < i)) : ip_g P c i u k = u k := if_neg h
theorem ip_g_0 {c : Nat} {P u : Nat → Nat} : ip_g P c c u = u := funext fun k => ip_g_n (by omega)
theorem ip_g_step {c i : Nat} {P u : Nat → Nat} (h : c ≤ i) : (fun k => if k = i then u i ^^^ gf_t (u (i + 1)) (P c) else ip_g P c i u k) = ip_g P c (i + 1) u := by
  funext k
  by_cases hk : k = i
  · subst hk
    rw [if_pos rfl]
    unfold ip_g
    rw [if_pos ⟨h, by omega⟩]
  · rw [if_neg hk]
    unfold ip_g
    by_cases h2 : c ≤ k ∧ k < i
    · rw [if_pos h2, if_pos ⟨h2.1, by omega⟩]
    · rw [if_neg h2, if_neg (fun q => h2 ⟨q.1, by omega⟩)]
theorem ip_g_end {m c i : Nat} {P u : Nat → Nat} (h : i + 1 = m) : ip_g P c i u = gf_p2 m P c u := by
  funext k
  unfold ip_g gf_p2
  by_cases h2 : c ≤ k ∧ k < i
  · rw [if_pos h2, if_pos ⟨h2.1, by omega⟩]
  · rw [if_neg h2, if_neg (fun q => h2 ⟨q.1, by omega⟩)]
theorem gf_p2_lt {m c : Nat} {P u : Nat → Nat} (hu : ∀ k, k < m → u k < 256) : ∀ k, k < m → gf_p2 m P c u k < 256 := by
  intro k hk
  unfold gf_p2
  split
  · exact gf_xor_lt (hu k hk) (gf_t_lt _ _)
  · exact hu k hk

theorem gal_uf {X : sm_X} {j : Nat} {f : Nat → Nat} (hG : gal X) (h2 : j ≠ 2) (h3 : j ≠ 3) : gal (sm_uf X j f) := ⟨fun k hk => (sm_uf_o (Ne.symm h2)).trans (hG.1 k hk), fun a ha => (sm_uf_o (Ne.symm h3)).trans (hG.2 a ha)⟩

set_option maxHeartbeats 4000000 in
set_option maxRecDepth 100000 in
theorem c_G_interpolate (l : Launch) (Ω : sm_Ω) {X : sm_X} {w : Nat → Nat → Nat} {i j m ni nj : Nat} (hG : gal X) (hi : i < 723) (hsi : sm_sh i = .inr (ni, 0)) (hni : ni < 2 ^ 31) (hj : j < 723) (hsj : sm_sh j = .inr (nj, 0)) (hnj : nj < 2 ^ 31) (hij : i ≠ j) (h2 : j ≠ 2) (h3 : j ≠ 3) (hm : 2 ≤ m) (hmi : m ≤ ni) (hmj : m ≤ nj) (hp : ∀ k, k < m → X i k < 256) (hv : ∀ k, k < m → X j k < 256) : sm_met l Ω y_G_interpolate b_G_interpolate 6 none 2 723 [.ref (Ω.2.1 + 1), .ref (Ω.2.1 + i), .ref (Ω.2.1 + j), .int (nI m)] X (sm_rf w) (sm_det none (sm_uf X j (gf_q2 m (X i) (m - 1) (gf_q1 m (X i) (m - 1) (X j)))) (sm_rf w)) := by
  refine sm_intro (own := RX0) (L := [some (.ref (Ω.2.1 + 1)), some (.ref (Ω.2.1 + i)), some (.ref (Ω.2.1 + j)), some (.int (nI m)), none, none]) (by decide) rfl (by simp [Value.category]) (Nat.le_of_ble_eq_true rfl) rfl ?_
  intro Γ C I
  refine sg_ic (pc := 0) (v := 1) C d_G_interpolate_0 (by decide) ?_
  refine sg_is4 (pc := 1) C d_G_interpolate_1 ?_
  have loop1 : ∀ t s0 z, s0 + 1 + t = m → sm_G Γ Ω 723 0 0 3 [some (.ref (Ω.2.1 + 1)), some (.ref (Ω.2.1 + i)), some (.ref (Ω.2.1 + j)), some (.int (nI m)), some (.int (nI (s0 + 1))), z] [] (sm_uf X j (gf_q1 m (X i) s0 (X j))) (sm_rf w) := by
    intro t
    induction t with
    | zero =>
      intro s0 z ht
      refine sg_il (pc := 3) C d_G_interpolate_3 rfl ?_
      refine sg_iln (pc := 5) C d_G_interpolate_5 rfl ?_
      refine sg_icge (pc := 6) (tgt := 64) C d_G_interpolate_6 (by decide) (by omega) (by omega) (fun h6 => ?_) (fun h6 => absurd h6 (by omega))
      refine sg_iln (pc := 64) C d_G_interpolate_64 rfl ?_
      refine sg_ic (pc := 65) (v := 2) C d_G_interpolate_65 (by decide) ?_
      refine sg_sub (pc := 66) C d_G_interpolate_66 (by omega) ?_
      refine sg_is4 (pc := 67) C d_G_interpolate_67 ?_
      have loop3 : ∀ c (u : Nat → Nat) z, c + 1 ≤ m → (∀ k, k < m → u k < 256) → gf_q2 m (X i) c u = gf_q2 m (X i) (m - 1) (gf_q1 m (X i) (m - 1) (X j)) → sm_G Γ Ω 723 0 0 69 [some (.ref (Ω.2.1 + 1)), some (.ref (Ω.2.1 + i)), some (.ref (Ω.2.1 + j)), some (.int (nI m)), some (.int (nI c + (-1))), z] [] (sm_uf X j u) (sm_rf w) := by
        intro c
        induction c with
        | zero =>
          intro u z hc hu hq
          refine sg_il (pc := 69) C d_G_interpolate_69 rfl ?_
          refine sr_iflt (pc := 71) (tgt := 119) C d_G_interpolate_71 (by decide) (fun h71 => ?_) (fun h71 => absurd (by decide) h71)
          exact sg_vret (pc := 119) C I rfl d_G_interpolate_119 ⟨rfl, by rw [← hq]; rfl, rfl⟩
        | succ c ih3 =>
          intro u z hc hu hq
          rw [sn_m1]
          refine sg_il (pc := 69) C d_G_interpolate_69 rfl ?_
          refine sr_iflt (pc := 71) (tgt := 119) C d_G_interpolate_71 (by decide) (fun h71 => absurd h71 (nI_pos (by omega))) (fun h71 => ?_)
          refine sg_il (pc := 74) C d_G_interpolate_74 rfl ?_
          refine sg_is5 (pc := 76) C d_G_interpolate_76 ?_
          have loop4 : ∀ r k, k + r + 1 = m → c ≤ k → sm_G Γ Ω 723 0 0 78 [some (.ref (Ω.2.1 + 1)), some (.ref (Ω.2.1 + i)), some (.ref (Ω.2.1 + j)), some (.int (nI m)), some (.int (nI c)), some (.int (nI k))] [] (sm_uf X j (ip_g (X i) c k u)) (sm_rf w) := by
            intro r
            induction r with
            | zero =>
              intro k hk hck
              refine sg_il (pc := 78) C d_G_interpolate_78 rfl ?_
              refine sg_iln (pc := 80) C d_G_interpolate_80 rfl ?_
              refine sg_ic (pc := 81) (v := 1) C d_G_interpolate_81 (by decide) ?_
              refine sg_sub (pc := 82) C d_G_interpolate_82 (by omega) ?_
              refine sg_icge (pc := 83) (tgt := 113) C d_G_interpolate_83 (by decide) (by omega) (by omega) (fun h83 => ?_) (fun h83 => absurd h83 (by omega))
              refine sg_dec4 (pc := 113) C d_G_interpolate_113 ?_
              refine sg_goto (pc := 116) (tgt := 69) C d_G_interpolate_116 (by decide) ?_
              rw [ip_g_end (m := m) (by omega)]
              exact ih3 _ _ (by omega) (gf_p2_lt hu) hq
            | succ r ih4 =>
              intro k hk hck
              have g1 := hu k (by omega)
              have g2 := hu (k + 1) (by omega)
              have g3 := hp c (by omega)
              refine sg_il (pc := 78) C d_G_interpolate_78 rfl ?_
              refine sg_iln (pc := 80) C d_G_interpolate_80 rfl ?_
              refine sg_ic (pc := 81) (v := 1) C d_G_interpolate_81 (by decide) ?_
              refine sg_sub (pc := 82) C d_G_interpolate_82 (by omega) ?_
              refine sg_icge (pc := 83) (tgt := 113) C d_G_interpolate_83 (by decide) (by omega) (by omega) (fun h83 => absurd h83 (by omega)) (fun h83 => ?_)
              refine sg_aln (pc := 86) C d_G_interpolate_86 rfl ?_
              refine sg_il (pc := 87) C d_G_interpolate_87 rfl ?_
              refine sg_dup2 (pc := 89) C d_G_interpolate_89 rfl rfl ?_
              refine sg_iald (pc := 90) (n := nj) C hj hsj (by omega) hnj d_G_interpolate_90 ?_
              refine sg_aln (pc := 91) C d_G_interpolate_91 rfl ?_
              refine sg_aln (pc := 92) C d_G_interpolate_92 rfl ?_
              refine sg_il (pc := 93) C d_G_interpolate_93 rfl ?_
              refine sg_ic (pc := 95) (v := 1) C d_G_interpolate_95 (by decide) ?_
              refine sg_add (pc := 96) C d_G_interpolate_96 ?_
              refine sg_iald (pc := 97) (n := nj) C hj hsj (by omega) hnj d_G_interpolate_97 ?_
              refine sg_aln (pc := 98) C d_G_interpolate_98 rfl ?_
              refine sg_il (pc := 99) C d_G_interpolate_99 rfl ?_
              refine sg_iald (pc := 101) (n := ni) C hi hsi (by omega) hni d_G_interpolate_101 ?_
              rw [show sm_uf X j (ip_g (X i) c k u) j k = u k from sm_uf_s.trans (ip_g_n (by omega)), show sm_uf X j (ip_g (X i) c k u) j (k + 1) = u (k + 1) from sm_uf_s.trans (ip_g_n (by omega)), show sm_uf X j (ip_g (X i) c k u) i c = X i c from sm_uf_o hij]
              refine sm_callV (pc := 102) (As := [.int (nI (u (k + 1))), .int (nI (X i c))]) C I (c_G_times l Ω (a := u (k + 1)) (b := X i c) (gal_uf hG h2 h3) g2 g3) cw_G_18 iw_G_times (C.1.2.2.2.2 _ (List.mem_cons_of_mem _ se_G_times)) (by omega) rfl rfl rfl rfl (by decide) ⟨by decide, by decide⟩ rfl (Nat.le_of_ble_eq_true rfl) d_G_interpolate_102 (sm_det_i ?_)
              refine sg_xor (pc := 105) C d_G_interpolate_105 ?_
              refine sg_iast (pc := 106) (n := nj) C hj hsj (by omega) hnj d_G_interpolate_106 ?_
              rw [sm_uf_up, ip_g_step hck]
              refine sg_inc5 (pc := 107) (n := 1) C d_G_interpolate_107 (by decide) ?_
              refine sg_goto (pc := 110) (tgt := 78) C d_G_interpolate_110 (by decide) ?_
              exact ih4 (k + 1) (by omega) (by omega)
          have h0 := loop4 (m - 1 - c) c (by omega) (Nat.le_refl c)
          rw [ip_g_0] at h0
          exact h0
      have h0 := loop3 (m - 1) (gf_q1 m (X i) (m - 1) (X j)) z (by omega) (gf_q1_lt hv (m - 1)) rfl
      rw [show nI (m - 1) + (-1) = nI (m - 2) by rw [show m - 1 = m - 2 + 1 by omega]; exact sn_m1 _] at h0
      have hs0 : s0 = m - 1 := by omega
      subst hs0
      exact h0
    | succ t ih1 =>
      intro s0 z ht
      refine sg_il (pc := 3) C d_G_interpolate_3 rfl ?_
      refine sg_iln (pc := 5) C d_G_interpolate_5 rfl ?_
      refine sg_icge (pc := 6) (tgt := 64) C d_G_interpolate_6 (by decide) (by omega) (by omega) (fun h6 => absurd h6 (by omega)) (fun h6 => ?_)
      refine sg_iln (pc := 9) C d_G_interpolate_9 rfl ?_
      refine sg_ic (pc := 10) (v := 1) C d_G_interpolate_10 (by decide) ?_
      refine sg_sub (pc := 11) C d_G_interpolate_11 (by omega) ?_
      refine sg_is5 (pc := 12) C d_G_interpolate_12 ?_
      have loop2 : ∀ r, s0 + r + 1 ≤ m → sm_G Γ Ω 723 0 0 14 [some (.ref (Ω.2.1 + 1)), some (.ref (Ω.2.1 + i)), some (.ref (Ω.2.1 + j)), some (.int (nI m)), some (.int (nI (s0 + 1))), some (.int (nI (s0 + r)))] [] (sm_uf X j (ip_f m (X i) s0 r (gf_q1 m (X i) s0 (X j)))) (sm_rf w) := by
        intro r
        induction r with
        | zero =>
          intro hr
          refine sg_il (pc := 14) C d_G_interpolate_14 rfl ?_
          refine sg_il (pc := 16) C d_G_interpolate_16 rfl ?_
          refine sg_iclt (pc := 18) (tgt := 58) C d_G_interpolate_18 (by decide) (by omega) (by omega) (fun h18 => ?_) (fun h18 => absurd h18 (by omega))
          refine sg_inc4 (pc := 58) (n := 1) C d_G_interpolate_58 (by decide) ?_
          refine sg_goto (pc := 61) (tgt := 3) C d_G_interpolate_61 (by decide) ?_
          rw [ip_f_0]
          exact ih1 (s0 + 1) _ (by omega)
        | succ r ih2 =>
          intro hr
          have g1 := gf_q1_lt (P := X i) hv s0 (s0 + (r + 1)) (by omega)
          have g2 := gf_q1_lt (P := X i) hv s0 (s0 + (r + 1) - 1) (by omega)
          have g3 := hp (s0 + (r + 1)) (by omega)
          have g4 := hp (s0 + (r + 1) - (s0 + 1)) (by omega)
          refine sg_il (pc := 14) C d_G_interpolate_14 rfl ?_
          refine sg_il (pc := 16) C d_G_interpolate_16 rfl ?_
          refine sg_iclt (pc := 18) (tgt := 58) C d_G_interpolate_18 (by decide) (by omega) (by omega) (fun h18 => absurd h18 (by omega)) (fun h18 => ?_)
          refine sg_aln (pc := 21) C d_G_interpolate_21 rfl ?_
          refine sg_il (pc := 22) C d_G_interpolate_22 rfl ?_
          refine sg_aln (pc := 24) C d_G_interpolate_24 rfl ?_
          refine sg_aln (pc := 25) C d_G_interpolate_25 rfl ?_
          refine sg_il (pc := 26) C d_G_interpolate_26 rfl ?_
          refine sg_iald (pc := 28) (n := nj) C hj hsj (by omega) hnj d_G_interpolate_28 ?_
          refine sg_aln (pc := 29) C d_G_interpolate_29 rfl ?_
          refine sg_il (pc := 30) C d_G_interpolate_30 rfl ?_
          refine sg_ic (pc := 32) (v := 1) C d_G_interpolate_32 (by decide) ?_
          refine sg_sub (pc := 33) C d_G_interpolate_33 (by omega) ?_
          refine sg_iald (pc := 34) (n := nj) C hj hsj (by omega) hnj d_G_interpolate_34 ?_
          refine sg_xor (pc := 35) C d_G_interpolate_35 ?_
          refine sg_aln (pc := 36) C d_G_interpolate_36 rfl ?_
          refine sg_il (pc := 37) C d_G_interpolate_37 rfl ?_
          refine sg_iald (pc := 39) (n := ni) C hi hsi (by omega) hni d_G_interpolate_39 ?_
          refine sg_aln (pc := 40) C d_G_interpolate_40 rfl ?_
          refine sg_il (pc := 41) C d_G_interpolate_41 rfl ?_
          refine sg_il (pc := 43) C d_G_interpolate_43 rfl ?_
          refine sg_sub (pc := 45) C d_G_interpolate_45 (by omega) ?_
          refine sg_iald (pc := 46) (n := ni) C hi hsi (by omega) hni d_G_interpolate_46 ?_
          refine sg_xor (pc := 47) C d_G_interpolate_47 ?_
          rw [show sm_uf X j (ip_f m (X i) s0 (r + 1) (gf_q1 m (X i) s0 (X j))) j (s0 + (r + 1)) = (gf_q1 m (X i) s0 (X j)) (s0 + (r + 1)) from sm_uf_s.trans (ip_f_n (by omega)), show sm_uf X j (ip_f m (X i) s0 (r + 1) (gf_q1 m (X i) s0 (X j))) j (s0 + (r + 1) - 1) = (gf_q1 m (X i) s0 (X j)) ((s0 + (r + 1)) - 1) from sm_uf_s.trans (ip_f_n (by omega)), show sm_uf X j (ip_f m (X i) s0 (r + 1) (gf_q1 m (X i) s0 (X j))) i (s0 + (r + 1)) = X i (s0 + (r + 1)) from sm_uf_o hij, show sm_uf X j (ip_f m (X i) s0 (r + 1) (gf_q1 m (X i) s0 (X j))) i ((s0 + (r + 1)) - (s0 + 1)) = X i ((s0 + (r + 1)) - (s0 + 1)) from sm_uf_o hij]
          refine sm_callV (pc := 48) (As := [.int (nI ((gf_q1 m (X i) s0 (X j)) (s0 + (r + 1)) ^^^ (gf_q1 m (X i) s0 (X j)) ((s0 + (r + 1)) - 1))), .int (nI (X i (s0 + (r + 1)) ^^^ X i ((s0 + (r + 1)) - (s0 + 1))))]) C I (c_G_over l Ω (a := X i (s0 + (r + 1)) ^^^ X i ((s0 + (r + 1)) - (s0 + 1))) (b := (gf_q1 m (X i) s0 (X j)) (s0 + (r + 1)) ^^^ (gf_q1 m (X i) s0 (X j)) ((s0 + (r + 1)) - 1)) (gal_uf hG h2 h3) (gf_xor_lt g3 g4) (gf_xor_lt g1 g2)) cw_G_22 iw_G_over (C.1.2.2.2.2 _ (List.mem_cons_of_mem _ se_G_over)) (by omega) rfl rfl rfl rfl (by decide) ⟨by decide, by decide⟩ rfl (Nat.le_of_ble_eq_true rfl) d_G_interpolate_48 (sm_det_i ?_)
          refine sg_iast (pc := 51) (n := nj) C hj hsj (by omega) hnj d_G_interpolate_51 ?_
          rw [sm_uf_up, ip_f_step (by omega)]
          refine sg_dec5 (pc := 52) C d_G_interpolate_52 ?_
          refine sg_goto (pc := 55) (tgt := 14) C d_G_interpolate_55 (by decide) ?_
          rw [show s0 + (r + 1) = s0 + r + 1 by omega, sn_m1]
          exact ih2 (by omega)
      have h0 := loop2 (m - 1 - s0) (by omega)
      rw [show s0 + (m - 1 - s0) = m - 1 by omega, ip_f_all (by omega)] at h0
      exact h0
  have h0 := loop1 (m - 1) 0 none (by omega)
  rw [show gf_q1 m (X i) 0 (X j) = X j from rfl, sm_uf_self] at h0
  exact h0
end
section
/-! The small classes: Item, Share, Team, Node -/
theorem gs_M_24 : Cond.fieldLink RX2 24 sm_RM "ROW_OF" "[I" ∈ sm_ws := sm_inT 346 (by decide +kernel) (by decide +kernel)
theorem gs_M_27 : Cond.fieldLink RX2 27 sm_RM "COLUMN_OF" "[I" ∈ sm_ws := sm_inT 348 (by decide +kernel) (by decide +kernel)
theorem nw_code : Cond.code y_S_stripesOf b_S_stripesOf 1 (some .int) ∈ sm_ws := sm_inT 345 (by decide +kernel) (by decide +kernel)
theorem nw_init : Cond.initialized RX6 ∈ sm_ws := sm_inT 1 (by decide +kernel) (by decide +kernel)
set_option maxHeartbeats 4000000 in
set_option maxRecDepth 100000 in
theorem c_I_begin (l : Launch) (Ω : sm_Ω) {X : sm_X} {w : Nat → Nat → Nat} {c : Nat} (hi : c < 723) (hs : sm_sh c = .inl (1, [false, false, false, false, false])) {n : Nat} : sm_met l Ω y_I_begin b_I_begin 2 none 1 723 [.ref (Ω.2.1 + c), .int (nI n)] X (sm_rf w) (sm_det none (sm_up (sm_up (sm_up X c 2 (X c 2 + 1)) c 3 n) c 4 1) (sm_rf w)) := by
  refine sm_intro (own := RX1) (L := [some (.ref (Ω.2.1 + c)), some (.int (nI n))]) (by decide) rfl (by simp [Value.category]) (Nat.le_of_ble_eq_true rfl) rfl ?_
  intro Γ C I
  refine sg_aln (pc := 0) C d_I_begin_0 rfl ?_
  refine sg_dup (pc := 1) C d_I_begin_1 rfl ?_
  refine sg_geti (pc := 2) C fw_I_16 hi hs rfl d_I_begin_2 ?_
  refine sg_ic (pc := 5) (v := 1) C d_I_begin_5 (by decide) ?_
  refine sg_add (pc := 6) C d_I_begin_6 ?_
  refine sg_puti (pc := 7) C pw_I_16 hi hs rfl rfl rfl d_I_begin_7 ?_
  refine sg_aln (pc := 10) C d_I_begin_10 rfl ?_
  refine sg_iln (pc := 11) C d_I_begin_11 rfl ?_
  refine sg_puti (pc := 12) C pw_I_19 hi hs rfl rfl rfl d_I_begin_12 ?_
  refine sg_aln (pc := 15) C d_I_begin_15 rfl ?_
  refine sg_ic (pc := 16) (v := 1) C d_I_begin_16 (by decide) ?_
  refine sg_puti (pc := 17) C pw_I_22 hi hs rfl (sn_b (by omega)) (sn_bf (by omega)) d_I_begin_17 ?_
  exact sg_vret (pc := 20) C I rfl d_I_begin_20 ⟨rfl, rfl, rfl⟩

set_option maxHeartbeats 4000000 in
set_option maxRecDepth 100000 in
theorem c_I_finish0 (l : Launch) (Ω : sm_Ω) {X : sm_X} {w : Nat → Nat → Nat} {c : Nat} (hi : c < 723) (hs : sm_sh c = .inl (1, [false, false, false, false, false])) : sm_met l Ω y_I_finish b_I_finish 2 none 1 723 [.ref (Ω.2.1 + c), .int (nI 0)] X (sm_rf w) (sm_det none (sm_up X c 4 0) (sm_rf w)) := by
  refine sm_intro (own := RX1) (L := [some (.ref (Ω.2.1 + c)), some (.int (nI 0))]) (by decide) rfl (by simp [Value.category]) (Nat.le_of_ble_eq_true rfl) rfl ?_
  intro Γ C I
  refine sg_iln (pc := 0) C d_I_finish_0 rfl ?_
  refine sg_ifeq (pc := 1) (tgt := 20) C d_I_finish_1 (by decide) (by omega) (fun h1 => ?_) (fun h1 => absurd rfl h1)
  refine sg_aln (pc := 20) C d_I_finish_20 rfl ?_
  refine sg_ic (pc := 21) (v := 0) C d_I_finish_21 (by decide) ?_
  refine sg_puti (pc := 22) C pw_I_22 hi hs rfl (sn_b (by omega)) (sn_bf (by omega)) d_I_finish_22 ?_
  exact sg_vret (pc := 25) C I rfl d_I_finish_25 ⟨rfl, rfl, rfl⟩

set_option maxHeartbeats 4000000 in
set_option maxRecDepth 100000 in
theorem c_I_finish1 (l : Launch) (Ω : sm_Ω) {X : sm_X} {w : Nat → Nat → Nat} {c : Nat} (hi : c < 723) (hs : sm_sh c = .inl (1, [false, false, false, false, false])) : sm_met l Ω y_I_finish b_I_finish 2 none 1 723 [.ref (Ω.2.1 + c), .int (nI 1)] X (sm_rf w) (sm_det none (sm_up (sm_up (sm_up X c 0 (X c 2)) c 1 (X c 3)) c 4 0) (sm_rf w)) := by
  refine sm_intro (own := RX1) (L := [some (.ref (Ω.2.1 + c)), some (.int (nI 1))]) (by decide) rfl (by simp [Value.category]) (Nat.le_of_ble_eq_true rfl) rfl ?_
  intro Γ C I
  refine sg_iln (pc := 0) C d_I_finish_0 rfl ?_
  refine sg_ifeq (pc := 1) (tgt := 20) C d_I_finish_1 (by decide) (by omega) (fun h1 => absurd h1 (by decide)) (fun h1 => ?_)
  refine sg_aln (pc := 4) C d_I_finish_4 rfl ?_
  refine sg_aln (pc := 5) C d_I_finish_5 rfl ?_
  refine sg_geti (pc := 6) C fw_I_16 hi hs rfl d_I_finish_6 ?_
  refine sg_puti (pc := 9) C pw_I_7 hi hs rfl rfl rfl d_I_finish_9 ?_
  refine sg_aln (pc := 12) C d_I_finish_12 rfl ?_
  refine sg_aln (pc := 13) C d_I_finish_13 rfl ?_
  refine sg_geti (pc := 14) C fw_I_19 hi hs rfl d_I_finish_14 ?_
  rw [sm_up_x (Or.inr (by decide))]
  refine sg_puti (pc := 17) C pw_I_13 hi hs rfl rfl rfl d_I_finish_17 ?_
  refine sg_aln (pc := 20) C d_I_finish_20 rfl ?_
  refine sg_ic (pc := 21) (v := 0) C d_I_finish_21 (by decide) ?_
  refine sg_puti (pc := 22) C pw_I_22 hi hs rfl (sn_b (by omega)) (sn_bf (by omega)) d_I_finish_22 ?_
  exact sg_vret (pc := 25) C I rfl d_I_finish_25 ⟨rfl, rfl, rfl⟩

set_option maxHeartbeats 4000000 in
set_option maxRecDepth 100000 in
theorem c_H_become (l : Launch) (Ω : sm_Ω) {X : sm_X} {w : Nat → Nat → Nat} {c : Nat} (hi : c < 723) (hs : sm_sh c = .inl (4, [false, false, true])) {v n : Nat} : sm_met l Ω y_H_become b_H_become 3 none 1 723 [.ref (Ω.2.1 + c), .int (nI v), .int (nI n)] X (sm_rf w) (sm_det none (sm_up (sm_up X c 0 v) c 1 n) (sm_rf w)) := by
  refine sm_intro (own := RX4) (L := [some (.ref (Ω.2.1 + c)), some (.int (nI v)), some (.int (nI n))]) (by decide) rfl (by simp [Value.category]) (Nat.le_of_ble_eq_true rfl) rfl ?_
  intro Γ C I
  refine sg_aln (pc := 0) C d_H_become_0 rfl ?_
  refine sg_iln (pc := 1) C d_H_become_1 rfl ?_
  refine sg_puti (pc := 2) C pw_H_9 hi hs rfl rfl rfl d_H_become_2 ?_
  refine sg_aln (pc := 5) C d_H_become_5 rfl ?_
  refine sg_iln (pc := 6) C d_H_become_6 rfl ?_
  refine sg_puti (pc := 7) C pw_H_15 hi hs rfl rfl rfl d_H_become_7 ?_
  exact sg_vret (pc := 10) C I rfl d_H_become_10 ⟨rfl, rfl, rfl⟩

set_option maxHeartbeats 4000000 in
set_option maxRecDepth 100000 in
theorem c_T_clear (l : Launch) (Ω : sm_Ω) {X : sm_X} {w : Nat → Nat → Nat} : sm_met l Ω y_T_clear b_T_clear 1 none 1 723 [.ref (Ω.2.1 + 73)] X (sm_rf w) (sm_det none (sm_up X 73 2 0) (sm_rf w)) := by
  refine sm_intro (own := RX5) (L := [some (.ref (Ω.2.1 + 73))]) (by decide) rfl (by simp [Value.category]) (Nat.le_of_ble_eq_true rfl) rfl ?_
  intro Γ C I
  refine sg_aln (pc := 0) C d_T_clear_0 rfl ?_
  refine sg_ic (pc := 1) (v := 0) C d_T_clear_1 (by decide) ?_
  refine sg_puti (pc := 2) C pw_T_18 (by omega) rfl rfl rfl rfl d_T_clear_2 ?_
  exact sg_vret (pc := 5) C I rfl d_T_clear_5 ⟨rfl, rfl, rfl⟩

set_option maxHeartbeats 4000000 in
set_option maxRecDepth 100000 in
theorem c_T_add (l : Launch) (Ω : sm_Ω) {X : sm_X} {w : Nat → Nat → Nat} {k : Nat} (h8 : X 73 2 < 8) : sm_met l Ω y_T_add b_T_add 2 none 1 723 [.ref (Ω.2.1 + 73), .int (nI k)] X (sm_rf w) (sm_det none (sm_up (sm_up (sm_up X 74 (X 73 2) k) 75 (X 73 2) (k + 1)) 73 2 (X 73 2 + 1)) (sm_rf w)) := by
  refine sm_intro (own := RX5) (L := [some (.ref (Ω.2.1 + 73)), some (.int (nI k))]) (by decide) rfl (by simp [Value.category]) (Nat.le_of_ble_eq_true rfl) rfl ?_
  intro Γ C I
  refine sg_aln (pc := 0) C d_T_add_0 rfl ?_
  refine sg_geti (pc := 1) C fw_T_18 (by omega) rfl rfl d_T_add_1 ?_
  refine sg_bi (pc := 4) (v := 8) C d_T_add_4 (by decide) ?_
  refine sg_icge (pc := 6) (tgt := 41) C d_T_add_6 (by decide) (by omega) (by omega) (fun h6 => absurd h6 (by omega)) (fun h6 => ?_)
  refine sg_aln (pc := 9) C d_T_add_9 rfl ?_
  refine sg_getr (pc := 10) C fw_T_9 (by omega) rfl rfl rfl d_T_add_10 ?_
  refine sg_aln (pc := 13) C d_T_add_13 rfl ?_
  refine sg_geti (pc := 14) C fw_T_18 (by omega) rfl rfl d_T_add_14 ?_
  refine sg_iln (pc := 17) C d_T_add_17 rfl ?_
  refine sg_iast (pc := 18) (n := 8) C (by omega) rfl (by omega) (by decide) d_T_add_18 ?_
  refine sg_aln (pc := 19) C d_T_add_19 rfl ?_
  refine sg_getr (pc := 20) C fw_T_15 (by omega) rfl rfl rfl d_T_add_20 ?_
  refine sg_aln (pc := 23) C d_T_add_23 rfl ?_
  refine sg_geti (pc := 24) C fw_T_18 (by omega) rfl rfl d_T_add_24 ?_
  rw [sm_up_x (Or.inl (by decide))]
  refine sg_iln (pc := 27) C d_T_add_27 rfl ?_
  refine sg_ic (pc := 28) (v := 1) C d_T_add_28 (by decide) ?_
  refine sg_add (pc := 29) C d_T_add_29 ?_
  refine sg_iast (pc := 30) (n := 8) C (by omega) rfl (by omega) (by decide) d_T_add_30 ?_
  refine sg_aln (pc := 31) C d_T_add_31 rfl ?_
  refine sg_dup (pc := 32) C d_T_add_32 rfl ?_
  refine sg_geti (pc := 33) C fw_T_18 (by omega) rfl rfl d_T_add_33 ?_
  rw [sm_up_x (Or.inl (by decide)), sm_up_x (Or.inl (by decide))]
  refine sg_ic (pc := 36) (v := 1) C d_T_add_36 (by decide) ?_
  refine sg_add (pc := 37) C d_T_add_37 ?_
  refine sg_puti (pc := 38) C pw_T_18 (by omega) rfl rfl rfl rfl d_T_add_38 ?_
  exact sg_vret (pc := 41) C I rfl d_T_add_41 ⟨rfl, rfl, rfl⟩

def tw (w : Nat → Nat → Nat) (n o : Nat) : Nat → Nat → Nat := fun a b => if a = n ∧ b = o then 1 - w n o else w a b
theorem tw_s {w : Nat → Nat → Nat} {n o : Nat} : tw w n o n o = 1 - w n o := if_pos ⟨rfl, rfl⟩
theorem tw_n {w : Nat → Nat → Nat} {n o a b : Nat} (h : a ≠ n ∨ b ≠ o) : tw w n o a b = w a b := if_neg (fun q => h.elim (fun z => z q.1) (fun z => z q.2))
theorem rf_turn {w : Nat → Nat → Nat} {n o : Nat} (hn : n < 12) (ho : o < 12) (hw : w n o < 2) : sm_ur (sm_ur (sm_rf w) (80 + 51 * n) o (some (82 + 51 * n + 4 * o + 2 * (1 - w n o)))) (81 + 51 * n) o (some (82 + 51 * n + 4 * o + 2 * w n o)) = sm_rf (tw w n o) := by
  funext i j
  by_cases h1 : i = 81 + 51 * n ∧ j = o
  · obtain ⟨rfl, rfl⟩ := h1
    rw [sm_ur_s, rf_Nh hn ho, tw_s]
    congr 1
    omega
  by_cases h2 : i = 80 + 51 * n ∧ j = o
  · obtain ⟨rfl, rfl⟩ := h2
    rw [sm_ur_o (by omega), sm_ur_s, rf_Ns hn ho, tw_s]
  · have e : sm_ur (sm_ur (sm_rf w) (80 + 51 * n) o (some (82 + 51 * n + 4 * o + 2 * (1 - w n o)))) (81 + 51 * n) o (some (82 + 51 * n + 4 * o + 2 * w n o)) i j = sm_rf w i j := (if_neg h1).trans (if_neg h2)
    rw [e]
    unfold sm_rf
    by_cases h3 : i < 6
    · rw [if_pos h3, if_pos h3]
    rw [if_neg h3, if_neg h3]
    by_cases h4 : i < 79
    · rw [if_pos h4, if_pos h4]
    rw [if_neg h4, if_neg h4]
    by_cases h5 : i < 691
    · rw [if_pos h5, if_pos h5]
      by_cases h6 : (i - 79) % 51 = 0
      · rw [if_pos h6, if_pos h6]
      rw [if_neg h6, if_neg h6]
      by_cases h7 : (i - 79) % 51 = 1
      · rw [if_pos h7, if_pos h7, tw_n (by omega)]
      rw [if_neg h7, if_neg h7]
      by_cases h8 : (i - 79) % 51 = 2
      · rw [if_pos h8, if_pos h8, tw_n (by omega)]
      rw [if_neg h8, if_neg h8]
    · rw [if_neg h5, if_neg h5]

set_option maxHeartbeats 4000000 in
set_option maxRecDepth 100000 in
theorem c_N_turnShadow (l : Launch) (Ω : sm_Ω) {X : sm_X} {w : Nat → Nat → Nat} (hw : ∀ n o, w n o < 2) {n : Nat} (hn : n < 12) {o : Nat} (ho : o < 12) : sm_met l Ω y_N_turnShadow b_N_turnShadow 3 none 2 723 [.ref (Ω.2.1 + (79 + 51 * n)), .int (nI o)] X (sm_rf w) (sm_det none (sm_up (sm_up X (82 + 51 * n + 4 * o + 2 * w n o) 0 0) (82 + 51 * n + 4 * o + 2 * w n o) 1 0) (sm_rf (tw w n o))) := by
  refine sm_intro (own := RX3) (L := [some (.ref (Ω.2.1 + (79 + 51 * n))), some (.int (nI o)), none]) (by decide) rfl (by simp [Value.category]) (Nat.le_of_ble_eq_true rfl) rfl ?_
  intro Γ C I
  refine sg_aln (pc := 0) C d_N_turnShadow_0 rfl ?_
  refine sg_getr (pc := 1) C fw_N_11 (by omega) (sh_N (by omega)) rfl (rf_N1 (by omega)) d_N_turnShadow_1 ?_
  refine sg_iln (pc := 4) C d_N_turnShadow_4 rfl ?_
  refine sg_aald (pc := 5) (n := 12) (t := 6) C (by omega) (sh_Ns (by omega)) (by decide) rfl rfl (by omega) (by decide) (rf_Ns (by omega) (by omega)) d_N_turnShadow_5 ?_
  refine sg_as2 (pc := 6) C d_N_turnShadow_6 ?_
  refine sg_aln (pc := 7) C d_N_turnShadow_7 rfl ?_
  refine sg_getr (pc := 8) C fw_N_11 (by omega) (sh_N (by omega)) rfl (rf_N1 (by omega)) d_N_turnShadow_8 ?_
  refine sg_iln (pc := 11) C d_N_turnShadow_11 rfl ?_
  refine sg_aln (pc := 12) C d_N_turnShadow_12 rfl ?_
  refine sg_getr (pc := 13) C fw_N_17 (by omega) (sh_N (by omega)) rfl (rf_N2 (by omega)) d_N_turnShadow_13 ?_
  refine sg_iln (pc := 16) C d_N_turnShadow_16 rfl ?_
  refine sg_aald (pc := 17) (n := 12) (t := 6) C (by omega) (sh_Nh (by omega)) (by decide) rfl rfl (by omega) (by decide) (rf_Nh (by omega) (by omega)) d_N_turnShadow_17 ?_
  refine sg_aast (pc := 18) (n := 12) (t := 6) C (by omega) (sh_Ns (by omega)) (by decide) rfl (by omega) (sh_S (by omega) (by omega) (by omega)) rfl (by omega) (by decide) d_N_turnShadow_18 ?_
  refine sg_aln (pc := 19) C d_N_turnShadow_19 rfl ?_
  refine sg_getr (pc := 20) C fw_N_17 (by omega) (sh_N (by omega)) rfl (by rw [sm_ur_o (by omega)]; exact rf_N2 (by omega)) d_N_turnShadow_20 ?_
  refine sg_iln (pc := 23) C d_N_turnShadow_23 rfl ?_
  refine sg_aln (pc := 24) C d_N_turnShadow_24 rfl ?_
  refine sg_aast (pc := 25) (n := 12) (t := 6) C (by have := hw n o; omega) (sh_Nh (by omega)) (by decide) rfl (by have := hw n o; omega) (sh_S (by omega) (by omega) (hw _ _)) rfl (by omega) (by decide) d_N_turnShadow_25 ?_
  refine sg_aln (pc := 26) C d_N_turnShadow_26 rfl ?_
  refine sg_ic (pc := 27) (v := 0) C d_N_turnShadow_27 (by decide) ?_
  refine sg_ic (pc := 28) (v := 0) C d_N_turnShadow_28 (by decide) ?_
  rw [rf_turn hn ho (hw n o)]
  refine sm_callV (pc := 29) (As := [.int (nI 0), .int (nI 0)]) C I (c_H_become l Ω (by have := hw n o; omega) (sh_S hn ho (hw n o))) cw_N_32 iw_H_become (C.1.2.2.2.2 _ (List.mem_cons_of_mem _ se_H_become)) (by have := hw n o; omega) (sh_S (by omega) (by omega) (hw _ _)) rfl rfl rfl (by decide) ⟨by decide, by decide⟩ rfl (Nat.le_of_ble_eq_true rfl) d_N_turnShadow_29 (sm_det_v ?_)
  exact sg_vret (pc := 32) C I rfl d_N_turnShadow_32 ⟨rfl, rfl, rfl⟩

def nb (X : sm_X) (w : Nat → Nat → Nat) (n e : Nat) : Nat → sm_X
  | 0 => sm_up X (79 + 51 * n) 3 1
  | k + 1 => if e = 0 then sm_up (sm_up (nb X w n e k) (82 + 51 * n + 4 * k + 2 * (1 - w n k)) 0 0) (82 + 51 * n + 4 * k + 2 * (1 - w n k)) 1 0
    else sm_up (sm_up (sm_up (sm_up (nb X w n e k) (82 + 51 * n + 4 * k + 2 * (1 - w n k)) 0 0) (82 + 51 * n + 4 * k + 2 * (1 - w n k)) 1 0) (82 + 51 * n + 4 * k + 2 * w n k) 0 0) (82 + 51 * n + 4 * k + 2 * w n k) 1 0

set_option maxHeartbeats 4000000 in
set_option maxRecDepth 100000 in
theorem c_N_comeBack0 (l : Launch) (Ω : sm_Ω) {X : sm_X} {w : Nat → Nat → Nat} (hw : ∀ n o, w n o < 2) {n : Nat} (hn : n < 12) : sm_met l Ω y_N_comeBack b_N_comeBack 3 none 2 723 [.ref (Ω.2.1 + (79 + 51 * n)), .int (nI 0)] X (sm_rf w) (sm_det none (nb X w n 0 12) (sm_rf w)) := by
  refine sm_intro (own := RX3) (L := [some (.ref (Ω.2.1 + (79 + 51 * n))), some (.int (nI 0)), none]) (by decide) rfl (by simp [Value.category]) (Nat.le_of_ble_eq_true rfl) rfl ?_
  intro Γ C I
  refine sg_aln (pc := 0) C d_N_comeBack_0 rfl ?_
  refine sg_ic (pc := 1) (v := 1) C d_N_comeBack_1 (by decide) ?_
  refine sg_puti (pc := 2) C pw_N_20 (by omega) (sh_N (by omega)) rfl (sn_b (by omega)) (sn_bf (by omega)) d_N_comeBack_2 ?_
  refine sg_ic (pc := 5) (v := 0) C d_N_comeBack_5 (by decide) ?_
  refine sg_is2 (pc := 6) C d_N_comeBack_6 ?_
  have loop : ∀ t k, k + t = 12 → sm_G Γ Ω 723 0 0 7 [some (.ref (Ω.2.1 + (79 + 51 * n))), some (.int (nI 0)), some (.int (nI k))] [] (nb X w n 0 k) (sm_rf w) := by
    intro t
    induction t with
    | zero =>
      intro k hk
      refine sg_iln (pc := 7) C d_N_comeBack_7 rfl ?_
      refine sg_bi (pc := 8) (v := 12) C d_N_comeBack_8 (by decide) ?_
      refine sg_icge (pc := 10) (tgt := 45) C d_N_comeBack_10 (by decide) (by omega) (by omega) (fun h10 => ?_) (fun h10 => absurd h10 (by omega))
      exact sg_vret (pc := 45) C I rfl d_N_comeBack_45 ⟨rfl, by rw [show k = 12 by omega], rfl⟩
    | succ t ih =>
      intro k hk
      have hwk := hw n k
      refine sg_iln (pc := 7) C d_N_comeBack_7 rfl ?_
      refine sg_bi (pc := 8) (v := 12) C d_N_comeBack_8 (by decide) ?_
      refine sg_icge (pc := 10) (tgt := 45) C d_N_comeBack_10 (by decide) (by omega) (by omega) (fun h10 => absurd h10 (by omega)) (fun h10 => ?_)
      refine sg_aln (pc := 13) C d_N_comeBack_13 rfl ?_
      refine sg_getr (pc := 14) C fw_N_17 (by omega) (sh_N (by omega)) rfl (rf_N2 (by omega)) d_N_comeBack_14 ?_
      refine sg_iln (pc := 17) C d_N_comeBack_17 rfl ?_
      refine sg_aald (pc := 18) (n := 12) (t := 6) C (by omega) (sh_Nh (by omega)) (by decide) rfl rfl (by omega) (by decide) (rf_Nh (by omega) (by omega)) d_N_comeBack_18 ?_
      refine sg_ic (pc := 19) (v := 0) C d_N_comeBack_19 (by decide) ?_
      refine sg_ic (pc := 20) (v := 0) C d_N_comeBack_20 (by decide) ?_
      refine sm_callV (pc := 21) (As := [.int (nI 0), .int (nI 0)]) C I (c_H_become l Ω (by omega) (sh_S hn (by omega) (by omega))) cw_N_32 iw_H_become (C.1.2.2.2.2 _ (List.mem_cons_of_mem _ se_H_become)) (by omega) (sh_S (by omega) (by omega) (by omega)) rfl rfl rfl (by decide) ⟨by decide, by decide⟩ rfl (Nat.le_of_ble_eq_true rfl) d_N_comeBack_21 (sm_det_v ?_)
      refine sg_iln (pc := 24) C d_N_comeBack_24 rfl ?_
      refine sg_ifeq (pc := 25) (tgt := 39) C d_N_comeBack_25 (by decide) (by omega) (fun h25 => ?_) (fun h25 => absurd rfl h25)
      refine sg_inc2 (pc := 39) (n := 1) C d_N_comeBack_39 (by decide) ?_
      refine sg_goto (pc := 42) (tgt := 7) C d_N_comeBack_42 (by decide) ?_
      exact ih (k + 1) (by omega)
  exact loop 12 0 (by omega)

set_option maxHeartbeats 4000000 in
set_option maxRecDepth 100000 in
theorem c_N_comeBack1 (l : Launch) (Ω : sm_Ω) {X : sm_X} {w : Nat → Nat → Nat} (hw : ∀ n o, w n o < 2) {n : Nat} (hn : n < 12) : sm_met l Ω y_N_comeBack b_N_comeBack 3 none 2 723 [.ref (Ω.2.1 + (79 + 51 * n)), .int (nI 1)] X (sm_rf w) (sm_det none (nb X w n 1 12) (sm_rf w)) := by
  refine sm_intro (own := RX3) (L := [some (.ref (Ω.2.1 + (79 + 51 * n))), some (.int (nI 1)), none]) (by decide) rfl (by simp [Value.category]) (Nat.le_of_ble_eq_true rfl) rfl ?_
  intro Γ C I
  refine sg_aln (pc := 0) C d_N_comeBack_0 rfl ?_
  refine sg_ic (pc := 1) (v := 1) C d_N_comeBack_1 (by decide) ?_
  refine sg_puti (pc := 2) C pw_N_20 (by omega) (sh_N (by omega)) rfl (sn_b (by omega)) (sn_bf (by omega)) d_N_comeBack_2 ?_
  refine sg_ic (pc := 5) (v := 0) C d_N_comeBack_5 (by decide) ?_
  refine sg_is2 (pc := 6) C d_N_comeBack_6 ?_
  have loop : ∀ t k, k + t = 12 → sm_G Γ Ω 723 0 0 7 [some (.ref (Ω.2.1 + (79 + 51 * n))), some (.int (nI 1)), some (.int (nI k))] [] (nb X w n 1 k) (sm_rf w) := by
    intro t
    induction t with
    | zero =>
      intro k hk
      refine sg_iln (pc := 7) C d_N_comeBack_7 rfl ?_
      refine sg_bi (pc := 8) (v := 12) C d_N_comeBack_8 (by decide) ?_
      refine sg_icge (pc := 10) (tgt := 45) C d_N_comeBack_10 (by decide) (by omega) (by omega) (fun h10 => ?_) (fun h10 => absurd h10 (by omega))
      exact sg_vret (pc := 45) C I rfl d_N_comeBack_45 ⟨rfl, by rw [show k = 12 by omega], rfl⟩
    | succ t ih =>
      intro k hk
      have hwk := hw n k
      refine sg_iln (pc := 7) C d_N_comeBack_7 rfl ?_
      refine sg_bi (pc := 8) (v := 12) C d_N_comeBack_8 (by decide) ?_
      refine sg_icge (pc := 10) (tgt := 45) C d_N_comeBack_10 (by decide) (by omega) (by omega) (fun h10 => absurd h10 (by omega)) (fun h10 => ?_)
      refine sg_aln (pc := 13) C d_N_comeBack_13 rfl ?_
      refine sg_getr (pc := 14) C fw_N_17 (by omega) (sh_N (by omega)) rfl (rf_N2 (by omega)) d_N_comeBack_14 ?_
      refine sg_iln (pc := 17) C d_N_comeBack_17 rfl ?_
      refine sg_aald (pc := 18) (n := 12) (t := 6) C (by omega) (sh_Nh (by omega)) (by decide) rfl rfl (by omega) (by decide) (rf_Nh (by omega) (by omega)) d_N_comeBack_18 ?_
      refine sg_ic (pc := 19) (v := 0) C d_N_comeBack_19 (by decide) ?_
      refine sg_ic (pc := 20) (v := 0) C d_N_comeBack_20 (by decide) ?_
      refine sm_callV (pc := 21) (As := [.int (nI 0), .int (nI 0)]) C I (c_H_become l Ω (by omega) (sh_S hn (by omega) (by omega))) cw_N_32 iw_H_become (C.1.2.2.2.2 _ (List.mem_cons_of_mem _ se_H_become)) (by omega) (sh_S (by omega) (by omega) (by omega)) rfl rfl rfl (by decide) ⟨by decide, by decide⟩ rfl (Nat.le_of_ble_eq_true rfl) d_N_comeBack_21 (sm_det_v ?_)
      refine sg_iln (pc := 24) C d_N_comeBack_24 rfl ?_
      refine sg_ifeq (pc := 25) (tgt := 39) C d_N_comeBack_25 (by decide) (by omega) (fun h25 => absurd h25 (by decide)) (fun h25 => ?_)
      refine sg_aln (pc := 28) C d_N_comeBack_28 rfl ?_
      refine sg_getr (pc := 29) C fw_N_11 (by omega) (sh_N (by omega)) rfl (rf_N1 (by omega)) d_N_comeBack_29 ?_
      refine sg_iln (pc := 32) C d_N_comeBack_32 rfl ?_
      refine sg_aald (pc := 33) (n := 12) (t := 6) C (by omega) (sh_Ns (by omega)) (by decide) rfl rfl (by omega) (by decide) (rf_Ns (by omega) (by omega)) d_N_comeBack_33 ?_
      refine sg_ic (pc := 34) (v := 0) C d_N_comeBack_34 (by decide) ?_
      refine sg_ic (pc := 35) (v := 0) C d_N_comeBack_35 (by decide) ?_
      refine sm_callV (pc := 36) (As := [.int (nI 0), .int (nI 0)]) C I (c_H_become l Ω (by omega) (sh_S hn (by omega) (hw n k))) cw_N_32 iw_H_become (C.1.2.2.2.2 _ (List.mem_cons_of_mem _ se_H_become)) (by omega) (sh_S (by omega) (by omega) (hw _ _)) rfl rfl rfl (by decide) ⟨by decide, by decide⟩ rfl (Nat.le_of_ble_eq_true rfl) d_N_comeBack_36 (sm_det_v ?_)
      refine sg_inc2 (pc := 39) (n := 1) C d_N_comeBack_39 (by decide) ?_
      refine sg_goto (pc := 42) (tgt := 7) C d_N_comeBack_42 (by decide) ?_
      exact ih (k + 1) (by omega)
  exact loop 12 0 (by omega)

set_option maxHeartbeats 4000000 in
set_option maxRecDepth 100000 in
theorem c_N_countShadows (l : Launch) (Ω : sm_Ω) {X : sm_X} {w : Nat → Nat → Nat} (hw : ∀ n o, w n o < 2) {n : Nat} (hn : n < 12) (hb : ∀ k, k < 12 → X (82 + 51 * n + 4 * k + 2 * (1 - w n k)) 0 < 2 ^ 31) : sm_met l Ω y_N_countShadows b_N_countShadows 3 (some .int) 1 723 [.ref (Ω.2.1 + (79 + 51 * n))] X (sm_rf w) (sm_det (some (.int (nI (sm_n (fun k => decide (X (82 + 51 * n + 4 * k + 2 * (1 - w n k)) 0 ≠ 0)) 12)))) X (sm_rf w)) := by
  refine sm_intro (own := RX3) (L := [some (.ref (Ω.2.1 + (79 + 51 * n))), none, none]) (by decide) rfl (by simp [Value.category]) (Nat.le_of_ble_eq_true rfl) rfl ?_
  intro Γ C I
  refine sg_ic (pc := 0) (v := 0) C d_N_countShadows_0 (by decide) ?_
  refine sg_is1 (pc := 1) C d_N_countShadows_1 ?_
  refine sg_ic (pc := 2) (v := 0) C d_N_countShadows_2 (by decide) ?_
  refine sg_is2 (pc := 3) C d_N_countShadows_3 ?_
  have loop : ∀ t k, k + t = 12 → sm_G Γ Ω 723 0 0 4 [some (.ref (Ω.2.1 + (79 + 51 * n))), some (.int (nI (sm_n (fun k => decide (X (82 + 51 * n + 4 * k + 2 * (1 - w n k)) 0 ≠ 0)) k))), some (.int (nI k))] [] X (sm_rf w) := by
    intro t
    induction t with
    | zero =>
      intro k hk
      refine sg_iln (pc := 4) C d_N_countShadows_4 rfl ?_
      refine sg_bi (pc := 5) (v := 12) C d_N_countShadows_5 (by decide) ?_
      refine sg_icge (pc := 7) (tgt := 31) C d_N_countShadows_7 (by decide) (by omega) (by omega) (fun h7 => ?_) (fun h7 => absurd h7 (by omega))
      refine sg_iln (pc := 31) C d_N_countShadows_31 rfl ?_
      exact sg_iret (pc := 32) C I rfl rfl d_N_countShadows_32 ⟨by rw [show k = 12 by omega], rfl, rfl⟩
    | succ t ih =>
      intro k hk
      have hwk := hw n k
      have hbk := hb k (by omega)
      refine sg_iln (pc := 4) C d_N_countShadows_4 rfl ?_
      refine sg_bi (pc := 5) (v := 12) C d_N_countShadows_5 (by decide) ?_
      refine sg_icge (pc := 7) (tgt := 31) C d_N_countShadows_7 (by decide) (by omega) (by omega) (fun h7 => absurd h7 (by omega)) (fun h7 => ?_)
      refine sg_aln (pc := 10) C d_N_countShadows_10 rfl ?_
      refine sg_getr (pc := 11) C fw_N_17 (by omega) (sh_N (by omega)) rfl (rf_N2 (by omega)) d_N_countShadows_11 ?_
      refine sg_iln (pc := 14) C d_N_countShadows_14 rfl ?_
      refine sg_aald (pc := 15) (n := 12) (t := 6) C (by omega) (sh_Nh (by omega)) (by decide) rfl rfl (by omega) (by decide) (rf_Nh (by omega) (by omega)) d_N_countShadows_15 ?_
      refine sg_geti (pc := 16) C fw_N_36 (by omega) (sh_S (by omega) (by omega) (by omega)) rfl d_N_countShadows_16 ?_
      refine sg_ifeq (pc := 19) (tgt := 25) C d_N_countShadows_19 (by decide) (by omega) (fun h19 => ?_) (fun h19 => ?_)
      · refine sg_inc2 (pc := 25) (n := 1) C d_N_countShadows_25 (by decide) ?_
        refine sg_goto (pc := 28) (tgt := 4) C d_N_countShadows_28 (by decide) ?_
        have h := ih (k + 1) (by omega)
        rw [show sm_n (fun k => decide (X (82 + 51 * n + 4 * k + 2 * (1 - w n k)) 0 ≠ 0)) (k + 1) = sm_n (fun k => decide (X (82 + 51 * n + 4 * k + 2 * (1 - w n k)) 0 ≠ 0)) k + (if (fun k => decide (X (82 + 51 * n + 4 * k + 2 * (1 - w n k)) 0 ≠ 0)) k = true then 1 else 0) from rfl] at h
        first | (rw [if_neg (by simpa using h19)] at h; exact h) | (rw [if_pos (by simpa using h19)] at h; exact h)
      · refine sg_inc1 (pc := 22) (n := 1) C d_N_countShadows_22 (by decide) ?_
        refine sg_inc2 (pc := 25) (n := 1) C d_N_countShadows_25 (by decide) ?_
        refine sg_goto (pc := 28) (tgt := 4) C d_N_countShadows_28 (by decide) ?_
        have h := ih (k + 1) (by omega)
        rw [show sm_n (fun k => decide (X (82 + 51 * n + 4 * k + 2 * (1 - w n k)) 0 ≠ 0)) (k + 1) = sm_n (fun k => decide (X (82 + 51 * n + 4 * k + 2 * (1 - w n k)) 0 ≠ 0)) k + (if (fun k => decide (X (82 + 51 * n + 4 * k + 2 * (1 - w n k)) 0 ≠ 0)) k = true then 1 else 0) from rfl] at h
        first | (rw [if_neg (by simpa using h19)] at h; exact h) | (rw [if_pos (by simpa using h19)] at h; exact h)
  exact loop 12 0 (by omega)

set_option maxHeartbeats 4000000 in
set_option maxRecDepth 100000 in
theorem c_S_stripesOf (l : Launch) (Ω : sm_Ω) {X : sm_X} {w : Nat → Nat → Nat} {n : Nat} (hn : n < 2 ^ 30) : sm_met l Ω y_S_stripesOf b_S_stripesOf 1 (some .int) 1 723 [.int (nI n)] X (sm_rf w) (sm_det (some (.int (nI ((n + 29) / 30)))) X (sm_rf w)) := by
  refine sm_intro (own := RX6) (L := [some (.int (nI n))]) (by decide) rfl (by simp [Value.category]) (Nat.le_of_ble_eq_true rfl) rfl ?_
  intro Γ C I
  refine sg_iln (pc := 0) C d_S_stripesOf_0 rfl ?_
  refine sg_bi (pc := 1) (v := 30) C d_S_stripesOf_1 (by decide) ?_
  refine sg_add (pc := 3) C d_S_stripesOf_3 ?_
  refine sg_ic (pc := 4) (v := 1) C d_S_stripesOf_4 (by decide) ?_
  refine sg_sub (pc := 5) C d_S_stripesOf_5 (by omega) ?_
  refine sg_bi (pc := 6) (v := 30) C d_S_stripesOf_6 (by decide) ?_
  refine sg_div (pc := 8) C d_S_stripesOf_8 (by omega) (by decide) (by decide) ?_
  exact sg_iret (pc := 9) C I rfl rfl d_S_stripesOf_9 ⟨by rw [show n + 30 - 1 = n + 29 by omega], rfl, rfl⟩
end
section
/-! Matrices: filling, spilling, encoding, and the two helpers of decoding -/
set_option maxHeartbeats 4000000 in
set_option maxRecDepth 100000 in
theorem c_M_forgetFirstFive (l : Launch) (Ω : sm_Ω) {X : sm_X} {w : Nat → Nat → Nat} {i : Nat} (hi : i < 64) : sm_met l Ω y_M_forgetFirstFive b_M_forgetFirstFive 3 none 1 723 [.ref (Ω.2.1 + 4), .ref (Ω.2.1 + (6 + i))] X (sm_rf w) (sm_det none (sm_uf X (6 + i) (fun j => if j < 5 then 0 else X (6 + i) j)) (sm_rf w)) := by
  refine sm_intro (own := RX2) (L := [some (.ref (Ω.2.1 + 4)), some (.ref (Ω.2.1 + (6 + i))), none]) (by decide) rfl (by simp [Value.category]) (Nat.le_of_ble_eq_true rfl) rfl ?_
  intro Γ C I
  refine sg_ic (pc := 0) (v := 0) C d_M_forgetFirstFive_0 (by decide) ?_
  refine sg_is2 (pc := 1) C d_M_forgetFirstFive_1 ?_
  have loop : ∀ t k, k + t = 5 → sm_G Γ Ω 723 0 0 2 [some (.ref (Ω.2.1 + 4)), some (.ref (Ω.2.1 + (6 + i))), some (.int (nI k))] [] (sm_uf X (6 + i) (fun j => if j < k then 0 else X (6 + i) j)) (sm_rf w) := by
    intro t
    induction t with
    | zero =>
      intro k hk
      refine sg_iln (pc := 2) C d_M_forgetFirstFive_2 rfl ?_
      refine sg_ic (pc := 3) (v := 5) C d_M_forgetFirstFive_3 (by decide) ?_
      refine sg_icge (pc := 4) (tgt := 17) C d_M_forgetFirstFive_4 (by decide) (by omega) (by omega) (fun h4 => ?_) (fun h4 => absurd h4 (by omega))
      exact sg_vret (pc := 17) C I rfl d_M_forgetFirstFive_17 ⟨rfl, by rw [show k = 5 by omega], rfl⟩
    | succ t ih =>
      intro k hk
      refine sg_iln (pc := 2) C d_M_forgetFirstFive_2 rfl ?_
      refine sg_ic (pc := 3) (v := 5) C d_M_forgetFirstFive_3 (by decide) ?_
      refine sg_icge (pc := 4) (tgt := 17) C d_M_forgetFirstFive_4 (by decide) (by omega) (by omega) (fun h4 => absurd h4 (by omega)) (fun h4 => ?_)
      refine sg_aln (pc := 7) C d_M_forgetFirstFive_7 rfl ?_
      refine sg_iln (pc := 8) C d_M_forgetFirstFive_8 rfl ?_
      refine sg_ic (pc := 9) (v := 0) C d_M_forgetFirstFive_9 (by decide) ?_
      refine sg_iast (pc := 10) (n := 8) C (by omega) (sh_R (by omega)) (by omega) (by decide) d_M_forgetFirstFive_10 ?_
      rw [sm_uf_up, show (fun j => if j = k then 0 else if j < k then 0 else X (6 + i) j) = (fun j => if j < k + 1 then 0 else X (6 + i) j) from funext fun j => by by_cases e1 : j = k <;> by_cases e2 : j < k <;> simp [e1, e2] <;> omega]
      refine sg_inc2 (pc := 11) (n := 1) C d_M_forgetFirstFive_11 (by decide) ?_
      refine sg_goto (pc := 14) (tgt := 2) C d_M_forgetFirstFive_14 (by decide) ?_
      exact ih (k + 1) (by omega)
  have h0 := loop 5 0 (by omega)
  rw [show (sm_uf X (6 + i) (fun j => if j < 0 then 0 else X (6 + i) j)) = X from (sm_uf_c (fun j => if_neg (Nat.not_lt_zero j))).trans sm_uf_self] at h0
  exact h0

def sf (X : sm_X) (i : Nat) : Nat → sm_X
  | 0 => X
  | k + 1 => sm_up (sm_up (sf X i k) (6 + i) k (X 70 k)) (6 + (i - i % 8 + k)) (i % 8) (X 70 k)
theorem sf_70 {X : sm_X} {i : Nat} (hi : i < 64) {a b : Nat} (ha : a < 6 ∨ 70 ≤ a) : ∀ k, k ≤ 5 → sf X i k a b = X a b
  | 0, _ => rfl
  | k + 1, hk => by
    show sm_up (sm_up (sf X i k) (6 + i) k (X 70 k)) (6 + (i - i % 8 + k)) (i % 8) (X 70 k) a b = X a b
    rw [sm_up_x (Or.inl (by omega)), sm_up_x (Or.inl (by omega)), sf_70 hi ha k (by omega)]
theorem sf_at {X : sm_X} {i r j : Nat} (hi : i < 64) : ∀ k, k ≤ 5 → sf X i k (6 + r) j = if j = i % 8 ∧ i - i % 8 ≤ r ∧ r < i - i % 8 + k then X 70 (r - (i - i % 8)) else if r = i ∧ j < k then X 70 j else X (6 + r) j
  | 0, _ => by
    rw [if_neg (by omega), if_neg (by omega)]
    rfl
  | k + 1, hk => by
    have ih := sf_at (X := X) (r := r) (j := j) hi k (by omega)
    show sm_up (sm_up (sf X i k) (6 + i) k (X 70 k)) (6 + (i - i % 8 + k)) (i % 8) (X 70 k) (6 + r) j = _
    by_cases h1 : r = i - i % 8 + k ∧ j = i % 8
    · obtain ⟨h1, h2⟩ := h1
      rw [show (6 + r) = 6 + (i - i % 8 + k) by omega, h2, sm_up_s, if_pos ⟨rfl, by omega, by omega⟩]
      congr 1
      omega
    · rw [sm_up_x (by omega)]
      by_cases h2 : r = i ∧ j = k
      · obtain ⟨rfl, rfl⟩ := h2
        rw [sm_up_s]
        by_cases h3 : j = r % 8 ∧ r - r % 8 ≤ r ∧ r < r - r % 8 + (j + 1)
        · rw [if_pos h3]
          congr 1
          omega
        · rw [if_neg h3, if_pos ⟨rfl, by omega⟩]
      · rw [sm_up_x (by omega), ih]
        by_cases h3 : j = i % 8 ∧ i - i % 8 ≤ r ∧ r < i - i % 8 + k
        · rw [if_pos h3, if_pos ⟨h3.1, h3.2.1, by omega⟩]
        · have h5 : ¬ (j = i % 8 ∧ i - i % 8 ≤ r ∧ r < i - i % 8 + (k + 1)) := by omega
          rw [if_neg h3, if_neg h5]
          by_cases h4 : r = i ∧ j < k
          · rw [if_pos h4, if_pos ⟨h4.1, by omega⟩]
          · have h6 : ¬ (r = i ∧ j < k + 1) := by omega
            rw [if_neg h4, if_neg h6]

set_option maxHeartbeats 4000000 in
set_option maxRecDepth 100000 in
theorem c_M_setFirstFive (l : Launch) (Ω : sm_Ω) {X : sm_X} {w : Nat → Nat → Nat} {i : Nat} (hi : i < 64) : sm_met l Ω y_M_setFirstFive b_M_setFirstFive 4 none 1 723 [.ref (Ω.2.1 + 4), .int (nI i)] X (sm_rf w) (sm_det none (sf X i 5) (sm_rf w)) := by
  refine sm_intro (own := RX2) (L := [some (.ref (Ω.2.1 + 4)), some (.int (nI i)), none, none]) (by decide) rfl (by simp [Value.category]) (Nat.le_of_ble_eq_true rfl) rfl ?_
  intro Γ C I
  refine sg_iln (pc := 0) C d_M_setFirstFive_0 rfl ?_
  refine sg_bi (pc := 1) (v := 8) C d_M_setFirstFive_1 (by decide) ?_
  refine sg_rem (pc := 3) C d_M_setFirstFive_3 (by omega) (by decide) (by decide) ?_
  refine sg_is2 (pc := 4) C d_M_setFirstFive_4 ?_
  refine sg_ic (pc := 5) (v := 0) C d_M_setFirstFive_5 (by decide) ?_
  refine sg_is3 (pc := 6) C d_M_setFirstFive_6 ?_
  have loop : ∀ t k, k + t = 5 → sm_G Γ Ω 723 0 0 7 [some (.ref (Ω.2.1 + 4)), some (.int (nI i)), some (.int (nI (i % 8))), some (.int (nI k))] [] (sf X i k) (sm_rf w) := by
    intro t
    induction t with
    | zero =>
      intro k hk
      refine sg_iln (pc := 7) C d_M_setFirstFive_7 rfl ?_
      refine sg_ic (pc := 8) (v := 5) C d_M_setFirstFive_8 (by decide) ?_
      refine sg_icge (pc := 9) (tgt := 50) C d_M_setFirstFive_9 (by decide) (by omega) (by omega) (fun h9 => ?_) (fun h9 => absurd h9 (by omega))
      exact sg_vret (pc := 50) C I rfl d_M_setFirstFive_50 ⟨rfl, by rw [show k = 5 by omega], rfl⟩
    | succ t ih =>
      intro k hk
      refine sg_iln (pc := 7) C d_M_setFirstFive_7 rfl ?_
      refine sg_ic (pc := 8) (v := 5) C d_M_setFirstFive_8 (by decide) ?_
      refine sg_icge (pc := 9) (tgt := 50) C d_M_setFirstFive_9 (by decide) (by omega) (by omega) (fun h9 => absurd h9 (by omega)) (fun h9 => ?_)
      refine sg_aln (pc := 12) C d_M_setFirstFive_12 rfl ?_
      refine sg_getr (pc := 13) C fw_M_11 (by omega) rfl rfl rfl d_M_setFirstFive_13 ?_
      refine sg_iln (pc := 16) C d_M_setFirstFive_16 rfl ?_
      refine sg_aald (pc := 17) (n := 64) (t := 3) C (by omega) rfl (by decide) rfl rfl (by omega) (by decide) (rf_rows (by omega)) d_M_setFirstFive_17 ?_
      refine sg_iln (pc := 18) C d_M_setFirstFive_18 rfl ?_
      refine sg_aln (pc := 19) C d_M_setFirstFive_19 rfl ?_
      refine sg_getr (pc := 20) C fw_M_16 (by omega) rfl rfl rfl d_M_setFirstFive_20 ?_
      refine sg_iln (pc := 23) C d_M_setFirstFive_23 rfl ?_
      refine sg_iald (pc := 24) (n := 5) C (by omega) rfl (by omega) (by decide) d_M_setFirstFive_24 ?_
      rw [sf_70 hi (Or.inr (by decide)) k (by omega)]
      refine sg_iast (pc := 25) (n := 8) C (by omega) (sh_R (by omega)) (by omega) (by decide) d_M_setFirstFive_25 ?_
      refine sg_aln (pc := 26) C d_M_setFirstFive_26 rfl ?_
      refine sg_getr (pc := 27) C fw_M_11 (by omega) rfl rfl rfl d_M_setFirstFive_27 ?_
      refine sg_iln (pc := 30) C d_M_setFirstFive_30 rfl ?_
      refine sg_iln (pc := 31) C d_M_setFirstFive_31 rfl ?_
      refine sg_sub (pc := 32) C d_M_setFirstFive_32 (by omega) ?_
      refine sg_iln (pc := 33) C d_M_setFirstFive_33 rfl ?_
      refine sg_add (pc := 34) C d_M_setFirstFive_34 ?_
      refine sg_aald (pc := 35) (n := 64) (t := 3) C (by omega) rfl (by decide) rfl rfl (by omega) (by decide) (rf_rows (by omega)) d_M_setFirstFive_35 ?_
      refine sg_iln (pc := 36) C d_M_setFirstFive_36 rfl ?_
      refine sg_aln (pc := 37) C d_M_setFirstFive_37 rfl ?_
      refine sg_getr (pc := 38) C fw_M_16 (by omega) rfl rfl rfl d_M_setFirstFive_38 ?_
      refine sg_iln (pc := 41) C d_M_setFirstFive_41 rfl ?_
      refine sg_iald (pc := 42) (n := 5) C (by omega) rfl (by omega) (by decide) d_M_setFirstFive_42 ?_
      rw [sm_up_x (Or.inl (by omega)), sf_70 hi (Or.inr (by decide)) k (by omega)]
      refine sg_iast (pc := 43) (n := 8) C (by omega) (sh_R (by omega)) (by omega) (by decide) d_M_setFirstFive_43 ?_
      refine sg_inc3 (pc := 44) (n := 1) C d_M_setFirstFive_44 (by decide) ?_
      refine sg_goto (pc := 47) (tgt := 7) C d_M_setFirstFive_47 (by decide) ?_
      exact ih (k + 1) (by omega)
  exact loop 5 0 (by omega)

def mv (X : sm_X) (n q : Nat) : Nat := if q < n then X 77 q else 0
def mf (X : sm_X) (n : Nat) : Nat → sm_X
  | 0 => X
  | q + 1 => sm_up (sm_up (mf X n q) (6 + (8 * (q / 30) + sm_row (q % 30))) (sm_col (q % 30)) (mv X n q)) (6 + (8 * (q / 30) + sm_col (q % 30))) (sm_row (q % 30)) (mv X n q)
theorem mf_o {X : sm_X} {n a b : Nat} (ha : a < 6 ∨ 70 ≤ a) : ∀ q, q ≤ 240 → mf X n q a b = X a b
  | 0, _ => rfl
  | q + 1, hq => by
    have hm := mx_rc (q % 30) (Nat.mod_lt _ (by decide))
    show sm_up (sm_up (mf X n q) (6 + (8 * (q / 30) + sm_row (q % 30))) (sm_col (q % 30)) (mv X n q)) (6 + (8 * (q / 30) + sm_col (q % 30))) (sm_row (q % 30)) (mv X n q) a b = X a b
    rw [sm_up_x (Or.inl (by omega)), sm_up_x (Or.inl (by omega)), mf_o ha q (by omega)]

set_option maxHeartbeats 4000000 in
set_option maxRecDepth 100000 in
theorem c_M_fill (l : Launch) (Ω : sm_Ω) {X : sm_X} {w : Nat → Nat → Nat} {n : Nat} (hn : n ≤ 240) : sm_met l Ω y_M_fill b_M_fill 9 none 2 723 [.ref (Ω.2.1 + 4), .ref (Ω.2.1 + 77), .int (nI n)] X (sm_rf w) (sm_det none (mf X n (30 * ((n + 29) / 30))) (sm_rf w)) := by
  refine sm_intro (own := RX2) (L := [some (.ref (Ω.2.1 + 4)), some (.ref (Ω.2.1 + 77)), some (.int (nI n)), none, none, none, none, none, none]) (by decide) rfl (by simp [Value.category]) (Nat.le_of_ble_eq_true rfl) rfl ?_
  intro Γ C I
  refine sg_bi (pc := 0) (v := 30) C d_M_fill_0 (by decide) ?_
  refine sg_iln (pc := 2) C d_M_fill_2 rfl ?_
  refine sm_callSN (pc := 3) (As := [.int (nI n)]) C I (c_S_stripesOf l Ω (by omega)) nw_code nw_init sw_S_stripesOf (by decide) rfl (by decide) ⟨by decide, by decide⟩ rfl (Nat.le_of_ble_eq_true rfl) d_M_fill_3 (sm_det_i ?_)
  refine sg_mul (pc := 6) C d_M_fill_6 ?_
  refine sg_is3 (pc := 7) C d_M_fill_7 ?_
  refine sg_ic (pc := 8) (v := 0) C d_M_fill_8 (by decide) ?_
  refine sg_is4 (pc := 9) C d_M_fill_9 ?_
  have loop : ∀ t q z5 z6 z7 z8, q + t = (30 * ((n + 29) / 30)) → sm_G Γ Ω 723 0 0 11 [some (.ref (Ω.2.1 + 4)), some (.ref (Ω.2.1 + 77)), some (.int (nI n)), some (.int (nI (30 * ((n + 29) / 30)))), some (.int (nI q)), z5, z6, z7, z8] [] (mf X n q) (sm_rf w) := by
    intro t
    induction t with
    | zero =>
      intro q z5 z6 z7 z8 hq
      refine sg_il (pc := 11) C d_M_fill_11 rfl ?_
      refine sg_iln (pc := 13) C d_M_fill_13 rfl ?_
      refine sg_icge (pc := 14) (tgt := 101) C d_M_fill_14 (by decide) (by omega) (by omega) (fun h14 => ?_) (fun h14 => absurd h14 (by omega))
      exact sg_vret (pc := 101) C I rfl d_M_fill_101 ⟨rfl, by rw [show q = (30 * ((n + 29) / 30)) by omega], rfl⟩
    | succ t ih =>
      intro q z5 z6 z7 z8 hq
      have hm := mx_rc (q % 30) (Nat.mod_lt _ (by decide))
      refine sg_il (pc := 11) C d_M_fill_11 rfl ?_
      refine sg_iln (pc := 13) C d_M_fill_13 rfl ?_
      refine sg_icge (pc := 14) (tgt := 101) C d_M_fill_14 (by decide) (by omega) (by omega) (fun h14 => absurd h14 (by omega)) (fun h14 => ?_)
      refine sg_bi (pc := 17) (v := 8) C d_M_fill_17 (by decide) ?_
      refine sg_il (pc := 19) C d_M_fill_19 rfl ?_
      refine sg_bi (pc := 21) (v := 30) C d_M_fill_21 (by decide) ?_
      refine sg_div (pc := 23) C d_M_fill_23 (by omega) (by decide) (by decide) ?_
      refine sg_mul (pc := 24) C d_M_fill_24 ?_
      refine sg_is5 (pc := 25) C d_M_fill_25 ?_
      refine sg_gets1 (pc := 27) C gs_M_24 d_M_fill_27 ?_
      refine sg_il (pc := 30) C d_M_fill_30 rfl ?_
      refine sg_bi (pc := 32) (v := 30) C d_M_fill_32 (by decide) ?_
      refine sg_rem (pc := 34) C d_M_fill_34 (by omega) (by decide) (by decide) ?_
      refine sg_tald1 (pc := 35) C (by omega) d_M_fill_35 ?_
      refine sg_is6 (pc := 36) C d_M_fill_36 ?_
      refine sg_gets2 (pc := 38) C gs_M_27 d_M_fill_38 ?_
      refine sg_il (pc := 41) C d_M_fill_41 rfl ?_
      refine sg_bi (pc := 43) (v := 30) C d_M_fill_43 (by decide) ?_
      refine sg_rem (pc := 45) C d_M_fill_45 (by omega) (by decide) (by decide) ?_
      refine sg_tald2 (pc := 46) C (by omega) d_M_fill_46 ?_
      refine sg_is7 (pc := 47) C d_M_fill_47 ?_
      refine sg_il (pc := 49) C d_M_fill_49 rfl ?_
      refine sg_iln (pc := 51) C d_M_fill_51 rfl ?_
      refine sg_icge (pc := 52) (tgt := 62) C d_M_fill_52 (by decide) (by omega) (by omega) (fun h52 => ?_) (fun h52 => ?_)
      · refine sg_ic (pc := 62) (v := 0) C d_M_fill_62 (by decide) ?_
        refine sg_top (y := nI (mv X n q)) C (by rw [show mv X n q = 0 from if_neg (by omega)]) ?_
        refine sg_is8 (pc := 63) C d_M_fill_63 ?_
        refine sg_aln (pc := 65) C d_M_fill_65 rfl ?_
        refine sg_getr (pc := 66) C fw_M_11 (by omega) rfl rfl rfl d_M_fill_66 ?_
        refine sg_il (pc := 69) C d_M_fill_69 rfl ?_
        refine sg_il (pc := 71) C d_M_fill_71 rfl ?_
        refine sg_add (pc := 73) C d_M_fill_73 ?_
        refine sg_aald (pc := 74) (n := 64) (t := 3) C (by omega) rfl (by decide) rfl rfl (by omega) (by decide) (rf_rows (by omega)) d_M_fill_74 ?_
        refine sg_il (pc := 75) C d_M_fill_75 rfl ?_
        refine sg_il (pc := 77) C d_M_fill_77 rfl ?_
        refine sg_iast (pc := 79) (n := 8) C (by omega) (sh_R (by omega)) (by omega) (by decide) d_M_fill_79 ?_
        refine sg_aln (pc := 80) C d_M_fill_80 rfl ?_
        refine sg_getr (pc := 81) C fw_M_11 (by omega) rfl rfl rfl d_M_fill_81 ?_
        refine sg_il (pc := 84) C d_M_fill_84 rfl ?_
        refine sg_il (pc := 86) C d_M_fill_86 rfl ?_
        refine sg_add (pc := 88) C d_M_fill_88 ?_
        refine sg_aald (pc := 89) (n := 64) (t := 3) C (by omega) rfl (by decide) rfl rfl (by omega) (by decide) (rf_rows (by omega)) d_M_fill_89 ?_
        refine sg_il (pc := 90) C d_M_fill_90 rfl ?_
        refine sg_il (pc := 92) C d_M_fill_92 rfl ?_
        refine sg_iast (pc := 94) (n := 8) C (by omega) (sh_R (by omega)) (by omega) (by decide) d_M_fill_94 ?_
        refine sg_inc4 (pc := 95) (n := 1) C d_M_fill_95 (by decide) ?_
        refine sg_goto (pc := 98) (tgt := 11) C d_M_fill_98 (by decide) ?_
        exact ih (q + 1) _ _ _ _ (by omega)
      · refine sg_aln (pc := 55) C d_M_fill_55 rfl ?_
        refine sg_il (pc := 56) C d_M_fill_56 rfl ?_
        refine sg_iald (pc := 58) (n := 240) C (by omega) rfl (by omega) (by decide) d_M_fill_58 ?_
        rw [mf_o (Or.inr (by decide)) q (by omega), show X 77 q = mv X n q from (if_pos h52).symm]
        refine sg_goto (pc := 59) (tgt := 63) C d_M_fill_59 (by decide) ?_
        refine sg_is8 (pc := 63) C d_M_fill_63 ?_
        refine sg_aln (pc := 65) C d_M_fill_65 rfl ?_
        refine sg_getr (pc := 66) C fw_M_11 (by omega) rfl rfl rfl d_M_fill_66 ?_
        refine sg_il (pc := 69) C d_M_fill_69 rfl ?_
        refine sg_il (pc := 71) C d_M_fill_71 rfl ?_
        refine sg_add (pc := 73) C d_M_fill_73 ?_
        refine sg_aald (pc := 74) (n := 64) (t := 3) C (by omega) rfl (by decide) rfl rfl (by omega) (by decide) (rf_rows (by omega)) d_M_fill_74 ?_
        refine sg_il (pc := 75) C d_M_fill_75 rfl ?_
        refine sg_il (pc := 77) C d_M_fill_77 rfl ?_
        refine sg_iast (pc := 79) (n := 8) C (by omega) (sh_R (by omega)) (by omega) (by decide) d_M_fill_79 ?_
        refine sg_aln (pc := 80) C d_M_fill_80 rfl ?_
        refine sg_getr (pc := 81) C fw_M_11 (by omega) rfl rfl rfl d_M_fill_81 ?_
        refine sg_il (pc := 84) C d_M_fill_84 rfl ?_
        refine sg_il (pc := 86) C d_M_fill_86 rfl ?_
        refine sg_add (pc := 88) C d_M_fill_88 ?_
        refine sg_aald (pc := 89) (n := 64) (t := 3) C (by omega) rfl (by decide) rfl rfl (by omega) (by decide) (rf_rows (by omega)) d_M_fill_89 ?_
        refine sg_il (pc := 90) C d_M_fill_90 rfl ?_
        refine sg_il (pc := 92) C d_M_fill_92 rfl ?_
        refine sg_iast (pc := 94) (n := 8) C (by omega) (sh_R (by omega)) (by omega) (by decide) d_M_fill_94 ?_
        refine sg_inc4 (pc := 95) (n := 1) C d_M_fill_95 (by decide) ?_
        refine sg_goto (pc := 98) (tgt := 11) C d_M_fill_98 (by decide) ?_
        exact ih (q + 1) _ _ _ _ (by omega)
  exact loop (30 * ((n + 29) / 30)) 0 none none none none (by omega)

set_option maxHeartbeats 4000000 in
set_option maxRecDepth 100000 in
theorem c_M_spill (l : Launch) (Ω : sm_Ω) {X : sm_X} {w : Nat → Nat → Nat} {n : Nat} (hn : n ≤ 240) : sm_met l Ω y_M_spill b_M_spill 5 none 1 723 [.ref (Ω.2.1 + 4), .ref (Ω.2.1 + 78), .int (nI n)] X (sm_rf w) (sm_det none (sm_uf X 78 (fun j => if j < n then X (6 + (8 * (j / 30) + sm_row (j % 30))) (sm_col (j % 30)) else X 78 j)) (sm_rf w)) := by
  refine sm_intro (own := RX2) (L := [some (.ref (Ω.2.1 + 4)), some (.ref (Ω.2.1 + 78)), some (.int (nI n)), none, none]) (by decide) rfl (by simp [Value.category]) (Nat.le_of_ble_eq_true rfl) rfl ?_
  intro Γ C I
  refine sg_ic (pc := 0) (v := 0) C d_M_spill_0 (by decide) ?_
  refine sg_is3 (pc := 1) C d_M_spill_1 ?_
  have loop : ∀ t q z, q + t = n → sm_G Γ Ω 723 0 0 2 [some (.ref (Ω.2.1 + 4)), some (.ref (Ω.2.1 + 78)), some (.int (nI n)), some (.int (nI q)), z] [] (sm_uf X 78 (fun j => if j < q then X (6 + (8 * (j / 30) + sm_row (j % 30))) (sm_col (j % 30)) else X 78 j)) (sm_rf w) := by
    intro t
    induction t with
    | zero =>
      intro q z hq
      refine sg_iln (pc := 2) C d_M_spill_2 rfl ?_
      refine sg_iln (pc := 3) C d_M_spill_3 rfl ?_
      refine sg_icge (pc := 4) (tgt := 50) C d_M_spill_4 (by decide) (by omega) (by omega) (fun h4 => ?_) (fun h4 => absurd h4 (by omega))
      exact sg_vret (pc := 50) C I rfl d_M_spill_50 ⟨rfl, by rw [show q = n by omega], rfl⟩
    | succ t ih =>
      intro q z hq
      have hm := mx_rc (q % 30) (Nat.mod_lt _ (by decide))
      refine sg_iln (pc := 2) C d_M_spill_2 rfl ?_
      refine sg_iln (pc := 3) C d_M_spill_3 rfl ?_
      refine sg_icge (pc := 4) (tgt := 50) C d_M_spill_4 (by decide) (by omega) (by omega) (fun h4 => absurd h4 (by omega)) (fun h4 => ?_)
      refine sg_bi (pc := 7) (v := 8) C d_M_spill_7 (by decide) ?_
      refine sg_iln (pc := 9) C d_M_spill_9 rfl ?_
      refine sg_bi (pc := 10) (v := 30) C d_M_spill_10 (by decide) ?_
      refine sg_div (pc := 12) C d_M_spill_12 (by omega) (by decide) (by decide) ?_
      refine sg_mul (pc := 13) C d_M_spill_13 ?_
      refine sg_is4 (pc := 14) C d_M_spill_14 ?_
      refine sg_aln (pc := 16) C d_M_spill_16 rfl ?_
      refine sg_iln (pc := 17) C d_M_spill_17 rfl ?_
      refine sg_aln (pc := 18) C d_M_spill_18 rfl ?_
      refine sg_getr (pc := 19) C fw_M_11 (by omega) rfl rfl rfl d_M_spill_19 ?_
      refine sg_il (pc := 22) C d_M_spill_22 rfl ?_
      refine sg_gets1 (pc := 24) C gs_M_24 d_M_spill_24 ?_
      refine sg_iln (pc := 27) C d_M_spill_27 rfl ?_
      refine sg_bi (pc := 28) (v := 30) C d_M_spill_28 (by decide) ?_
      refine sg_rem (pc := 30) C d_M_spill_30 (by omega) (by decide) (by decide) ?_
      refine sg_tald1 (pc := 31) C (by omega) d_M_spill_31 ?_
      refine sg_add (pc := 32) C d_M_spill_32 ?_
      refine sg_aald (pc := 33) (n := 64) (t := 3) C (by omega) rfl (by decide) rfl rfl (by omega) (by decide) (rf_rows (by omega)) d_M_spill_33 ?_
      refine sg_gets2 (pc := 34) C gs_M_27 d_M_spill_34 ?_
      refine sg_iln (pc := 37) C d_M_spill_37 rfl ?_
      refine sg_bi (pc := 38) (v := 30) C d_M_spill_38 (by decide) ?_
      refine sg_rem (pc := 40) C d_M_spill_40 (by omega) (by decide) (by decide) ?_
      refine sg_tald2 (pc := 41) C (by omega) d_M_spill_41 ?_
      refine sg_iald (pc := 42) (n := 8) C (by omega) (sh_R (by omega)) (by omega) (by decide) d_M_spill_42 ?_
      rw [sm_uf_o (by omega)]
      refine sg_iast (pc := 43) (n := 240) C (by omega) rfl (by omega) (by decide) d_M_spill_43 ?_
      rw [sm_uf_up, show (fun k => if k = q then X (6 + (8 * (q / 30) + sm_row (q % 30))) (sm_col (q % 30)) else if k < q then X (6 + (8 * (k / 30) + sm_row (k % 30))) (sm_col (k % 30)) else X 78 k) = (fun j => if j < q + 1 then X (6 + (8 * (j / 30) + sm_row (j % 30))) (sm_col (j % 30)) else X 78 j) from funext fun j => by
          by_cases e1 : j = q
          · subst e1; rw [if_pos rfl, if_pos (by omega)]
          · rw [if_neg e1]
            by_cases e2 : j < q
            · rw [if_pos e2, if_pos (by omega)]
            · rw [if_neg e2, if_neg (by omega)]]
      refine sg_inc3 (pc := 44) (n := 1) C d_M_spill_44 (by decide) ?_
      refine sg_goto (pc := 47) (tgt := 2) C d_M_spill_47 (by decide) ?_
      exact ih (q + 1) _ (by omega)
  have h0 := loop n 0 none (by omega)
  rw [show (sm_uf X 78 (fun j => if j < 0 then X (6 + (8 * (j / 30) + sm_row (j % 30))) (sm_col (j % 30)) else X 78 j)) = X from (sm_uf_c (fun j => if_neg (Nat.not_lt_zero j))).trans sm_uf_self] at h0
  exact h0

theorem gf_h_uf {X : sm_X} {c i p : Nat} {f : Nat → Nat} (h : i ≠ c) : gf_h (fun j => sm_uf X c f i (0 + j)) p 0 8 = gf_h (X i) p 0 8 := by
  congr 1
  funext j
  rw [sm_uf_o h, Nat.zero_add]

set_option maxHeartbeats 4000000 in
set_option maxRecDepth 100000 in
theorem c_M_encode (l : Launch) (Ω : sm_Ω) {X : sm_X} {w : Nat → Nat → Nat} {n o b p : Nat} (hn : n < 12) (ho : o < 12) (hb : b < 2) (hG : gal X) (hp : p < 256) (hl : X (82 + 51 * n + 4 * o + 2 * b) 1 ≤ 240) (hr : ∀ r, r < 64 → ∀ j, j < 8 → X (6 + r) j < 256) : sm_met l Ω y_M_encode b_M_encode 6 none 3 723 [.ref (Ω.2.1 + 4), .ref (Ω.2.1 + 1), .int (nI p), .ref (Ω.2.1 + (82 + 51 * n + 4 * o + 2 * b))] X (sm_rf w) (sm_det none (sm_uf X (83 + 51 * n + 4 * o + 2 * b) (fun j => if j < (8 * ((X (82 + 51 * n + 4 * o + 2 * b) 1 + 29) / 30)) then gf_h (X (6 + j)) p 0 8 else X (83 + 51 * n + 4 * o + 2 * b) j)) (sm_rf w)) := by
  refine sm_intro (own := RX2) (L := [some (.ref (Ω.2.1 + 4)), some (.ref (Ω.2.1 + 1)), some (.int (nI p)), some (.ref (Ω.2.1 + (82 + 51 * n + 4 * o + 2 * b))), none, none]) (by decide) rfl (by simp [Value.category]) (Nat.le_of_ble_eq_true rfl) rfl ?_
  intro Γ C I
  refine sg_bi (pc := 0) (v := 8) C d_M_encode_0 (by decide) ?_
  refine sg_aln (pc := 2) C d_M_encode_2 rfl ?_
  refine sg_geti (pc := 3) C fw_M_30 (by omega) (sh_S hn ho hb) rfl d_M_encode_3 ?_
  refine sm_callSN (pc := 6) (As := [.int (nI (X (82 + 51 * n + 4 * o + 2 * b) 1))]) C I (c_S_stripesOf l Ω (by omega)) nw_code nw_init sw_S_stripesOf (by decide) rfl (by decide) ⟨by decide, by decide⟩ rfl (Nat.le_of_ble_eq_true rfl) d_M_encode_6 (sm_det_i ?_)
  refine sg_mul (pc := 9) C d_M_encode_9 ?_
  refine sg_is4 (pc := 10) C d_M_encode_10 ?_
  refine sg_ic (pc := 12) (v := 0) C d_M_encode_12 (by decide) ?_
  refine sg_is5 (pc := 13) C d_M_encode_13 ?_
  have loop : ∀ t k, k + t = (8 * ((X (82 + 51 * n + 4 * o + 2 * b) 1 + 29) / 30)) → sm_G Γ Ω 723 0 0 15 [some (.ref (Ω.2.1 + 4)), some (.ref (Ω.2.1 + 1)), some (.int (nI p)), some (.ref (Ω.2.1 + (82 + 51 * n + 4 * o + 2 * b))), some (.int (nI (8 * ((X (82 + 51 * n + 4 * o + 2 * b) 1 + 29) / 30)))), some (.int (nI k))] [] (sm_uf X (83 + 51 * n + 4 * o + 2 * b) (fun j => if j < k then gf_h (X (6 + j)) p 0 8 else X (83 + 51 * n + 4 * o + 2 * b) j)) (sm_rf w) := by
    intro t
    induction t with
    | zero =>
      intro k hk
      refine sg_il (pc := 15) C d_M_encode_15 rfl ?_
      refine sg_il (pc := 17) C d_M_encode_17 rfl ?_
      refine sg_icge (pc := 19) (tgt := 48) C d_M_encode_19 (by decide) (by omega) (by omega) (fun h19 => ?_) (fun h19 => absurd h19 (by omega))
      exact sg_vret (pc := 48) C I rfl d_M_encode_48 ⟨rfl, by rw [show k = (8 * ((X (82 + 51 * n + 4 * o + 2 * b) 1 + 29) / 30)) by omega], rfl⟩
    | succ t ih =>
      intro k hk
      refine sg_il (pc := 15) C d_M_encode_15 rfl ?_
      refine sg_il (pc := 17) C d_M_encode_17 rfl ?_
      refine sg_icge (pc := 19) (tgt := 48) C d_M_encode_19 (by decide) (by omega) (by omega) (fun h19 => absurd h19 (by omega)) (fun h19 => ?_)
      refine sg_aln (pc := 22) C d_M_encode_22 rfl ?_
      refine sg_getr (pc := 23) C fw_M_36 (by omega) (sh_S hn ho hb) rfl (rf_S2 hn ho hb) d_M_encode_23 ?_
      refine sg_il (pc := 26) C d_M_encode_26 rfl ?_
      refine sg_aln (pc := 28) C d_M_encode_28 rfl ?_
      refine sg_iln (pc := 29) C d_M_encode_29 rfl ?_
      refine sg_aln (pc := 30) C d_M_encode_30 rfl ?_
      refine sg_getr (pc := 31) C fw_M_11 (by omega) rfl rfl rfl d_M_encode_31 ?_
      refine sg_il (pc := 34) C d_M_encode_34 rfl ?_
      refine sg_aald (pc := 36) (n := 64) (t := 3) C (by omega) rfl (by decide) rfl rfl (by omega) (by decide) (rf_rows (by omega)) d_M_encode_36 ?_
      refine sg_ic (pc := 37) (v := 0) C d_M_encode_37 (by decide) ?_
      refine sm_callV (pc := 38) (As := [.int (nI p), .ref (Ω.2.1 + (6 + k)), .int (nI 0)]) C I (c_G_valueAt l Ω (i := 6 + k) (n := 8) (fr := 0) (gal_uf hG (by omega) (by omega)) hp (by omega) (sh_R (by omega)) (by decide) (by decide) (fun j hj => by rw [sm_uf_o (by omega), Nat.zero_add]; exact hr k (by omega) j hj)) cw_M_39 iw_G_valueAt (C.1.2.2.2.2 _ (List.mem_cons_of_mem _ se_G_valueAt)) (by omega) rfl rfl rfl rfl (by decide) ⟨by decide, by decide⟩ rfl (Nat.le_of_ble_eq_true rfl) d_M_encode_38 (sm_det_i ?_)
      rw [gf_h_uf (by omega)]
      refine sg_iast (pc := 41) (n := 64) C (by omega) (sh_Sb hn ho hb) (by omega) (by decide) d_M_encode_41 ?_
      rw [sm_uf_up, show (fun j => if j = k then gf_h (X (6 + k)) p 0 8 else if j < k then gf_h (X (6 + j)) p 0 8 else X (83 + 51 * n + 4 * o + 2 * b) j) = (fun j => if j < k + 1 then gf_h (X (6 + j)) p 0 8 else X (83 + 51 * n + 4 * o + 2 * b) j) from funext fun j => by
          by_cases e1 : j = k
          · subst e1; rw [if_pos rfl, if_pos (by omega)]
          · rw [if_neg e1]
            by_cases e2 : j < k
            · rw [if_pos e2, if_pos (by omega)]
            · rw [if_neg e2, if_neg (by omega)]]
      refine sg_inc5 (pc := 42) (n := 1) C d_M_encode_42 (by decide) ?_
      refine sg_goto (pc := 45) (tgt := 15) C d_M_encode_45 (by decide) ?_
      exact ih (k + 1) (by omega)
  have h0 := loop (8 * ((X (82 + 51 * n + 4 * o + 2 * b) 1 + 29) / 30)) 0 (by omega)
  rw [show (sm_uf X (83 + 51 * n + 4 * o + 2 * b) (fun j => if j < 0 then gf_h (X (6 + j)) p 0 8 else X (83 + 51 * n + 4 * o + 2 * b) j)) = X from (sm_uf_c (fun j => if_neg (Nat.not_lt_zero j))).trans sm_uf_self] at h0
  exact h0
end
section
/-! Decoding: from the last row up -/
def dcI (X : sm_X) (v : Nat → Nat) (S c : Nat) (Z : sm_X) : Prop :=
  (∀ a b, (a < 6 ∨ 70 < a) → Z a b = X a b) ∧ (∀ r j, c ≤ r → r < S → j < 8 → Z (6 + r) j = mx v r j) ∧ (∀ r j, r < c → 5 ≤ j → j < 8 → c ≤ 8 * (r / 8) + j → Z (6 + r) j = mx v r j) ∧
  (∀ r j, r < 64 → 5 ≤ r % 8 → 5 ≤ j → j < 8 → Z (6 + r) j = 0) ∧ ∀ r j, r < 64 → j < 8 → Z (6 + r) j < 256
def dcZ1 (Z : sm_X) (c : Nat) : sm_X := sm_uf Z (6 + c) (fun j => if j < 5 then 0 else Z (6 + c) j)
def dcV (X : sm_X) (v : Nat → Nat) (Z : sm_X) (c j : Nat) : Nat := mx_b v (X 75 j) c ^^^ gf_h (dcZ1 Z c (6 + c)) (X 75 j) 0 8
def dcZ2 (X : sm_X) (v : Nat → Nat) (Z : sm_X) (c k : Nat) : sm_X := sm_uf (dcZ1 Z c) 70 (fun j => if j < k then dcV X v Z c j else dcZ1 Z c 70 j)
def dcZ3 (X : sm_X) (v : Nat → Nat) (Z : sm_X) (c : Nat) : sm_X := sm_uf (dcZ2 X v Z c 5) 70 (gf_q2 5 (dcZ2 X v Z c 5 75) (5 - 1) (gf_q1 5 (dcZ2 X v Z c 5 75) (5 - 1) (dcZ2 X v Z c 5 70)))
theorem dcZ2_o {X Z : sm_X} {v : Nat → Nat} {c k a b : Nat} (h1 : a ≠ 70) (h2 : a ≠ 6 + c) : dcZ2 X v Z c k a b = Z a b := (sm_uf_o h1).trans (sm_uf_o h2)
theorem dcZ2_0 {X Z : sm_X} {v : Nat → Nat} {c : Nat} : dcZ2 X v Z c 0 = dcZ1 Z c := (sm_uf_c (fun j => if_neg (Nat.not_lt_zero j))).trans sm_uf_self
theorem dcZ2_s {X Z : sm_X} {v : Nat → Nat} {c k : Nat} : sm_up (dcZ2 X v Z c k) 70 k (dcV X v Z c k) = dcZ2 X v Z c (k + 1) := by
  unfold dcZ2
  rw [sm_uf_up]
  apply sm_uf_c
  intro j
  by_cases e1 : j = k
  · subst e1; rw [if_pos rfl, if_pos (by omega)]
  · rw [if_neg e1]
    by_cases e2 : j < k
    · rw [if_pos e2, if_pos (by omega)]
    · rw [if_neg e2, if_neg (by omega)]
theorem dcZ1_r {Z : sm_X} {c j : Nat} : dcZ1 Z c (6 + c) j = if j < 5 then 0 else Z (6 + c) j := sm_uf_s
theorem dc_gal {X Z : sm_X} {v : Nat → Nat} {S c : Nat} (hG : gal X) (hI : dcI X v S c Z) : gal Z := ⟨fun k hk => (hI.1 2 k (by omega)).trans (hG.1 k hk), fun a ha => (hI.1 3 a (by omega)).trans (hG.2 a ha)⟩
section
variable {X Z : sm_X} {v : Nat → Nat} {S c : Nat}
theorem dc_hi (hI : dcI X v S (c + 1) Z) (hc : c < 64) {j : Nat} (h5 : 5 ≤ j) (h8 : j < 8) : Z (6 + c) j = mx v c j := by
  by_cases h : c % 8 < 5
  · exact hI.2.2.1 c j (by omega) h5 h8 (by omega)
  · rw [hI.2.2.2.1 c j hc (by omega) h5 h8, mx_0 h8 (by omega) h5]
theorem dc_val (hI : dcI X v S (c + 1) Z) (hv : ∀ i, v i < 256) (hc : c < 64) (k : Nat) : dcV X v Z c k = gf_h (fun i => if i < 5 then mx v c i else 0) (X 75 k) 0 5 := by
  have h1 : gf_h (dcZ1 Z c (6 + c)) (X 75 k) 0 8 = gf_h (fun i => if i < 5 then 0 else mx v c i) (X 75 k) 0 8 := by
    refine gf_h_congr 8 0 (fun i _ hi => ?_)
    rw [dcZ1_r]
    by_cases h : i < 5
    · rw [if_pos h, if_pos h]
    · rw [if_neg h, if_neg h]
      exact dc_hi hI hc (by omega) (by omega)
  unfold dcV mx_b
  rw [h1, gf_h_cut (fun j => mx_lt hv c j) (X 75 k) (n := 5) 8 0, gf_xc]
  exact gf_h_low (n := 5) (fun i hi => if_neg (by omega)) 8 (by decide)
theorem dc_out (hI : dcI X v S (c + 1) Z) (hv : ∀ i, v i < 256) (hc : c < 64) (hp : ∀ k, k < 5 → X 75 k < 256) (hd : ∀ a b, a < 5 → b < 5 → X 75 a = X 75 b → a = b) {k : Nat} (hk : k < 5) : dcZ3 X v Z c 70 k = mx v c k := by
  have e75 : ∀ j, dcZ2 X v Z c 5 75 j = X 75 j := fun j => (dcZ2_o (by decide) (by omega)).trans (hI.1 75 j (by omega))
  have h := gf_interp (n := 5) (X := dcZ2 X v Z c 5 75) (c := fun i => if i < 5 then mx v c i else 0) (v := dcZ2 X v Z c 5 70) (by decide)
    (fun j => by show (if j < 5 then mx v c j else 0) < 256; split; exact mx_lt hv c j; decide) (fun j hj => if_neg (by omega))
    (fun j hj => by rw [e75]; exact hp j hj) (fun a b ha hb he => by rw [e75, e75] at he; exact hd a b ha hb he)
    (fun j hj => by
      have e : dcZ2 X v Z c 5 70 j = dcV X v Z c j := sm_uf_s.trans (if_pos hj)
      rw [e, e75]
      exact dc_val hI hv hc j) k hk
  show sm_uf _ 70 _ 70 k = _
  rw [sm_uf_s]
  exact h.trans (if_pos hk)
theorem dc_step (hI : dcI X v S (c + 1) Z) (hv : ∀ i, v i < 256) (hcS : c < S) (hS : S ≤ 64) (hp : ∀ k, k < 5 → X 75 k < 256) (hd : ∀ a b, a < 5 → b < 5 → X 75 a = X 75 b → a = b) : dcI X v S c (sf (dcZ3 X v Z c) c 5) := by
  have hc : c < 64 := by omega
  have e3 : ∀ a b, a ≠ 70 → a ≠ 6 + c → dcZ3 X v Z c a b = Z a b := fun a b h1 h2 => (sm_uf_o h1).trans (dcZ2_o h1 h2)
  have e4 : ∀ j, dcZ3 X v Z c (6 + c) j = if j < 5 then 0 else Z (6 + c) j := fun j => (sm_uf_o (by omega)).trans ((sm_uf_o (by omega)).trans dcZ1_r)
  -- a row behind the step
  have key : ∀ r j, r < 64 → j < 8 → sf (dcZ3 X v Z c) c 5 (6 + r) j = if (j = c % 8 ∧ c - c % 8 ≤ r ∧ r < c - c % 8 + 5) ∨ (r = c ∧ j < 5) then mx v r j else Z (6 + r) j := by
    intro r j hr hj
    rw [sf_at hc 5 (Nat.le_refl 5)]
    by_cases h1 : j = c % 8 ∧ c - c % 8 ≤ r ∧ r < c - c % 8 + 5
    · rw [if_pos h1, if_pos (Or.inl h1), dc_out hI hv hc hp hd (by omega)]
      have hs := mx_s (v := v) (s := c / 8) (a := c % 8) (b := r - (c - c % 8)) (by omega) (by omega)
      rw [show 8 * (c / 8) + c % 8 = c by omega, show 8 * (c / 8) + (r - (c - c % 8)) = r by omega] at hs
      rw [hs, h1.1]
    · rw [if_neg h1]
      by_cases h2 : r = c ∧ j < 5
      · rw [if_pos h2, if_pos (Or.inr h2), dc_out hI hv hc hp hd h2.2, h2.1]
      · rw [if_neg h2, if_neg (fun q => q.elim h1 h2)]
        by_cases h3 : r = c
        · subst h3
          rw [e4, if_neg (fun q => h2 ⟨rfl, q⟩)]
        · exact e3 _ _ (by omega) (by omega)
  refine ⟨fun a b ha => ?_, fun r j h1 h2 h3 => ?_, fun r j h1 h2 h3 h4 => ?_, fun r j h1 h2 h3 h4 => ?_, fun r j h1 h2 => ?_⟩
  · rw [sf_70 hc (by omega) 5 (Nat.le_refl 5), e3 a b (by omega) (by omega)]
    exact hI.1 a b ha
  · rw [key r j (by omega) h3]
    split
    · rfl
    · rename_i hn
      by_cases h4 : r = c
      · subst h4
        exact dc_hi hI hc (Nat.not_lt.mp (fun q => hn (Or.inr ⟨rfl, q⟩))) h3
      · exact hI.2.1 r j (by omega) h2 h3
  · rw [key r j (by omega) h3]
    split
    · rfl
    · rename_i hn
      by_cases h5 : c + 1 ≤ 8 * (r / 8) + j
      · exact hI.2.2.1 r j (by omega) h2 h3 h5
      · have h6 : 5 ≤ r % 8 := by
          refine Nat.not_lt.mp (fun q => hn (Or.inl ⟨?_, ?_, ?_⟩)) <;> omega
        rw [hI.2.2.2.1 r j (by omega) h6 h2 h3, mx_0 h3 h6 h2]
  · rw [key r j h1 h4]
    split
    · exact mx_0 h4 h2 h3
    · exact hI.2.2.2.1 r j h1 h2 h3 h4
  · rw [key r j h1 h2]
    split
    · exact mx_lt hv r j
    · exact hI.2.2.2.2 r j h1 h2
end

set_option maxHeartbeats 4000000 in
set_option maxRecDepth 100000 in
theorem c_M_decode (l : Launch) (Ω : sm_Ω) {X : sm_X} {w : Nat → Nat → Nat} (hw : ∀ n o, w n o < 2) {o n : Nat} (ho : o < 12) (hn0 : 0 < n) (hn : n ≤ 240) (hG : gal X) {v : Nat → Nat} (hv : ∀ i, v i < 256) (hT : ∀ k, k < 5 → X 74 k < 12 ∧ X 75 k = X 74 k + 1) (hdi : ∀ a b, a < 5 → b < 5 → X 74 a = X 74 b → a = b)
    (hB : ∀ k, k < 5 → ∀ i, i < (8 * ((n + 29) / 30)) → X (83 + 51 * X 74 k + 4 * o + 2 * w (X 74 k) o) i = mx_b v (X 74 k + 1) i) (hz : ∀ r j, r < 64 → 5 ≤ r % 8 → 5 ≤ j → j < 8 → X (6 + r) j = 0) (hr : ∀ r j, r < 64 → j < 8 → X (6 + r) j < 256) : sm_met l Ω y_M_decode b_M_decode 9 none 3 723 [.ref (Ω.2.1 + 4), .ref (Ω.2.1 + 1), .ref (Ω.2.1 + 71), .int (nI o), .ref (Ω.2.1 + 73), .int (nI n)] X (sm_rf w) (fun r X2 Y2 => r = none ∧ dcI X v (8 * ((n + 29) / 30)) 0 X2 ∧ Y2 = sm_rf w) := by
  refine sm_intro (own := RX2) (L := [some (.ref (Ω.2.1 + 4)), some (.ref (Ω.2.1 + 1)), some (.ref (Ω.2.1 + 71)), some (.int (nI o)), some (.ref (Ω.2.1 + 73)), some (.int (nI n)), none, none, none]) (by decide) rfl (by simp [Value.category]) (Nat.le_of_ble_eq_true rfl) rfl ?_
  intro Γ C I
  have hI0 : dcI X v (8 * ((n + 29) / 30)) (8 * ((n + 29) / 30)) X := ⟨fun _ _ _ => rfl, fun r j h1 h2 _ => absurd h1 (by omega), fun r j h1 h2 h3 h4 => absurd h4 (by omega), hz, hr⟩
  refine sg_bi (pc := 0) (v := 8) C d_M_decode_0 (by decide) ?_
  refine sg_il (pc := 2) C d_M_decode_2 rfl ?_
  refine sm_callSN (pc := 4) (As := [.int (nI n)]) C I (c_S_stripesOf l Ω (by omega)) nw_code nw_init sw_S_stripesOf (by decide) rfl (by decide) ⟨by decide, by decide⟩ rfl (Nat.le_of_ble_eq_true rfl) d_M_decode_4 (sm_det_i ?_)
  refine sg_mul (pc := 7) C d_M_decode_7 ?_
  refine sg_ic (pc := 8) (v := 1) C d_M_decode_8 (by decide) ?_
  refine sg_sub (pc := 9) C d_M_decode_9 (by omega) ?_
  refine sg_is6 (pc := 10) C d_M_decode_10 ?_
  have loop1 : ∀ c (Z : sm_X) z7 z8, c ≤ (8 * ((n + 29) / 30)) → dcI X v (8 * ((n + 29) / 30)) c Z → sm_G Γ Ω 723 0 0 12 [some (.ref (Ω.2.1 + 4)), some (.ref (Ω.2.1 + 1)), some (.ref (Ω.2.1 + 71)), some (.int (nI o)), some (.ref (Ω.2.1 + 73)), some (.int (nI n)), some (.int (nI c + (-1))), z7, z8] [] Z (sm_rf w) := by
    intro c
    induction c with
    | zero =>
      intro Z z7 z8 hc hI
      refine sg_il (pc := 12) C d_M_decode_12 rfl ?_
      refine sr_iflt (pc := 14) (tgt := 122) C d_M_decode_14 (by decide) (fun h14 => ?_) (fun h14 => absurd (by decide) h14)
      exact sg_vret (pc := 122) C I rfl d_M_decode_122 ⟨rfl, hI, rfl⟩
    | succ c ih1 =>
      intro Z z7 z8 hc hI
      rw [sn_m1]
      have hG2 := dc_gal hG hI
      have gz : gal (dcZ1 Z c) := gal_uf hG2 (by omega) (by omega)
      have gk : ∀ k, gal (dcZ2 X v Z c k) := fun k => gal_uf gz (by decide) (by decide)
      have rb : ∀ j, j < 8 → dcZ1 Z c (6 + c) j < 256 := fun j hj => by
        rw [dcZ1_r]
        split
        · decide
        · exact hI.2.2.2.2 c j (by omega) hj
      have e75 : ∀ k j, dcZ2 X v Z c k 75 j = X 75 j := fun k j => (dcZ2_o (by decide) (by omega)).trans (hI.1 75 j (by omega))
      have e74 : ∀ k j, dcZ2 X v Z c k 74 j = X 74 j := fun k j => (dcZ2_o (by decide) (by omega)).trans (hI.1 74 j (by omega))
      refine sg_il (pc := 12) C d_M_decode_12 rfl ?_
      refine sr_iflt (pc := 14) (tgt := 122) C d_M_decode_14 (by decide) (fun h14 => absurd h14 (nI_pos (by omega))) (fun h14 => ?_)
      refine sg_aln (pc := 17) C d_M_decode_17 rfl ?_
      refine sg_aln (pc := 18) C d_M_decode_18 rfl ?_
      refine sg_getr (pc := 19) C fw_M_11 (by omega) rfl rfl rfl d_M_decode_19 ?_
      refine sg_il (pc := 22) C d_M_decode_22 rfl ?_
      refine sg_aald (pc := 24) (n := 64) (t := 3) C (by omega) rfl (by decide) rfl rfl (by omega) (by decide) (rf_rows (by omega)) d_M_decode_24 ?_
      refine sm_callV (pc := 25) (As := [.ref (Ω.2.1 + (6 + c))]) C I (c_M_forgetFirstFive l Ω (i := c) (by omega)) cw_M_45 iw_M_forgetFirstFive (C.1.2.2.2.2 _ (List.mem_cons_of_mem _ se_M_forgetFirstFive)) (by omega) rfl rfl rfl rfl (by decide) ⟨by decide, by decide⟩ rfl (Nat.le_of_ble_eq_true rfl) d_M_decode_25 (sm_det_v ?_)
      change sm_G Γ Ω 723 0 0 (25 + 3) _ _ (dcZ1 Z c) (sm_rf w)
      refine sg_ic (pc := 28) (v := 0) C d_M_decode_28 (by decide) ?_
      refine sg_is7 (pc := 29) C d_M_decode_29 ?_
      have loop2 : ∀ t k z8, k + t = 5 → sm_G Γ Ω 723 0 0 31 [some (.ref (Ω.2.1 + 4)), some (.ref (Ω.2.1 + 1)), some (.ref (Ω.2.1 + 71)), some (.int (nI o)), some (.ref (Ω.2.1 + 73)), some (.int (nI n)), some (.int (nI c)), some (.int (nI k)), z8] [] (dcZ2 X v Z c k) (sm_rf w) := by
        intro t
        induction t with
        | zero =>
          intro k z8 hk
          refine sg_il (pc := 31) C d_M_decode_31 rfl ?_
          refine sg_ic (pc := 33) (v := 5) C d_M_decode_33 (by decide) ?_
          refine sg_icge (pc := 34) (tgt := 96) C d_M_decode_34 (by decide) (by omega) (by omega) (fun h34 => ?_) (fun h34 => absurd h34 (by omega))
          refine sg_aln (pc := 96) C d_M_decode_96 rfl ?_
          refine sg_al (pc := 97) C d_M_decode_97 rfl ?_
          refine sg_getr (pc := 99) C fw_M_49 (by omega) rfl rfl rfl d_M_decode_99 ?_
          refine sg_aln (pc := 102) C d_M_decode_102 rfl ?_
          refine sg_getr (pc := 103) C fw_M_16 (by omega) rfl rfl rfl d_M_decode_103 ?_
          refine sg_ic (pc := 106) (v := 5) C d_M_decode_106 (by decide) ?_
          rw [show k = 5 by omega]
          refine sm_callV (pc := 107) (As := [.ref (Ω.2.1 + 75), .ref (Ω.2.1 + 70), .int (nI 5)]) C I (c_G_interpolate l Ω (X := dcZ2 X v Z c 5) (i := 75) (j := 70) (m := 5) (ni := 8) (nj := 5) (gk 5) (by decide) rfl (by decide) (by decide) rfl (by decide) (by decide) (by decide) (by decide) (by decide) (by decide) (by decide) (fun k hk => by rw [e75]; have := hT k hk; omega) (fun k hk => by rw [show dcZ2 X v Z c 5 70 k = dcV X v Z c k from sm_uf_s.trans (if_pos hk), dc_val hI hv (by omega)]; exact gf_h_lt (fun i => by show (if i < 5 then mx v c i else 0) < 256; split; exact mx_lt hv c i; decide) _ _ _)) cw_M_63 iw_G_interpolate (C.1.2.2.2.2 _ (List.mem_cons_of_mem _ se_G_interpolate)) (by omega) rfl rfl rfl rfl (by decide) ⟨by decide, by decide⟩ rfl (Nat.le_of_ble_eq_true rfl) d_M_decode_107 (sm_det_v ?_)
          change sm_G Γ Ω 723 0 0 (107 + 3) _ _ (dcZ3 X v Z c) (sm_rf w)
          refine sg_aln (pc := 110) C d_M_decode_110 rfl ?_
          refine sg_il (pc := 111) C d_M_decode_111 rfl ?_
          refine sm_callV (pc := 113) (As := [.int (nI c)]) C I (c_M_setFirstFive l Ω (i := c) (by omega)) cw_M_67 iw_M_setFirstFive (C.1.2.2.2.2 _ (List.mem_cons_of_mem _ se_M_setFirstFive)) (by omega) rfl rfl rfl rfl (by decide) ⟨by decide, by decide⟩ rfl (Nat.le_of_ble_eq_true rfl) d_M_decode_113 (sm_det_v ?_)
          refine sg_dec6 (pc := 116) C d_M_decode_116 ?_
          refine sg_goto (pc := 119) (tgt := 12) C d_M_decode_119 (by decide) ?_
          exact ih1 _ _ _ (by omega) (dc_step hI hv (by omega) (by omega) (fun k hk => by have := hT k hk; omega) (fun a b ha hb he => hdi a b ha hb (by have := hT a ha; have := hT b hb; omega)))
        | succ t ih2 =>
          intro k z8 hk
          obtain ⟨m1, m2⟩ := hT k (by omega)
          have hwk := hw (X 74 k) o
          refine sg_il (pc := 31) C d_M_decode_31 rfl ?_
          refine sg_ic (pc := 33) (v := 5) C d_M_decode_33 (by decide) ?_
          refine sg_icge (pc := 34) (tgt := 96) C d_M_decode_34 (by decide) (by omega) (by omega) (fun h34 => absurd h34 (by omega)) (fun h34 => ?_)
          refine sg_aln (pc := 37) C d_M_decode_37 rfl ?_
          refine sg_al (pc := 38) C d_M_decode_38 rfl ?_
          refine sg_getr (pc := 40) C fw_M_49 (by omega) rfl rfl rfl d_M_decode_40 ?_
          refine sg_il (pc := 43) C d_M_decode_43 rfl ?_
          refine sg_iald (pc := 45) (n := 8) C (by omega) rfl (by omega) (by decide) d_M_decode_45 ?_
          rw [e75]
          refine sg_aln (pc := 46) C d_M_decode_46 rfl ?_
          refine sg_getr (pc := 47) C fw_M_11 (by omega) rfl rfl rfl d_M_decode_47 ?_
          refine sg_il (pc := 50) C d_M_decode_50 rfl ?_
          refine sg_aald (pc := 52) (n := 64) (t := 3) C (by omega) rfl (by decide) rfl rfl (by omega) (by decide) (rf_rows (by omega)) d_M_decode_52 ?_
          refine sg_ic (pc := 53) (v := 0) C d_M_decode_53 (by decide) ?_
          refine sm_callV (pc := 54) (As := [.int (nI (X 75 k)), .ref (Ω.2.1 + (6 + c)), .int (nI 0)]) C I (c_G_valueAt l Ω (X := dcZ2 X v Z c k) (p := X 75 k) (i := 6 + c) (n := 8) (fr := 0) (gk k) (by omega) (by omega) (sh_R (by omega)) (by decide) (by decide) (fun j hj => by rw [Nat.zero_add, show dcZ2 X v Z c k (6 + c) j = dcZ1 Z c (6 + c) j from sm_uf_o (by omega)]; exact rb j hj)) cw_M_39 iw_G_valueAt (C.1.2.2.2.2 _ (List.mem_cons_of_mem _ se_G_valueAt)) (by omega) rfl rfl rfl rfl (by decide) ⟨by decide, by decide⟩ rfl (Nat.le_of_ble_eq_true rfl) d_M_decode_54 (sm_det_i ?_)
          rw [show gf_h (fun j => dcZ2 X v Z c k (6 + c) (0 + j)) (X 75 k) 0 8 = gf_h (dcZ1 Z c (6 + c)) (X 75 k) 0 8 from gf_h_uf (by omega)]
          refine sg_is8 (pc := 57) C d_M_decode_57 ?_
          refine sg_aln (pc := 59) C d_M_decode_59 rfl ?_
          refine sg_getr (pc := 60) C fw_M_16 (by omega) rfl rfl rfl d_M_decode_60 ?_
          refine sg_il (pc := 63) C d_M_decode_63 rfl ?_
          refine sg_aln (pc := 65) C d_M_decode_65 rfl ?_
          refine sg_al (pc := 66) C d_M_decode_66 rfl ?_
          refine sg_getr (pc := 68) C fw_M_54 (by omega) rfl rfl rfl d_M_decode_68 ?_
          refine sg_il (pc := 71) C d_M_decode_71 rfl ?_
          refine sg_iald (pc := 73) (n := 8) C (by omega) rfl (by omega) (by decide) d_M_decode_73 ?_
          rw [e74]
          refine sg_aald (pc := 74) (n := 12) (t := 4) C (by omega) rfl (by decide) rfl rfl (by omega) (by decide) (rf_nodes (by omega)) d_M_decode_74 ?_
          refine sg_getr (pc := 75) C fw_M_57 (by omega) (sh_N (by omega)) rfl (rf_N1 (by omega)) d_M_decode_75 ?_
          refine sg_iln (pc := 78) C d_M_decode_78 rfl ?_
          refine sg_aald (pc := 79) (n := 12) (t := 6) C (by omega) (sh_Ns (by omega)) (by decide) rfl rfl (by omega) (by decide) (rf_Ns (by omega) (by omega)) d_M_decode_79 ?_
          refine sg_getr (pc := 80) C fw_M_36 (by omega) (sh_S (by omega) (by omega) (hw _ _)) rfl (rf_S2 (by omega) (by omega) (hw _ _)) d_M_decode_80 ?_
          refine sg_il (pc := 83) C d_M_decode_83 rfl ?_
          refine sg_iald (pc := 85) (n := 64) C (by omega) (sh_Sb (by omega) (by omega) (hw _ _)) (by omega) (by decide) d_M_decode_85 ?_
          rw [show dcZ2 X v Z c k (83 + 51 * X 74 k + 4 * o + 2 * w (X 74 k) o) c = mx_b v (X 75 k) c by rw [dcZ2_o (by omega) (by omega), hI.1 _ _ (by omega), hB k (by omega) c (by omega), m2]]
          refine sg_il (pc := 86) C d_M_decode_86 rfl ?_
          refine sg_xor (pc := 88) C d_M_decode_88 ?_
          rw [show mx_b v (X 75 k) c ^^^ gf_h (dcZ1 Z c (6 + c)) (X 75 k) 0 8 = dcV X v Z c k from rfl]
          refine sg_iast (pc := 89) (n := 5) C (by omega) rfl (by omega) (by decide) d_M_decode_89 ?_
          rw [dcZ2_s]
          refine sg_inc7 (pc := 90) (n := 1) C d_M_decode_90 (by decide) ?_
          refine sg_goto (pc := 93) (tgt := 31) C d_M_decode_93 (by decide) ?_
          exact ih2 (k + 1) _ (by omega)
      have h0 := loop2 5 0 z8 (by omega)
      rw [dcZ2_0] at h0
      exact h0
  have h0 := loop1 (8 * ((n + 29) / 30)) X none none (Nat.le_refl _) hI0
  rw [show nI (8 * ((n + 29) / 30)) + (-1) = nI ((8 * ((n + 29) / 30)) - 1) by rw [show (8 * ((n + 29) / 30)) = (8 * ((n + 29) / 30)) - 1 + 1 by omega]; exact sn_m1 _] at h0
  exact h0
end
section
/-! The shelf's private methods that only read: counting, masks -/
section
variable {Γ : sm_Γ} {Ω : sm_Ω} {cc : ByteArray} {own : String} {nL : Nat} {w0 : Cond} {M cs sl pc : Nat} {L : List (Option Value)} {st : List Value} {X : sm_X} {Y : sm_R}
theorem sg_ldcw (C : sm_C Γ Ω cc own nL w0) {index : Nat} {v : Int32} (hl : Cond.constant own index v ∈ sm_ws) (hd : decode cc pc = .ok (.ldc_w index, 3)) (kk : sm_G Γ Ω M cs sl (pc + 3) L (.int v :: st) X Y) : sm_G Γ Ω M cs sl pc L st X Y := by
  intro ls H locs hL hP hS
  exact lv_ldcw C.1.1 C.1.2.1 C.1.2.2.2.1 (C.1.2.2.2.2 _ (List.mem_cons_of_mem _ hl)) hd (kk ls H locs hL hP hS)
end
theorem sn_sh0 : ∀ k, k < 12 → ((nI k &&& 31).toBitVec.smod 32).toNat = k := by decide +kernel
theorem sn_shr {m k : Nat} (hm : m < 2 ^ 31) (hk : k < 12) : nI m >>> (nI k &&& 31) = nI (m / 2 ^ k) := pk_shrN hm _ k (sn_sh0 k hk)
theorem sn_shl : ∀ k, k < 12 → nI 1 <<< (nI k &&& 31) = nI (2 ^ k) := by decide +kernel
/-- a mask out of a test of each node -/
def sm_k (p : Nat → Bool) : Nat → Nat
  | 0 => 0
  | n + 1 => sm_k p n + (if p n = true then 2 ^ n else 0)
theorem sm_k_lt (p : Nat → Bool) : ∀ n, sm_k p n < 2 ^ n
  | 0 => by show 0 < 2 ^ 0; decide
  | n + 1 => by
    have := sm_k_lt p n
    show sm_k p n + (if p n = true then 2 ^ n else 0) < 2 ^ (n + 1)
    rw [Nat.pow_succ]
    split <;> omega
theorem sm_k_or (p : Nat → Bool) (n : Nat) : sm_k p n ||| 2 ^ n = sm_k p n + 2 ^ n := by
  have h := Nat.two_pow_add_eq_or_of_lt (sm_k_lt p n) 1
  rw [Nat.mul_one] at h
  rw [Nat.or_comm, ← h, Nat.add_comm]
theorem sm_k_bit (p : Nat → Bool) : ∀ n k, k < n → (sm_k p n / 2 ^ k % 2 = 1 ↔ p k = true)
  | 0, k, h => absurd h (Nat.not_lt_zero k)
  | n + 1, k, h => by
    show (sm_k p n + (if p n = true then 2 ^ n else 0)) / 2 ^ k % 2 = 1 ↔ _
    by_cases e : k = n
    · subst e
      have h1 := sm_k_lt p k
      split
      · rename_i hp
        rw [Nat.add_div_right _ (Nat.two_pow_pos k), Nat.div_eq_of_lt h1]
        simp [hp]
      · rename_i hp
        rw [Nat.add_zero, Nat.div_eq_of_lt h1]
        simp [hp]
    · rw [← sm_k_bit p n k (by omega)]
      split
      · obtain ⟨d, rfl⟩ : ∃ d, n = k + 1 + d := ⟨n - (k + 1), by omega⟩
        rw [show 2 ^ (k + 1 + d) = 2 ^ k * (2 * 2 ^ d) by rw [Nat.pow_add, Nat.pow_succ, Nat.mul_assoc], Nat.add_mul_div_left _ _ (Nat.two_pow_pos k), Nat.add_mul_mod_self_left]
      · rw [Nat.add_zero]

abbrev b_J_bitCount : ByteArray := prog_14_method_49_code
abbrev y_J_bitCount : MethodName := ⟨"java/lang/Integer", "bitCount", "(I)I"⟩
theorem d_J_bitCount_0 : decode b_J_bitCount 0 = .ok (.iload_n 0, 1) := by decide +kernel
theorem d_J_bitCount_1 : decode b_J_bitCount 1 = .ok (.iload_n 0, 1) := by decide +kernel
theorem d_J_bitCount_2 : decode b_J_bitCount 2 = .ok (.iconst (1), 1) := by decide +kernel
theorem d_J_bitCount_3 : decode b_J_bitCount 3 = .ok (.iushr, 1) := by decide +kernel
theorem d_J_bitCount_4 : decode b_J_bitCount 4 = .ok (.ldc_w 265, 3) := by decide +kernel
theorem d_J_bitCount_7 : decode b_J_bitCount 7 = .ok (.iand, 1) := by decide +kernel
theorem d_J_bitCount_8 : decode b_J_bitCount 8 = .ok (.isub, 1) := by decide +kernel
theorem d_J_bitCount_9 : decode b_J_bitCount 9 = .ok (.istore_n 0, 1) := by decide +kernel
theorem d_J_bitCount_10 : decode b_J_bitCount 10 = .ok (.iload_n 0, 1) := by decide +kernel
theorem d_J_bitCount_11 : decode b_J_bitCount 11 = .ok (.ldc_w 266, 3) := by decide +kernel
theorem d_J_bitCount_14 : decode b_J_bitCount 14 = .ok (.iand, 1) := by decide +kernel
theorem d_J_bitCount_15 : decode b_J_bitCount 15 = .ok (.iload_n 0, 1) := by decide +kernel
theorem d_J_bitCount_16 : decode b_J_bitCount 16 = .ok (.iconst (2), 1) := by decide +kernel
theorem d_J_bitCount_17 : decode b_J_bitCount 17 = .ok (.iushr, 1) := by decide +kernel
theorem d_J_bitCount_18 : decode b_J_bitCount 18 = .ok (.ldc_w 266, 3) := by decide +kernel
theorem d_J_bitCount_21 : decode b_J_bitCount 21 = .ok (.iand, 1) := by decide +kernel
theorem d_J_bitCount_22 : decode b_J_bitCount 22 = .ok (.iadd, 1) := by decide +kernel
theorem d_J_bitCount_23 : decode b_J_bitCount 23 = .ok (.istore_n 0, 1) := by decide +kernel
theorem d_J_bitCount_24 : decode b_J_bitCount 24 = .ok (.iload_n 0, 1) := by decide +kernel
theorem d_J_bitCount_25 : decode b_J_bitCount 25 = .ok (.iload_n 0, 1) := by decide +kernel
theorem d_J_bitCount_26 : decode b_J_bitCount 26 = .ok (.iconst (4), 1) := by decide +kernel
theorem d_J_bitCount_27 : decode b_J_bitCount 27 = .ok (.iushr, 1) := by decide +kernel
theorem d_J_bitCount_28 : decode b_J_bitCount 28 = .ok (.iadd, 1) := by decide +kernel
theorem d_J_bitCount_29 : decode b_J_bitCount 29 = .ok (.ldc_w 267, 3) := by decide +kernel
theorem d_J_bitCount_32 : decode b_J_bitCount 32 = .ok (.iand, 1) := by decide +kernel
theorem d_J_bitCount_33 : decode b_J_bitCount 33 = .ok (.istore_n 0, 1) := by decide +kernel
theorem d_J_bitCount_34 : decode b_J_bitCount 34 = .ok (.iload_n 0, 1) := by decide +kernel
theorem d_J_bitCount_35 : decode b_J_bitCount 35 = .ok (.iload_n 0, 1) := by decide +kernel
theorem d_J_bitCount_36 : decode b_J_bitCount 36 = .ok (.bipush (8), 2) := by decide +kernel
theorem d_J_bitCount_38 : decode b_J_bitCount 38 = .ok (.iushr, 1) := by decide +kernel
theorem d_J_bitCount_39 : decode b_J_bitCount 39 = .ok (.iadd, 1) := by decide +kernel
theorem d_J_bitCount_40 : decode b_J_bitCount 40 = .ok (.istore_n 0, 1) := by decide +kernel
theorem d_J_bitCount_41 : decode b_J_bitCount 41 = .ok (.iload_n 0, 1) := by decide +kernel
theorem d_J_bitCount_42 : decode b_J_bitCount 42 = .ok (.iload_n 0, 1) := by decide +kernel
theorem d_J_bitCount_43 : decode b_J_bitCount 43 = .ok (.bipush (16), 2) := by decide +kernel
theorem d_J_bitCount_45 : decode b_J_bitCount 45 = .ok (.iushr, 1) := by decide +kernel
theorem d_J_bitCount_46 : decode b_J_bitCount 46 = .ok (.iadd, 1) := by decide +kernel
theorem d_J_bitCount_47 : decode b_J_bitCount 47 = .ok (.istore_n 0, 1) := by decide +kernel
theorem d_J_bitCount_48 : decode b_J_bitCount 48 = .ok (.iload_n 0, 1) := by decide +kernel
theorem d_J_bitCount_49 : decode b_J_bitCount 49 = .ok (.bipush (63), 2) := by decide +kernel
theorem d_J_bitCount_51 : decode b_J_bitCount 51 = .ok (.iand, 1) := by decide +kernel
theorem d_J_bitCount_52 : decode b_J_bitCount 52 = .ok (.ireturn, 1) := by decide +kernel
theorem kc_265 : Cond.constant "java/lang/Integer" 265 1431655765 ∈ sm_ws := sm_inT 438 (by decide +kernel) (by decide +kernel)
theorem kc_266 : Cond.constant "java/lang/Integer" 266 858993459 ∈ sm_ws := sm_inT 439 (by decide +kernel) (by decide +kernel)
theorem kc_267 : Cond.constant "java/lang/Integer" 267 252645135 ∈ sm_ws := sm_inT 440 (by decide +kernel) (by decide +kernel)
theorem cw_S_127 : sm_cw RX6 127 y_J_bitCount b_J_bitCount 1 (some .int) 1 := ⟨sm_inT 437 (by decide +kernel) (by decide +kernel), sm_inT 17 (by decide +kernel) (by decide +kernel), sm_inT 435 (by decide +kernel) (by decide +kernel), ⟨by decide, by decide, by decide +kernel⟩, by decide⟩
theorem sw_J_bitCount : Cond.static y_J_bitCount ∈ sm_ws := sm_inT 436 (by decide +kernel) (by decide +kernel)
def bu (x y : Int32) : Int32 := (x.toUInt32 >>> (y.toUInt32 &&& Int32.toUInt32 31)).toInt32
def bc (x : Int32) : Int32 :=
  let a := x - (bu x 1 &&& 1431655765)
  let b := (a &&& 858993459) + (bu a 2 &&& 858993459)
  let c := (b + bu b 4) &&& 252645135
  let d := c + bu c 8
  let e := d + bu d 16
  e &&& 63
def pop (m : Nat) : Nat := sm_n (fun k => decide (m / 2 ^ k % 2 = 1)) 12
theorem bc_pop0 : (List.range 64).all (fun a => (List.range 64).all (fun b => decide (bc (nI (64 * a + b)) = nI (pop (64 * a + b))))) = true := by decide +kernel
theorem bc_pop {m : Nat} (h : m < 4096) : bc (nI m) = nI (pop m) := by
  have h1 := List.all_eq_true.mp bc_pop0 (m / 64) (List.mem_range.mpr (by omega))
  have h2 := of_decide_eq_true (List.all_eq_true.mp h1 (m % 64) (List.mem_range.mpr (by omega)))
  rw [show 64 * (m / 64) + m % 64 = m by omega] at h2
  exact h2

set_option maxHeartbeats 4000000 in
set_option maxRecDepth 100000 in
theorem c_J_bitCount (l : Launch) (Ω : sm_Ω) {X : sm_X} {w : Nat → Nat → Nat} {m : Nat} (hm : m < 4096) : sm_met l Ω y_J_bitCount b_J_bitCount 1 (some .int) 1 723 [.int (nI m)] X (sm_rf w) (sm_det (some (.int (nI (pop m)))) X (sm_rf w)) := by
  refine sm_intro (own := "java/lang/Integer") (L := [some (.int (nI m))]) (by decide) rfl (by simp [Value.category]) (Nat.le_of_ble_eq_true rfl) rfl ?_
  intro Γ C I
  refine sg_iln (pc := 0) C d_J_bitCount_0 rfl ?_
  refine sg_iln (pc := 1) C d_J_bitCount_1 rfl ?_
  refine sg_icm (v := 1) (pc := 2) C d_J_bitCount_2 (by decide) ?_
  refine sr_iushr (z := bu _ _) (pc := 3) C d_J_bitCount_3 rfl ?_
  refine sg_ldcw (pc := 4) C kc_265 d_J_bitCount_4 ?_
  refine sr_iand (pc := 7) C d_J_bitCount_7 rfl ?_
  refine sr_isub (pc := 8) C d_J_bitCount_8 rfl ?_
  refine sg_is0 (pc := 9) C d_J_bitCount_9 ?_
  refine sg_iln (pc := 10) C d_J_bitCount_10 rfl ?_
  refine sg_ldcw (pc := 11) C kc_266 d_J_bitCount_11 ?_
  refine sr_iand (pc := 14) C d_J_bitCount_14 rfl ?_
  refine sg_iln (pc := 15) C d_J_bitCount_15 rfl ?_
  refine sg_icm (v := 2) (pc := 16) C d_J_bitCount_16 (by decide) ?_
  refine sr_iushr (z := bu _ _) (pc := 17) C d_J_bitCount_17 rfl ?_
  refine sg_ldcw (pc := 18) C kc_266 d_J_bitCount_18 ?_
  refine sr_iand (pc := 21) C d_J_bitCount_21 rfl ?_
  refine sr_iadd (pc := 22) C d_J_bitCount_22 rfl ?_
  refine sg_is0 (pc := 23) C d_J_bitCount_23 ?_
  refine sg_iln (pc := 24) C d_J_bitCount_24 rfl ?_
  refine sg_iln (pc := 25) C d_J_bitCount_25 rfl ?_
  refine sg_icm (v := 4) (pc := 26) C d_J_bitCount_26 (by decide) ?_
  refine sr_iushr (z := bu _ _) (pc := 27) C d_J_bitCount_27 rfl ?_
  refine sr_iadd (pc := 28) C d_J_bitCount_28 rfl ?_
  refine sg_ldcw (pc := 29) C kc_267 d_J_bitCount_29 ?_
  refine sr_iand (pc := 32) C d_J_bitCount_32 rfl ?_
  refine sg_is0 (pc := 33) C d_J_bitCount_33 ?_
  refine sg_iln (pc := 34) C d_J_bitCount_34 rfl ?_
  refine sg_iln (pc := 35) C d_J_bitCount_35 rfl ?_
  refine sg_bi (v := 8) (pc := 36) C d_J_bitCount_36 (by decide) ?_
  refine sr_iushr (z := bu _ _) (pc := 38) C d_J_bitCount_38 rfl ?_
  refine sr_iadd (pc := 39) C d_J_bitCount_39 rfl ?_
  refine sg_is0 (pc := 40) C d_J_bitCount_40 ?_
  refine sg_iln (pc := 41) C d_J_bitCount_41 rfl ?_
  refine sg_iln (pc := 42) C d_J_bitCount_42 rfl ?_
  refine sg_bi (v := 16) (pc := 43) C d_J_bitCount_43 (by decide) ?_
  refine sr_iushr (z := bu _ _) (pc := 45) C d_J_bitCount_45 rfl ?_
  refine sr_iadd (pc := 46) C d_J_bitCount_46 rfl ?_
  refine sg_is0 (pc := 47) C d_J_bitCount_47 ?_
  refine sg_iln (pc := 48) C d_J_bitCount_48 rfl ?_
  refine sg_bi (v := 63) (pc := 49) C d_J_bitCount_49 (by decide) ?_
  refine sr_iand (pc := 51) C d_J_bitCount_51 rfl ?_
  exact sg_iret (pc := 52) C I rfl rfl d_J_bitCount_52 ⟨congrArg (fun z => some (Value.int z)) (bc_pop hm), rfl, rfl⟩

def slv (X : sm_X) (k : Nat) : Bool := decide (X (79 + 51 * k) 3 ≠ 0)
def sfr (X : sm_X) (w : Nat → Nat → Nat) (n o : Nat) : Bool := decide (X (82 + 51 * n + 4 * o + 2 * w n o) 0 = X (691 + o) 0)
def b2 (b : Bool) : Nat := if b = true then 1 else 0
theorem b2_lt (b : Bool) : b2 b < 2 := by cases b <;> decide
theorem b2_1 {b : Bool} (h : b2 b ≠ 0) : b = true := by cases b <;> simp_all [b2]
theorem b2_0 {b : Bool} (h : b2 b = 0) : b = false := by cases b <;> simp_all [b2]
/-- live: 0 or 1; versions: numbers -/
def swf (X : sm_X) (w : Nat → Nat → Nat) : Prop := (∀ n o, w n o < 2) ∧ (∀ n, n < 12 → X (79 + 51 * n) 0 = n + 1 ∧ X (79 + 51 * n) 3 < 2 ∧ X (79 + 51 * n) 4 < 2 ^ 30) ∧
  (∀ o, o < 12 → (∀ j, j < 4 → X (691 + o) j < 2 ^ 30) ∧ X (691 + o) 4 < 2 ∧ X (691 + o) 1 ≤ 240 ∧ X (691 + o) 3 ≤ 240) ∧ (∀ n o b, n < 12 → o < 12 → b < 2 → X (82 + 51 * n + 4 * o + 2 * b) 0 < 2 ^ 30 ∧ X (82 + 51 * n + 4 * o + 2 * b) 1 ≤ 240)

set_option maxHeartbeats 4000000 in
set_option maxRecDepth 100000 in
theorem c_S_countLive (l : Launch) (Ω : sm_Ω) {X : sm_X} {w : Nat → Nat → Nat} (hf : swf X w) : sm_met l Ω y_S_countLive b_S_countLive 3 (some .int) 1 723 [.ref (Ω.2.1 + 0)] X (sm_rf w) (sm_det (some (.int (nI (sm_n (slv X) 12)))) X (sm_rf w)) := by
  refine sm_intro (own := RX6) (L := [some (.ref (Ω.2.1 + 0)), none, none]) (by decide) rfl (by simp [Value.category]) (Nat.le_of_ble_eq_true rfl) rfl ?_
  intro Γ C I
  have hw := hf.1
  have hb : ∀ k, k < 12 → X (79 + 51 * k) 3 < 2 ^ 31 := fun k hk => by have := hf.2.1 k hk; omega
  refine sg_ic (pc := 0) (v := 0) C d_S_countLive_0 (by decide) ?_
  refine sg_is1 (pc := 1) C d_S_countLive_1 ?_
  refine sg_ic (pc := 2) (v := 0) C d_S_countLive_2 (by decide) ?_
  refine sg_is2 (pc := 3) C d_S_countLive_3 ?_
  have loop : ∀ t k, k + t = 12 → sm_G Γ Ω 723 0 0 4 [some (.ref (Ω.2.1 + 0)), some (.int (nI (sm_n (slv X) k))), some (.int (nI k))] [] X (sm_rf w) := by
    intro t
    induction t with
    | zero =>
      intro k hk
      refine sg_iln (pc := 4) C d_S_countLive_4 rfl ?_
      refine sg_bi (pc := 5) (v := 12) C d_S_countLive_5 (by decide) ?_
      refine sg_icge (pc := 7) (tgt := 31) C d_S_countLive_7 (by decide) (by omega) (by omega) (fun h7 => ?_) (fun h7 => absurd h7 (by omega))
      refine sg_iln (pc := 31) C d_S_countLive_31 rfl ?_
      exact sg_iret (pc := 32) C I rfl rfl d_S_countLive_32 ⟨by rw [show k = 12 by omega], rfl, rfl⟩
    | succ t ih =>
      intro k hk
      have hbk := hb k (by omega)
      refine sg_iln (pc := 4) C d_S_countLive_4 rfl ?_
      refine sg_bi (pc := 5) (v := 12) C d_S_countLive_5 (by decide) ?_
      refine sg_icge (pc := 7) (tgt := 31) C d_S_countLive_7 (by decide) (by omega) (by omega) (fun h7 => absurd h7 (by omega)) (fun h7 => ?_)
      refine sg_aln (pc := 10) C d_S_countLive_10 rfl ?_
      refine sg_getr (pc := 11) C fw_S_25 (by omega) rfl rfl rfl d_S_countLive_11 ?_
      refine sg_iln (pc := 14) C d_S_countLive_14 rfl ?_
      refine sg_aald (pc := 15) (n := 12) (t := 4) C (by omega) rfl (by decide) rfl rfl (by omega) (by decide) (rf_nodes (by omega)) d_S_countLive_15 ?_
      refine sg_geti (pc := 16) C fw_S_149 (by omega) (sh_N (by omega)) rfl d_S_countLive_16 ?_
      refine sg_ifeq (pc := 19) (tgt := 25) C d_S_countLive_19 (by decide) (by omega) (fun h19 => ?_) (fun h19 => ?_)
      · refine sg_inc2 (pc := 25) (n := 1) C d_S_countLive_25 (by decide) ?_
        refine sg_goto (pc := 28) (tgt := 4) C d_S_countLive_28 (by decide) ?_
        have h := ih (k + 1) (by omega)
        rw [show sm_n (slv X) (k + 1) = sm_n (slv X) k + (if slv X k = true then 1 else 0) from rfl] at h
        first | (rw [if_neg (by simpa [slv] using h19)] at h; exact h) | (rw [if_pos (by simpa [slv] using h19)] at h; exact h)
      · refine sg_inc1 (pc := 22) (n := 1) C d_S_countLive_22 (by decide) ?_
        refine sg_inc2 (pc := 25) (n := 1) C d_S_countLive_25 (by decide) ?_
        refine sg_goto (pc := 28) (tgt := 4) C d_S_countLive_28 (by decide) ?_
        have h := ih (k + 1) (by omega)
        rw [show sm_n (slv X) (k + 1) = sm_n (slv X) k + (if slv X k = true then 1 else 0) from rfl] at h
        first | (rw [if_neg (by simpa [slv] using h19)] at h; exact h) | (rw [if_pos (by simpa [slv] using h19)] at h; exact h)
  exact loop 12 0 (by omega)

set_option maxHeartbeats 4000000 in
set_option maxRecDepth 100000 in
theorem c_S_isFresh (l : Launch) (Ω : sm_Ω) {X : sm_X} {w : Nat → Nat → Nat} (hf : swf X w) {n o : Nat} (hn : n < 12) (ho : o < 12) : sm_met l Ω y_S_isFresh b_S_isFresh 3 (some .boolean) 1 723 [.ref (Ω.2.1 + 0), .int (nI n), .int (nI o)] X (sm_rf w) (sm_det (some (.int (nI (b2 (sfr X w n o))))) X (sm_rf w)) := by
  refine sm_intro (own := RX6) (L := [some (.ref (Ω.2.1 + 0)), some (.int (nI n)), some (.int (nI o))]) (by decide) rfl (by simp [Value.category]) (Nat.le_of_ble_eq_true rfl) rfl ?_
  intro Γ C I
  have hw := hf.1
  have hwk := hw n o
  have g1 := hf.2.2.2 n o (w n o) hn ho (hw n o)
  have g2 := (hf.2.2.1 o ho).1 0 (by decide)
  refine sg_aln (pc := 0) C d_S_isFresh_0 rfl ?_
  refine sg_getr (pc := 1) C fw_S_25 (by omega) rfl rfl rfl d_S_isFresh_1 ?_
  refine sg_iln (pc := 4) C d_S_isFresh_4 rfl ?_
  refine sg_aald (pc := 5) (n := 12) (t := 4) C (by omega) rfl (by decide) rfl rfl (by omega) (by decide) (rf_nodes (by omega)) d_S_isFresh_5 ?_
  refine sg_getr (pc := 6) C fw_S_174 (by omega) (sh_N (by omega)) rfl (rf_N1 (by omega)) d_S_isFresh_6 ?_
  refine sg_iln (pc := 9) C d_S_isFresh_9 rfl ?_
  refine sg_aald (pc := 10) (n := 12) (t := 6) C (by omega) (sh_Ns (by omega)) (by decide) rfl rfl (by omega) (by decide) (rf_Ns (by omega) (by omega)) d_S_isFresh_10 ?_
  refine sg_geti (pc := 11) C fw_S_178 (by omega) (sh_S (by omega) (by omega) (hw _ _)) rfl d_S_isFresh_11 ?_
  refine sg_aln (pc := 14) C d_S_isFresh_14 rfl ?_
  refine sg_getr (pc := 15) C fw_S_31 (by omega) rfl rfl rfl d_S_isFresh_15 ?_
  refine sg_iln (pc := 18) C d_S_isFresh_18 rfl ?_
  refine sg_aald (pc := 19) (n := 12) (t := 5) C (by omega) rfl (by decide) rfl rfl (by omega) (by decide) (rf_items (by omega)) d_S_isFresh_19 ?_
  refine sg_geti (pc := 20) C fw_S_143 (by omega) (sh_I (by omega)) rfl d_S_isFresh_20 ?_
  refine sg_icne (pc := 23) (tgt := 30) C d_S_isFresh_23 (by decide) (by omega) (by omega) (fun h23 => ?_) (fun h23 => ?_)
  · refine sg_ic (pc := 30) (v := 0) C d_S_isFresh_30 (by decide) ?_
    exact sg_iret (pc := 31) C I rfl (sn_b (by decide)) d_S_isFresh_31 ⟨by rw [show sfr X w n o = false from decide_eq_false h23]; rfl, rfl, rfl⟩
  · refine sg_ic (pc := 26) (v := 1) C d_S_isFresh_26 (by decide) ?_
    refine sg_goto (pc := 27) (tgt := 31) C d_S_isFresh_27 (by decide) ?_
    exact sg_iret (pc := 31) C I rfl (sn_b (by decide)) d_S_isFresh_31 ⟨by rw [show sfr X w n o = true from decide_eq_true h23]; rfl, rfl, rfl⟩

set_option maxHeartbeats 4000000 in
set_option maxRecDepth 100000 in
theorem c_S_countFresh (l : Launch) (Ω : sm_Ω) {X : sm_X} {w : Nat → Nat → Nat} (hf : swf X w) {n : Nat} (hn : n < 12) : sm_met l Ω y_S_countFresh b_S_countFresh 4 (some .int) 2 723 [.ref (Ω.2.1 + 0), .int (nI n)] X (sm_rf w) (sm_det (some (.int (nI (sm_n (fun k => sfr X w n k) 12)))) X (sm_rf w)) := by
  refine sm_intro (own := RX6) (L := [some (.ref (Ω.2.1 + 0)), some (.int (nI n)), none, none]) (by decide) rfl (by simp [Value.category]) (Nat.le_of_ble_eq_true rfl) rfl ?_
  intro Γ C I
  refine sg_ic (pc := 0) (v := 0) C d_S_countFresh_0 (by decide) ?_
  refine sg_is2 (pc := 1) C d_S_countFresh_1 ?_
  refine sg_ic (pc := 2) (v := 0) C d_S_countFresh_2 (by decide) ?_
  refine sg_is3 (pc := 3) C d_S_countFresh_3 ?_
  have loop : ∀ t k, k + t = 12 → sm_G Γ Ω 723 0 0 4 [some (.ref (Ω.2.1 + 0)), some (.int (nI n)), some (.int (nI (sm_n (fun k => sfr X w n k) k))), some (.int (nI k))] [] X (sm_rf w) := by
    intro t
    induction t with
    | zero =>
      intro k hk
      refine sg_iln (pc := 4) C d_S_countFresh_4 rfl ?_
      refine sg_bi (pc := 5) (v := 12) C d_S_countFresh_5 (by decide) ?_
      refine sg_icge (pc := 7) (tgt := 28) C d_S_countFresh_7 (by decide) (by omega) (by omega) (fun h7 => ?_) (fun h7 => absurd h7 (by omega))
      refine sg_iln (pc := 28) C d_S_countFresh_28 rfl ?_
      exact sg_iret (pc := 29) C I rfl rfl d_S_countFresh_29 ⟨by rw [show k = 12 by omega], rfl, rfl⟩
    | succ t ih =>
      intro k hk
      have hb2 := b2_lt (sfr X w n k)
      refine sg_iln (pc := 4) C d_S_countFresh_4 rfl ?_
      refine sg_bi (pc := 5) (v := 12) C d_S_countFresh_5 (by decide) ?_
      refine sg_icge (pc := 7) (tgt := 28) C d_S_countFresh_7 (by decide) (by omega) (by omega) (fun h7 => absurd h7 (by omega)) (fun h7 => ?_)
      refine sg_aln (pc := 10) C d_S_countFresh_10 rfl ?_
      refine sg_iln (pc := 11) C d_S_countFresh_11 rfl ?_
      refine sg_iln (pc := 12) C d_S_countFresh_12 rfl ?_
      refine sm_callV (pc := 13) (As := [.int (nI n), .int (nI k)]) C I (c_S_isFresh l Ω hf hn (by omega)) cw_S_203 iw_S_isFresh (C.1.2.2.2.2 _ (List.mem_cons_of_mem _ se_S_isFresh)) (by omega) rfl rfl rfl rfl (by decide) ⟨by decide, by decide⟩ rfl (Nat.le_of_ble_eq_true rfl) d_S_countFresh_13 (sm_det_i ?_)
      refine sg_ifeq (pc := 16) (tgt := 22) C d_S_countFresh_16 (by decide) (by omega) (fun h16 => ?_) (fun h16 => ?_)
      · refine sg_inc3 (pc := 22) (n := 1) C d_S_countFresh_22 (by decide) ?_
        refine sg_goto (pc := 25) (tgt := 4) C d_S_countFresh_25 (by decide) ?_
        have h := ih (k + 1) (by omega)
        rw [show sm_n (fun k => sfr X w n k) (k + 1) = sm_n (fun k => sfr X w n k) k + (if sfr X w n k = true then 1 else 0) from rfl] at h
        first | (rw [if_neg (by rw [b2_0 h16]; decide)] at h; exact h) | (rw [if_pos (b2_1 h16)] at h; exact h)
      · refine sg_inc2 (pc := 19) (n := 1) C d_S_countFresh_19 (by decide) ?_
        refine sg_inc3 (pc := 22) (n := 1) C d_S_countFresh_22 (by decide) ?_
        refine sg_goto (pc := 25) (tgt := 4) C d_S_countFresh_25 (by decide) ?_
        have h := ih (k + 1) (by omega)
        rw [show sm_n (fun k => sfr X w n k) (k + 1) = sm_n (fun k => sfr X w n k) k + (if sfr X w n k = true then 1 else 0) from rfl] at h
        first | (rw [if_neg (by rw [b2_0 h16]; decide)] at h; exact h) | (rw [if_pos (b2_1 h16)] at h; exact h)
  exact loop 12 0 (by omega)

def saf (X : sm_X) (w : Nat → Nat → Nat) (o m k : Nat) : Bool := decide (m / 2 ^ k % 2 = 1) && (slv X k && sfr X w k o)

set_option maxHeartbeats 4000000 in
set_option maxRecDepth 100000 in
theorem c_S_liveAndFresh (l : Launch) (Ω : sm_Ω) {X : sm_X} {w : Nat → Nat → Nat} (hf : swf X w) {o m : Nat} (ho : o < 12) (hm : m < 4096) : sm_met l Ω y_S_liveAndFresh b_S_liveAndFresh 5 (some .int) 2 723 [.ref (Ω.2.1 + 0), .int (nI o), .int (nI m)] X (sm_rf w) (sm_det (some (.int (nI (sm_k (saf X w o m) 12)))) X (sm_rf w)) := by
  refine sm_intro (own := RX6) (L := [some (.ref (Ω.2.1 + 0)), some (.int (nI o)), some (.int (nI m)), none, none]) (by decide) rfl (by simp [Value.category]) (Nat.le_of_ble_eq_true rfl) rfl ?_
  intro Γ C I
  refine sg_ic (pc := 0) (v := 0) C d_S_liveAndFresh_0 (by decide) ?_
  refine sg_is3 (pc := 1) C d_S_liveAndFresh_1 ?_
  refine sg_ic (pc := 2) (v := 0) C d_S_liveAndFresh_2 (by decide) ?_
  refine sg_is4 (pc := 3) C d_S_liveAndFresh_3 ?_
  have loop : ∀ t k, k + t = 12 → sm_G Γ Ω 723 0 0 5 [some (.ref (Ω.2.1 + 0)), some (.int (nI o)), some (.int (nI m)), some (.int (nI (sm_k (saf X w o m) k))), some (.int (nI k))] [] X (sm_rf w) := by
    intro t
    induction t with
    | zero =>
      intro k hk
      refine sg_il (pc := 5) C d_S_liveAndFresh_5 rfl ?_
      refine sg_bi (pc := 7) (v := 12) C d_S_liveAndFresh_7 (by decide) ?_
      refine sg_icge (pc := 9) (tgt := 58) C d_S_liveAndFresh_9 (by decide) (by omega) (by omega) (fun h9 => ?_) (fun h9 => absurd h9 (by omega))
      refine sg_iln (pc := 58) C d_S_liveAndFresh_58 rfl ?_
      exact sg_iret (pc := 59) C I rfl rfl d_S_liveAndFresh_59 ⟨by rw [show k = 12 by omega], rfl, rfl⟩
    | succ t ih =>
      intro k hk
      have hb2 := b2_lt (sfr X w k o)
      have hbk := hf.2.1 k (by omega)
      have hmk : m / 2 ^ k % 2 < 2 := Nat.mod_lt _ (by decide)
      refine sg_il (pc := 5) C d_S_liveAndFresh_5 rfl ?_
      refine sg_bi (pc := 7) (v := 12) C d_S_liveAndFresh_7 (by decide) ?_
      refine sg_icge (pc := 9) (tgt := 58) C d_S_liveAndFresh_9 (by decide) (by omega) (by omega) (fun h9 => absurd h9 (by omega)) (fun h9 => ?_)
      refine sg_iln (pc := 12) C d_S_liveAndFresh_12 rfl ?_
      refine sg_il (pc := 13) C d_S_liveAndFresh_13 rfl ?_
      refine sr_ishr (pc := 15) C d_S_liveAndFresh_15 (sn_shr (by omega) (by omega)) ?_
      refine sg_ic (pc := 16) (v := 1) C d_S_liveAndFresh_16 (by decide) ?_
      refine sg_and (pc := 17) C d_S_liveAndFresh_17 ?_
      rw [Nat.and_one_is_mod]
      refine sg_ic (pc := 18) (v := 1) C d_S_liveAndFresh_18 (by decide) ?_
      refine sg_icne (pc := 19) (tgt := 52) C d_S_liveAndFresh_19 (by decide) (by omega) (by omega) (fun h19 => ?_) (fun h19 => ?_)
      · refine sg_inc4 (pc := 52) (n := 1) C d_S_liveAndFresh_52 (by decide) ?_
        refine sg_goto (pc := 55) (tgt := 5) C d_S_liveAndFresh_55 (by decide) ?_
        have h := ih (k + 1) (by omega)
        rw [show sm_k (saf X w o m) (k + 1) = sm_k (saf X w o m) k + (if saf X w o m k = true then 2 ^ k else 0) from rfl] at h
        rw [if_neg (by simp [saf, h19]), Nat.add_zero] at h
        exact h
      · refine sg_aln (pc := 22) C d_S_liveAndFresh_22 rfl ?_
        refine sg_getr (pc := 23) C fw_S_25 (by omega) rfl rfl rfl d_S_liveAndFresh_23 ?_
        refine sg_il (pc := 26) C d_S_liveAndFresh_26 rfl ?_
        refine sg_aald (pc := 28) (n := 12) (t := 4) C (by omega) rfl (by decide) rfl rfl (by omega) (by decide) (rf_nodes (by omega)) d_S_liveAndFresh_28 ?_
        refine sg_geti (pc := 29) C fw_S_149 (by omega) (sh_N (by omega)) rfl d_S_liveAndFresh_29 ?_
        refine sg_ifeq (pc := 32) (tgt := 52) C d_S_liveAndFresh_32 (by decide) (by omega) (fun h32 => ?_) (fun h32 => ?_)
        · refine sg_inc4 (pc := 52) (n := 1) C d_S_liveAndFresh_52 (by decide) ?_
          refine sg_goto (pc := 55) (tgt := 5) C d_S_liveAndFresh_55 (by decide) ?_
          have h := ih (k + 1) (by omega)
          rw [show sm_k (saf X w o m) (k + 1) = sm_k (saf X w o m) k + (if saf X w o m k = true then 2 ^ k else 0) from rfl] at h
          rw [if_neg (by simp [saf, slv, h32]), Nat.add_zero] at h
          exact h
        · refine sg_aln (pc := 35) C d_S_liveAndFresh_35 rfl ?_
          refine sg_il (pc := 36) C d_S_liveAndFresh_36 rfl ?_
          refine sg_iln (pc := 38) C d_S_liveAndFresh_38 rfl ?_
          refine sm_callV (pc := 39) (As := [.int (nI k), .int (nI o)]) C I (c_S_isFresh l Ω hf (by omega) ho) cw_S_203 iw_S_isFresh (C.1.2.2.2.2 _ (List.mem_cons_of_mem _ se_S_isFresh)) (by omega) rfl rfl rfl rfl (by decide) ⟨by decide, by decide⟩ rfl (Nat.le_of_ble_eq_true rfl) d_S_liveAndFresh_39 (sm_det_i ?_)
          refine sg_ifeq (pc := 42) (tgt := 52) C d_S_liveAndFresh_42 (by decide) (by omega) (fun h42 => ?_) (fun h42 => ?_)
          · refine sg_inc4 (pc := 52) (n := 1) C d_S_liveAndFresh_52 (by decide) ?_
            refine sg_goto (pc := 55) (tgt := 5) C d_S_liveAndFresh_55 (by decide) ?_
            have h := ih (k + 1) (by omega)
            rw [show sm_k (saf X w o m) (k + 1) = sm_k (saf X w o m) k + (if saf X w o m k = true then 2 ^ k else 0) from rfl] at h
            rw [if_neg (by simp [saf, b2_0 h42]), Nat.add_zero] at h
            exact h
          · refine sg_iln (pc := 45) C d_S_liveAndFresh_45 rfl ?_
            refine sg_ic (pc := 46) (v := 1) C d_S_liveAndFresh_46 (by decide) ?_
            refine sg_il (pc := 47) C d_S_liveAndFresh_47 rfl ?_
            refine sr_ishl (pc := 49) C d_S_liveAndFresh_49 (sn_shl k (by omega)) ?_
            refine sg_or (pc := 50) C d_S_liveAndFresh_50 ?_
            refine sg_is3 (pc := 51) C d_S_liveAndFresh_51 ?_
            refine sg_inc4 (pc := 52) (n := 1) C d_S_liveAndFresh_52 (by decide) ?_
            refine sg_goto (pc := 55) (tgt := 5) C d_S_liveAndFresh_55 (by decide) ?_
            have h := ih (k + 1) (by omega)
            rw [show sm_k (saf X w o m) (k + 1) = sm_k (saf X w o m) k + (if saf X w o m k = true then 2 ^ k else 0) from rfl] at h
            rw [if_pos (by simp [saf, slv, h19, h32, b2_1 h42]), ← sm_k_or] at h
            exact h
  exact loop 12 0 (by omega)

def shs (X : sm_X) (w : Nat → Nat → Nat) (o v k : Nat) : Bool := decide (X (82 + 51 * k + 4 * o + 2 * w k o) 0 = v)
def sm_any (p : Nat → Bool) (n : Nat) : Bool := (List.range n).any p
theorem sm_any_t {p : Nat → Bool} {n k : Nat} (h : k < n) (hp : p k = true) : sm_any p n = true := List.any_eq_true.mpr ⟨k, List.mem_range.mpr h, hp⟩
theorem sm_any_f {p : Nat → Bool} {n : Nat} (h : ∀ k, k < n → p k = false) : sm_any p n = false := by
  apply Bool.eq_false_iff.mpr
  intro q
  obtain ⟨k, hk, hp⟩ := List.any_eq_true.mp q
  rw [h k (List.mem_range.mp hk)] at hp
  cases hp

set_option maxHeartbeats 4000000 in
set_option maxRecDepth 100000 in
theorem c_S_someNodeHasShare (l : Launch) (Ω : sm_Ω) {X : sm_X} {w : Nat → Nat → Nat} (hf : swf X w) {o v : Nat} (ho : o < 12) (hv : v < 2 ^ 31) : sm_met l Ω y_S_someNodeHasShare b_S_someNodeHasShare 4 (some .boolean) 1 723 [.ref (Ω.2.1 + 0), .int (nI o), .int (nI v)] X (sm_rf w) (sm_det (some (.int (nI (b2 (sm_any (shs X w o v) 12))))) X (sm_rf w)) := by
  refine sm_intro (own := RX6) (L := [some (.ref (Ω.2.1 + 0)), some (.int (nI o)), some (.int (nI v)), none]) (by decide) rfl (by simp [Value.category]) (Nat.le_of_ble_eq_true rfl) rfl ?_
  intro Γ C I
  have hw := hf.1
  refine sg_ic (pc := 0) (v := 0) C d_S_someNodeHasShare_0 (by decide) ?_
  refine sg_is3 (pc := 1) C d_S_someNodeHasShare_1 ?_
  have loop : ∀ t k, k + t = 12 → (∀ j, j < k → shs X w o v j = false) → sm_G Γ Ω 723 0 0 2 [some (.ref (Ω.2.1 + 0)), some (.int (nI o)), some (.int (nI v)), some (.int (nI k))] [] X (sm_rf w) := by
    intro t
    induction t with
    | zero =>
      intro k hk hj
      refine sg_iln (pc := 2) C d_S_someNodeHasShare_2 rfl ?_
      refine sg_bi (pc := 3) (v := 12) C d_S_someNodeHasShare_3 (by decide) ?_
      refine sg_icge (pc := 5) (tgt := 34) C d_S_someNodeHasShare_5 (by decide) (by omega) (by omega) (fun h5 => ?_) (fun h5 => absurd h5 (by omega))
      refine sg_ic (pc := 34) (v := 0) C d_S_someNodeHasShare_34 (by decide) ?_
      exact sg_iret (pc := 35) C I rfl (sn_b (by decide)) d_S_someNodeHasShare_35 ⟨by rw [sm_any_f (fun j h => hj j (by omega))]; rfl, rfl, rfl⟩
    | succ t ih =>
      intro k hk hj
      have hwk := hw k o
      have g1 := hf.2.2.2 k o (w k o) (by omega) ho (hw k o)
      refine sg_iln (pc := 2) C d_S_someNodeHasShare_2 rfl ?_
      refine sg_bi (pc := 3) (v := 12) C d_S_someNodeHasShare_3 (by decide) ?_
      refine sg_icge (pc := 5) (tgt := 34) C d_S_someNodeHasShare_5 (by decide) (by omega) (by omega) (fun h5 => absurd h5 (by omega)) (fun h5 => ?_)
      refine sg_aln (pc := 8) C d_S_someNodeHasShare_8 rfl ?_
      refine sg_getr (pc := 9) C fw_S_25 (by omega) rfl rfl rfl d_S_someNodeHasShare_9 ?_
      refine sg_iln (pc := 12) C d_S_someNodeHasShare_12 rfl ?_
      refine sg_aald (pc := 13) (n := 12) (t := 4) C (by omega) rfl (by decide) rfl rfl (by omega) (by decide) (rf_nodes (by omega)) d_S_someNodeHasShare_13 ?_
      refine sg_getr (pc := 14) C fw_S_174 (by omega) (sh_N (by omega)) rfl (rf_N1 (by omega)) d_S_someNodeHasShare_14 ?_
      refine sg_iln (pc := 17) C d_S_someNodeHasShare_17 rfl ?_
      refine sg_aald (pc := 18) (n := 12) (t := 6) C (by omega) (sh_Ns (by omega)) (by decide) rfl rfl (by omega) (by decide) (rf_Ns (by omega) (by omega)) d_S_someNodeHasShare_18 ?_
      refine sg_geti (pc := 19) C fw_S_178 (by omega) (sh_S (by omega) (by omega) (hw _ _)) rfl d_S_someNodeHasShare_19 ?_
      refine sg_iln (pc := 22) C d_S_someNodeHasShare_22 rfl ?_
      refine sg_icne (pc := 23) (tgt := 28) C d_S_someNodeHasShare_23 (by decide) (by omega) (by omega) (fun h23 => ?_) (fun h23 => ?_)
      · refine sg_inc3 (pc := 28) (n := 1) C d_S_someNodeHasShare_28 (by decide) ?_
        refine sg_goto (pc := 31) (tgt := 2) C d_S_someNodeHasShare_31 (by decide) ?_
        exact ih (k + 1) (by omega) (fun j h => (by omega : j < k ∨ j = k).elim (hj j) (fun e => by rw [e]; exact decide_eq_false h23))
      · refine sg_ic (pc := 26) (v := 1) C d_S_someNodeHasShare_26 (by decide) ?_
        exact sg_iret (pc := 27) C I rfl (sn_b (by decide)) d_S_someNodeHasShare_27 ⟨by rw [sm_any_t (by omega : k < 12) (decide_eq_true h23)]; rfl, rfl, rfl⟩
  exact loop 12 0 (by omega) (fun j h => absurd h (Nat.not_lt_zero j))

def snr (X : sm_X) (w : Nat → Nat → Nat) (n o : Nat) : Bool := decide (X (691 + o) 4 = 0) && !sfr X w n o
def slh (X : sm_X) (w : Nat → Nat → Nat) (o m : Nat) : Bool := decide (0 < X (691 + o) 1) && decide (pop (sm_k (saf X w o m) 12) < 8)

set_option maxHeartbeats 4000000 in
set_option maxRecDepth 100000 in
theorem c_S_needsRebuild (l : Launch) (Ω : sm_Ω) {X : sm_X} {w : Nat → Nat → Nat} (hf : swf X w) {n o : Nat} (hn : n < 12) (ho : o < 12) : sm_met l Ω y_S_needsRebuild b_S_needsRebuild 3 (some .boolean) 2 723 [.ref (Ω.2.1 + 0), .int (nI n), .int (nI o)] X (sm_rf w) (sm_det (some (.int (nI (b2 (snr X w n o))))) X (sm_rf w)) := by
  refine sm_intro (own := RX6) (L := [some (.ref (Ω.2.1 + 0)), some (.int (nI n)), some (.int (nI o))]) (by decide) rfl (by simp [Value.category]) (Nat.le_of_ble_eq_true rfl) rfl ?_
  intro Γ C I
  have g2 := hf.2.2.1 o ho
  have hb2 := b2_lt (sfr X w n o)
  refine sg_aln (pc := 0) C d_S_needsRebuild_0 rfl ?_
  refine sg_getr (pc := 1) C fw_S_31 (by omega) rfl rfl rfl d_S_needsRebuild_1 ?_
  refine sg_iln (pc := 4) C d_S_needsRebuild_4 rfl ?_
  refine sg_aald (pc := 5) (n := 12) (t := 5) C (by omega) rfl (by decide) rfl rfl (by omega) (by decide) (rf_items (by omega)) d_S_needsRebuild_5 ?_
  refine sg_geti (pc := 6) C fw_S_100 (by omega) (sh_I (by omega)) rfl d_S_needsRebuild_6 ?_
  refine sg_ifne (pc := 9) (tgt := 25) C d_S_needsRebuild_9 (by decide) (by omega) (fun h9 => ?_) (fun h9 => ?_)
  · refine sg_ic (pc := 25) (v := 0) C d_S_needsRebuild_25 (by decide) ?_
    exact sg_iret (pc := 26) C I rfl (sn_b (by decide)) d_S_needsRebuild_26 ⟨by rw [show snr X w n o = false by simp [snr, h9]]; rfl, rfl, rfl⟩
  · refine sg_aln (pc := 12) C d_S_needsRebuild_12 rfl ?_
    refine sg_iln (pc := 13) C d_S_needsRebuild_13 rfl ?_
    refine sg_iln (pc := 14) C d_S_needsRebuild_14 rfl ?_
    refine sm_callV (pc := 15) (As := [.int (nI n), .int (nI o)]) C I (c_S_isFresh l Ω hf hn ho) cw_S_203 iw_S_isFresh (C.1.2.2.2.2 _ (List.mem_cons_of_mem _ se_S_isFresh)) (by omega) rfl rfl rfl rfl (by decide) ⟨by decide, by decide⟩ rfl (Nat.le_of_ble_eq_true rfl) d_S_needsRebuild_15 (sm_det_i ?_)
    refine sg_ifne (pc := 18) (tgt := 25) C d_S_needsRebuild_18 (by decide) (by omega) (fun h18 => ?_) (fun h18 => ?_)
    · refine sg_ic (pc := 25) (v := 0) C d_S_needsRebuild_25 (by decide) ?_
      exact sg_iret (pc := 26) C I rfl (sn_b (by decide)) d_S_needsRebuild_26 ⟨by rw [show snr X w n o = false by simp [snr, b2_1 h18]]; rfl, rfl, rfl⟩
    · refine sg_ic (pc := 21) (v := 1) C d_S_needsRebuild_21 (by decide) ?_
      refine sg_goto (pc := 22) (tgt := 26) C d_S_needsRebuild_22 (by decide) ?_
      exact sg_iret (pc := 26) C I rfl (sn_b (by decide)) d_S_needsRebuild_26 ⟨by rw [show snr X w n o = true by simp [snr, h9, b2_0 h18]]; rfl, rfl, rfl⟩

set_option maxHeartbeats 4000000 in
set_option maxRecDepth 100000 in
theorem c_S_lacksHelpers (l : Launch) (Ω : sm_Ω) {X : sm_X} {w : Nat → Nat → Nat} (hf : swf X w) {o m : Nat} (ho : o < 12) (hm : m < 4096) : sm_met l Ω y_S_lacksHelpers b_S_lacksHelpers 3 (some .boolean) 3 723 [.ref (Ω.2.1 + 0), .int (nI o), .int (nI m)] X (sm_rf w) (sm_det (some (.int (nI (b2 (slh X w o m))))) X (sm_rf w)) := by
  refine sm_intro (own := RX6) (L := [some (.ref (Ω.2.1 + 0)), some (.int (nI o)), some (.int (nI m))]) (by decide) rfl (by simp [Value.category]) (Nat.le_of_ble_eq_true rfl) rfl ?_
  intro Γ C I
  have g2 := hf.2.2.1 o ho
  have hk := sm_k_lt (saf X w o m) 12
  have hpp : pop (sm_k (saf X w o m) 12) ≤ 12 := sm_n_le _ 12
  refine sg_aln (pc := 0) C d_S_lacksHelpers_0 rfl ?_
  refine sg_getr (pc := 1) C fw_S_31 (by omega) rfl rfl rfl d_S_lacksHelpers_1 ?_
  refine sg_iln (pc := 4) C d_S_lacksHelpers_4 rfl ?_
  refine sg_aald (pc := 5) (n := 12) (t := 5) C (by omega) rfl (by decide) rfl rfl (by omega) (by decide) (rf_items (by omega)) d_S_lacksHelpers_5 ?_
  refine sg_geti (pc := 6) C fw_S_117 (by omega) (sh_I (by omega)) rfl d_S_lacksHelpers_6 ?_
  refine sg_ifle (pc := 9) (tgt := 30) C d_S_lacksHelpers_9 (by decide) (by omega) (fun h9 => ?_) (fun h9 => ?_)
  · refine sg_ic (pc := 30) (v := 0) C d_S_lacksHelpers_30 (by decide) ?_
    exact sg_iret (pc := 31) C I rfl (sn_b (by decide)) d_S_lacksHelpers_31 ⟨by rw [show slh X w o m = false by simp [slh, h9]]; rfl, rfl, rfl⟩
  · refine sg_aln (pc := 12) C d_S_lacksHelpers_12 rfl ?_
    refine sg_iln (pc := 13) C d_S_lacksHelpers_13 rfl ?_
    refine sg_iln (pc := 14) C d_S_lacksHelpers_14 rfl ?_
    refine sm_callV (pc := 15) (As := [.int (nI o), .int (nI m)]) C I (c_S_liveAndFresh l Ω hf ho hm) cw_S_123 iw_S_liveAndFresh (C.1.2.2.2.2 _ (List.mem_cons_of_mem _ se_S_liveAndFresh)) (by omega) rfl rfl rfl rfl (by decide) ⟨by decide, by decide⟩ rfl (Nat.le_of_ble_eq_true rfl) d_S_lacksHelpers_15 (sm_det_i ?_)
    refine sm_callS (pc := 18) (As := [.int (nI (sm_k (saf X w o m) 12))]) C I (c_J_bitCount l Ω (by omega)) cw_S_127 sw_J_bitCount rfl (by decide) ⟨by decide, by decide⟩ rfl (Nat.le_of_ble_eq_true rfl) d_S_lacksHelpers_18 (sm_det_i ?_)
    refine sg_bi (pc := 21) (v := 8) C d_S_lacksHelpers_21 (by decide) ?_
    refine sg_icge (pc := 23) (tgt := 30) C d_S_lacksHelpers_23 (by decide) (by omega) (by omega) (fun h23 => ?_) (fun h23 => ?_)
    · refine sg_ic (pc := 30) (v := 0) C d_S_lacksHelpers_30 (by decide) ?_
      exact sg_iret (pc := 31) C I rfl (sn_b (by decide)) d_S_lacksHelpers_31 ⟨by rw [show slh X w o m = false by simp [slh]; omega]; rfl, rfl, rfl⟩
    · refine sg_ic (pc := 26) (v := 1) C d_S_lacksHelpers_26 (by decide) ?_
      refine sg_goto (pc := 27) (tgt := 31) C d_S_lacksHelpers_27 (by decide) ?_
      exact sg_iret (pc := 31) C I rfl (sn_b (by decide)) d_S_lacksHelpers_31 ⟨by rw [show slh X w o m = true by simp [slh, h9, h23]]; rfl, rfl, rfl⟩
end
section
/-! The shelf's private methods that write: messages, shadows -/
theorem sn_nm {q : Nat} (h : q < 2 ^ 31) : ¬ nI q = -1 := fun e => nI_pos h (by rw [e]; decide)
theorem sm_n_mono (p : Nat → Bool) {a b : Nat} (h : a ≤ b) : sm_n p a ≤ sm_n p b := by
  induction b with
  | zero => rw [Nat.le_zero.mp h]; exact Nat.le_refl _
  | succ b ih =>
    by_cases e : a = b + 1
    · rw [e]; exact Nat.le_refl _
    · exact Nat.le_trans (ih (by omega)) (Nat.le_add_right _ _)

set_option maxHeartbeats 4000000 in
set_option maxRecDepth 100000 in
theorem c_S_takeMessages0 (l : Launch) (Ω : sm_Ω) {X : sm_X} {w : Nat → Nat → Nat} {a : Nat} (ha : a < 2 ^ 31) (h : X 0 9 = 4294967295) : sm_met l Ω y_S_takeMessages b_S_takeMessages 3 (some .int) 1 723 [.ref (Ω.2.1 + 0), .int (nI a)] X (sm_rf w) (sm_det (some (.int (nI a))) (sm_up X 0 9 4294967295) (sm_rf w)) := by
  refine sm_intro (own := RX6) (L := [some (.ref (Ω.2.1 + 0)), some (.int (nI a)), none]) (by decide) rfl (by simp [Value.category]) (Nat.le_of_ble_eq_true rfl) rfl ?_
  intro Γ C I
  refine sg_aln (pc := 0) C d_S_takeMessages_0 rfl ?_
  refine sg_geti (pc := 1) C fw_S_56 (by omega) rfl rfl d_S_takeMessages_1 ?_
  refine sg_is2 (pc := 4) C d_S_takeMessages_4 ?_
  refine sg_aln (pc := 5) C d_S_takeMessages_5 rfl ?_
  refine sg_icm (pc := 6) (v := -1) C d_S_takeMessages_6 (by decide) ?_
  refine sg_top (y := nI 4294967295) C (by decide) ?_
  refine sg_puti (pc := 7) C pw_S_56 (by omega) rfl rfl rfl rfl d_S_takeMessages_7 ?_
  refine sg_iln (pc := 10) C d_S_takeMessages_10 rfl ?_
  refine sg_icm (pc := 11) (v := -1) C d_S_takeMessages_11 (by decide) ?_
  refine sr_iceq (pc := 12) (tgt := 20) C d_S_takeMessages_12 (by decide) (fun h12 => ?_) (fun h12 => absurd (by rw [h]; decide) h12)
  refine sg_iln (pc := 20) C d_S_takeMessages_20 rfl ?_
  refine sg_goto (pc := 21) (tgt := 25) C d_S_takeMessages_21 (by decide) ?_
  exact sg_iret (pc := 25) C I rfl rfl d_S_takeMessages_25 ⟨rfl, rfl, rfl⟩

set_option maxHeartbeats 4000000 in
set_option maxRecDepth 100000 in
theorem c_S_takeMessages1 (l : Launch) (Ω : sm_Ω) {X : sm_X} {w : Nat → Nat → Nat} {a : Nat} (ha : a < 2 ^ 31) {q : Nat} (h : X 0 9 = q) (hq : q < 2 ^ 31) : sm_met l Ω y_S_takeMessages b_S_takeMessages 3 (some .int) 1 723 [.ref (Ω.2.1 + 0), .int (nI a)] X (sm_rf w) (sm_det (some (.int (nI (if q ≤ a then q else a)))) (sm_up X 0 9 4294967295) (sm_rf w)) := by
  refine sm_intro (own := RX6) (L := [some (.ref (Ω.2.1 + 0)), some (.int (nI a)), none]) (by decide) rfl (by simp [Value.category]) (Nat.le_of_ble_eq_true rfl) rfl ?_
  intro Γ C I
  refine sg_aln (pc := 0) C d_S_takeMessages_0 rfl ?_
  refine sg_geti (pc := 1) C fw_S_56 (by omega) rfl rfl d_S_takeMessages_1 ?_
  refine sg_is2 (pc := 4) C d_S_takeMessages_4 ?_
  refine sg_aln (pc := 5) C d_S_takeMessages_5 rfl ?_
  refine sg_icm (pc := 6) (v := -1) C d_S_takeMessages_6 (by decide) ?_
  refine sg_top (y := nI 4294967295) C (by decide) ?_
  refine sg_puti (pc := 7) C pw_S_56 (by omega) rfl rfl rfl rfl d_S_takeMessages_7 ?_
  refine sg_iln (pc := 10) C d_S_takeMessages_10 rfl ?_
  refine sg_icm (pc := 11) (v := -1) C d_S_takeMessages_11 (by decide) ?_
  refine sr_iceq (pc := 12) (tgt := 20) C d_S_takeMessages_12 (by decide) (fun h12 => absurd h12 (sn_nm (by omega))) (fun h12 => ?_)
  refine sg_iln (pc := 15) C d_S_takeMessages_15 rfl ?_
  refine sg_iln (pc := 16) C d_S_takeMessages_16 rfl ?_
  refine sg_icle (pc := 17) (tgt := 24) C d_S_takeMessages_17 (by decide) (by omega) (by omega) (fun h17 => ?_) (fun h17 => ?_)
  · refine sg_iln (pc := 24) C d_S_takeMessages_24 rfl ?_
    exact sg_iret (pc := 25) C I rfl rfl d_S_takeMessages_25 ⟨by rw [h, if_pos (by omega)], rfl, rfl⟩
  · refine sg_iln (pc := 20) C d_S_takeMessages_20 rfl ?_
    refine sg_goto (pc := 21) (tgt := 25) C d_S_takeMessages_21 (by decide) ?_
    exact sg_iret (pc := 25) C I rfl rfl d_S_takeMessages_25 ⟨by rw [if_neg (by omega)], rfl, rfl⟩

def sds (X : sm_X) (w : Nat → Nat → Nat) (o k : Nat) : sm_X := fun a j => if (a - 79) / 51 < k ∧ slv X ((a - 79) / 51) = true ∧ a = 82 + 51 * ((a - 79) / 51) + 4 * o + 2 * (1 - w ((a - 79) / 51) o) ∧ j < 2 then 0 else X a j
theorem sds_o {X : sm_X} {w : Nat → Nat → Nat} {o k a j : Nat} (h : ¬ ((a - 79) / 51 < k ∧ slv X ((a - 79) / 51) = true ∧ a = 82 + 51 * ((a - 79) / 51) + 4 * o + 2 * (1 - w ((a - 79) / 51) o) ∧ j < 2)) : sds X w o k a j = X a j := if_neg h
theorem sds_0 {X : sm_X} {w : Nat → Nat → Nat} {o : Nat} : sds X w o 0 = X := funext fun a => funext fun j => sds_o (by omega)
theorem sds_f {X : sm_X} {w : Nat → Nat → Nat} {o k : Nat} (h : slv X k = false) : sds X w o (k + 1) = sds X w o k := by
  funext a j
  unfold sds
  by_cases e : (a - 79) / 51 = k
  · rw [e, if_neg (by rw [h]; simp), if_neg (by omega)]
  · by_cases h2 : (a - 79) / 51 < k ∧ slv X ((a - 79) / 51) = true ∧ a = 82 + 51 * ((a - 79) / 51) + 4 * o + 2 * (1 - w ((a - 79) / 51) o) ∧ j < 2
    · rw [if_pos h2, if_pos ⟨by omega, h2.2⟩]
    · rw [if_neg h2, if_neg (fun q => h2 ⟨by omega, q.2⟩)]
theorem sds_t {X : sm_X} {w : Nat → Nat → Nat} {o k : Nat} (ho : o < 12) (h : slv X k = true) : sm_up (sm_up (sds X w o k) (82 + 51 * k + 4 * o + 2 * (1 - w k o)) 0 0) (82 + 51 * k + 4 * o + 2 * (1 - w k o)) 1 0 = sds X w o (k + 1) := by
  have e0 : (82 + 51 * k + 4 * o + 2 * (1 - w k o) - 79) / 51 = k := by omega
  funext a j
  by_cases e : a = 82 + 51 * k + 4 * o + 2 * (1 - w k o)
  · subst e
    by_cases h1 : j = 1
    · subst h1
      rw [sm_up_s]
      unfold sds
      rw [e0, if_pos ⟨by omega, h, rfl, by decide⟩]
    · rw [sm_up_n h1]
      by_cases h0 : j = 0
      · subst h0
        rw [sm_up_s]
        unfold sds
        rw [e0, if_pos ⟨by omega, h, rfl, by decide⟩]
      · rw [sm_up_n h0, sds_o (by rw [e0]; omega), sds_o (by rw [e0]; omega)]
  · rw [sm_up_x (Or.inl e), sm_up_x (Or.inl e)]
    unfold sds
    by_cases h2 : (a - 79) / 51 < k ∧ slv X ((a - 79) / 51) = true ∧ a = 82 + 51 * ((a - 79) / 51) + 4 * o + 2 * (1 - w ((a - 79) / 51) o) ∧ j < 2
    · rw [if_pos h2, if_pos ⟨by omega, h2.2⟩]
    · rw [if_neg h2, if_neg (fun q => h2 ⟨by
        have q1 := q.1
        by_cases e5 : (a - 79) / 51 = k
        · rw [e5] at q; exact absurd q.2.2.1 e
        · omega, q.2⟩)]

set_option maxHeartbeats 4000000 in
set_option maxRecDepth 100000 in
theorem c_S_dropShadows (l : Launch) (Ω : sm_Ω) {X : sm_X} {w : Nat → Nat → Nat} (hf : swf X w) {o : Nat} (ho : o < 12) : sm_met l Ω y_S_dropShadows b_S_dropShadows 3 none 2 723 [.ref (Ω.2.1 + 0), .int (nI o)] X (sm_rf w) (sm_det none (sds X w o 12) (sm_rf w)) := by
  refine sm_intro (own := RX6) (L := [some (.ref (Ω.2.1 + 0)), some (.int (nI o)), none]) (by decide) rfl (by simp [Value.category]) (Nat.le_of_ble_eq_true rfl) rfl ?_
  intro Γ C I
  have hw := hf.1
  refine sg_ic (pc := 0) (v := 0) C d_S_dropShadows_0 (by decide) ?_
  refine sg_is2 (pc := 1) C d_S_dropShadows_1 ?_
  have loop : ∀ t k, k + t = 12 → sm_G Γ Ω 723 0 0 2 [some (.ref (Ω.2.1 + 0)), some (.int (nI o)), some (.int (nI k))] [] (sds X w o k) (sm_rf w) := by
    intro t
    induction t with
    | zero =>
      intro k hk
      refine sg_iln (pc := 2) C d_S_dropShadows_2 rfl ?_
      refine sg_bi (pc := 3) (v := 12) C d_S_dropShadows_3 (by decide) ?_
      refine sg_icge (pc := 5) (tgt := 42) C d_S_dropShadows_5 (by decide) (by omega) (by omega) (fun h5 => ?_) (fun h5 => absurd h5 (by omega))
      exact sg_vret (pc := 42) C I rfl d_S_dropShadows_42 ⟨rfl, by rw [show k = 12 by omega], rfl⟩
    | succ t ih =>
      intro k hk
      have hbk := hf.2.1 k (by omega)
      have e3 : sds X w o k (79 + 51 * k) 3 = X (79 + 51 * k) 3 := sds_o (by omega)
      refine sg_iln (pc := 2) C d_S_dropShadows_2 rfl ?_
      refine sg_bi (pc := 3) (v := 12) C d_S_dropShadows_3 (by decide) ?_
      refine sg_icge (pc := 5) (tgt := 42) C d_S_dropShadows_5 (by decide) (by omega) (by omega) (fun h5 => absurd h5 (by omega)) (fun h5 => ?_)
      refine sg_aln (pc := 8) C d_S_dropShadows_8 rfl ?_
      refine sg_getr (pc := 9) C fw_S_25 (by omega) rfl rfl rfl d_S_dropShadows_9 ?_
      refine sg_iln (pc := 12) C d_S_dropShadows_12 rfl ?_
      refine sg_aald (pc := 13) (n := 12) (t := 4) C (by omega) rfl (by decide) rfl rfl (by omega) (by decide) (rf_nodes (by omega)) d_S_dropShadows_13 ?_
      refine sg_geti (pc := 14) C fw_S_149 (by omega) (sh_N (by omega)) rfl d_S_dropShadows_14 ?_
      rw [e3]
      refine sg_ifeq (pc := 17) (tgt := 36) C d_S_dropShadows_17 (by decide) (by omega) (fun h17 => ?_) (fun h17 => ?_)
      · refine sg_inc2 (pc := 36) (n := 1) C d_S_dropShadows_36 (by decide) ?_
        refine sg_goto (pc := 39) (tgt := 2) C d_S_dropShadows_39 (by decide) ?_
        rw [← sds_f (show slv X k = false by simp [slv, h17])]
        exact ih (k + 1) (by omega)
      · refine sg_aln (pc := 20) C d_S_dropShadows_20 rfl ?_
        refine sg_getr (pc := 21) C fw_S_25 (by omega) rfl rfl rfl d_S_dropShadows_21 ?_
        refine sg_iln (pc := 24) C d_S_dropShadows_24 rfl ?_
        refine sg_aald (pc := 25) (n := 12) (t := 4) C (by omega) rfl (by decide) rfl rfl (by omega) (by decide) (rf_nodes (by omega)) d_S_dropShadows_25 ?_
        refine sg_getr (pc := 26) C fw_S_212 (by omega) (sh_N (by omega)) rfl (rf_N2 (by omega)) d_S_dropShadows_26 ?_
        refine sg_iln (pc := 29) C d_S_dropShadows_29 rfl ?_
        refine sg_aald (pc := 30) (n := 12) (t := 6) C (by omega) (sh_Nh (by omega)) (by decide) rfl rfl (by omega) (by decide) (rf_Nh (by omega) (by omega)) d_S_dropShadows_30 ?_
        refine sg_ic (pc := 31) (v := 0) C d_S_dropShadows_31 (by decide) ?_
        refine sg_ic (pc := 32) (v := 0) C d_S_dropShadows_32 (by decide) ?_
        refine sm_callV (pc := 33) (As := [.int (nI 0), .int (nI 0)]) C I (c_H_become l Ω (by omega) (sh_S (by omega) ho (by omega))) cw_S_215 iw_H_become (C.1.2.2.2.2 _ (List.mem_cons_of_mem _ se_H_become)) (by omega) (sh_S (by omega) (by omega) (by omega)) rfl rfl rfl (by decide) ⟨by decide, by decide⟩ rfl (Nat.le_of_ble_eq_true rfl) d_S_dropShadows_33 (sm_det_v ?_)
        refine sg_inc2 (pc := 36) (n := 1) C d_S_dropShadows_36 (by decide) ?_
        refine sg_goto (pc := 39) (tgt := 2) C d_S_dropShadows_39 (by decide) ?_
        rw [sds_t ho (show slv X k = true by simp [slv, h17])]
        exact ih (k + 1) (by omega)
  have h0 := loop 12 0 (by omega)
  rw [sds_0] at h0
  exact h0

def stp (X : sm_X) (w : Nat → Nat → Nat) (o k : Nat) : Bool := slv X k && decide (X (82 + 51 * k + 4 * o + 2 * (1 - w k o)) 0 = X (691 + o) 2)
def stT (X : sm_X) (w : Nat → Nat → Nat) (o c k : Nat) : Bool := stp X w o k && decide (sm_n (stp X w o) k < c)
def stX (T : Nat → Bool) (X : sm_X) (w : Nat → Nat → Nat) (o k : Nat) : sm_X := fun a j => if (a - 79) / 51 < k ∧ T ((a - 79) / 51) = true ∧ a = 82 + 51 * ((a - 79) / 51) + 4 * o + 2 * w ((a - 79) / 51) o ∧ j < 2 then 0 else X a j
def stW (T : Nat → Bool) (w : Nat → Nat → Nat) (o k : Nat) : Nat → Nat → Nat := fun a b => if b = o ∧ a < k ∧ T a = true then 1 - w a b else w a b
section
variable {T : Nat → Bool} {X : sm_X} {w : Nat → Nat → Nat} {o k : Nat}
theorem stX_o {a j : Nat} (h : ¬ ((a - 79) / 51 < k ∧ T ((a - 79) / 51) = true ∧ a = 82 + 51 * ((a - 79) / 51) + 4 * o + 2 * w ((a - 79) / 51) o ∧ j < 2)) : stX T X w o k a j = X a j := if_neg h
theorem stX_0 : stX T X w o 0 = X := funext fun a => funext fun j => stX_o (by omega)
theorem stW_0 : stW T w o 0 = w := funext fun a => funext fun b => if_neg (by omega)
theorem stW_k : stW T w o k k o = w k o := if_neg (by omega)
theorem stW_lt (hw : ∀ n o, w n o < 2) : ∀ n p, stW T w o k n p < 2 := by
  intro n p
  unfold stW
  split
  · omega
  · exact hw n p
theorem stX_f (h : T k = false) : stX T X w o (k + 1) = stX T X w o k := by
  funext a j
  unfold stX
  by_cases e : (a - 79) / 51 = k
  · rw [e, if_neg (by rw [h]; simp), if_neg (by omega)]
  · by_cases h2 : (a - 79) / 51 < k ∧ T ((a - 79) / 51) = true ∧ a = 82 + 51 * ((a - 79) / 51) + 4 * o + 2 * w ((a - 79) / 51) o ∧ j < 2
    · rw [if_pos h2, if_pos ⟨by omega, h2.2⟩]
    · rw [if_neg h2, if_neg (fun q => h2 ⟨by omega, q.2⟩)]
theorem stW_f (h : T k = false) : stW T w o (k + 1) = stW T w o k := by
  funext a b
  unfold stW
  by_cases e : a = k
  · subst e; rw [if_neg (by rw [h]; simp), if_neg (by omega)]
  · by_cases h2 : b = o ∧ a < k ∧ T a = true
    · rw [if_pos h2, if_pos ⟨h2.1, by omega, h2.2.2⟩]
    · rw [if_neg h2, if_neg (fun q => h2 ⟨q.1, by omega, q.2.2⟩)]
theorem stX_t (ho : o < 12) (hw : w k o < 2) (h : T k = true) : sm_up (sm_up (stX T X w o k) (82 + 51 * k + 4 * o + 2 * w k o) 0 0) (82 + 51 * k + 4 * o + 2 * w k o) 1 0 = stX T X w o (k + 1) := by
  have e0 : (82 + 51 * k + 4 * o + 2 * w k o - 79) / 51 = k := by omega
  funext a j
  by_cases e : a = 82 + 51 * k + 4 * o + 2 * w k o
  · subst e
    by_cases h1 : j = 1
    · subst h1
      rw [sm_up_s]
      unfold stX
      rw [e0, if_pos ⟨by omega, h, rfl, by decide⟩]
    · rw [sm_up_n h1]
      by_cases h0 : j = 0
      · subst h0
        rw [sm_up_s]
        unfold stX
        rw [e0, if_pos ⟨by omega, h, rfl, by decide⟩]
      · rw [sm_up_n h0, stX_o (by rw [e0]; omega), stX_o (by rw [e0]; omega)]
  · rw [sm_up_x (Or.inl e), sm_up_x (Or.inl e)]
    unfold stX
    by_cases h2 : (a - 79) / 51 < k ∧ T ((a - 79) / 51) = true ∧ a = 82 + 51 * ((a - 79) / 51) + 4 * o + 2 * w ((a - 79) / 51) o ∧ j < 2
    · rw [if_pos h2, if_pos ⟨by omega, h2.2⟩]
    · rw [if_neg h2, if_neg (fun q => h2 ⟨by
        have q1 := q.1
        by_cases e5 : (a - 79) / 51 = k
        · rw [e5] at q; exact absurd q.2.2.1 e
        · omega, q.2⟩)]
theorem stW_t (h : T k = true) : tw (stW T w o k) k o = stW T w o (k + 1) := by
  funext a b
  unfold tw
  by_cases e : a = k ∧ b = o
  · obtain ⟨rfl, rfl⟩ := e
    rw [if_pos ⟨rfl, rfl⟩, stW_k]
    unfold stW
    rw [if_pos ⟨rfl, by omega, h⟩]
  · rw [if_neg e]
    unfold stW
    by_cases h2 : b = o ∧ a < k ∧ T a = true
    · rw [if_pos h2, if_pos ⟨h2.1, by omega, h2.2.2⟩]
    · rw [if_neg h2, if_neg (fun q => h2 ⟨q.1, by omega, q.2.2⟩)]
theorem stX_end : ∀ d, (∀ j, k ≤ j → j < k + d → T j = false) → stX T X w o (k + d) = stX T X w o k ∧ stW T w o (k + d) = stW T w o k
  | 0, _ => ⟨rfl, rfl⟩
  | d + 1, h => by
    have ih := stX_end d (fun j h1 h2 => h j h1 (by omega))
    have hk := h (k + d) (by omega) (by omega)
    exact ⟨(stX_f hk).trans ih.1, (stW_f hk).trans ih.2⟩
end

set_option maxHeartbeats 4000000 in
set_option maxRecDepth 100000 in
theorem c_S_turnShadows (l : Launch) (Ω : sm_Ω) {X : sm_X} {w : Nat → Nat → Nat} (hf : swf X w) {o c : Nat} (ho : o < 12) (hc : c < 2 ^ 31) : sm_met l Ω y_S_turnShadows b_S_turnShadows 5 none 3 723 [.ref (Ω.2.1 + 0), .int (nI o), .int (nI c)] X (sm_rf w) (sm_det none (stX (stT X w o c) X w o 12) (sm_rf (stW (stT X w o c) w o 12))) := by
  refine sm_intro (own := RX6) (L := [some (.ref (Ω.2.1 + 0)), some (.int (nI o)), some (.int (nI c)), none, none]) (by decide) rfl (by simp [Value.category]) (Nat.le_of_ble_eq_true rfl) rfl ?_
  intro Γ C I
  have hw := hf.1
  refine sg_iln (pc := 0) C d_S_turnShadows_0 rfl ?_
  refine sg_is3 (pc := 1) C d_S_turnShadows_1 ?_
  refine sg_ic (pc := 2) (v := 0) C d_S_turnShadows_2 (by decide) ?_
  refine sg_is4 (pc := 3) C d_S_turnShadows_3 ?_
  have loop : ∀ t k, k + t = 12 → sm_G Γ Ω 723 0 0 5 [some (.ref (Ω.2.1 + 0)), some (.int (nI o)), some (.int (nI c)), some (.int (nI (c - sm_n (stp X w o) k))), some (.int (nI k))] [] (stX (stT X w o c) X w o k) (sm_rf (stW (stT X w o c) w o k)) := by
    intro t
    induction t with
    | zero =>
      intro k hk
      refine sg_il (pc := 5) C d_S_turnShadows_5 rfl ?_
      refine sg_bi (pc := 7) (v := 12) C d_S_turnShadows_7 (by decide) ?_
      refine sg_icge (pc := 9) (tgt := 76) C d_S_turnShadows_9 (by decide) (by omega) (by omega) (fun h9 => ?_) (fun h9 => absurd h9 (by omega))
      exact sg_vret (pc := 76) C I rfl d_S_turnShadows_76 ⟨rfl, by rw [show k = 12 by omega], by rw [show k = 12 by omega]⟩
    | succ t ih =>
      intro k hk
      have hbk := hf.2.1 k (by omega)
      have hwk := hw k o
      have g1 := hf.2.2.2 k o (1 - w k o) (by omega) ho (by omega)
      have g2 := (hf.2.2.1 o ho).1 2 (by decide)
      have e3 : (stX (stT X w o c) X w o k) (79 + 51 * k) 3 = X (79 + 51 * k) 3 := stX_o (by omega)
      have e4 : (stX (stT X w o c) X w o k) (691 + o) 2 = X (691 + o) 2 := stX_o (by omega)
      have e5 : (stX (stT X w o c) X w o k) (82 + 51 * k + 4 * o + 2 * (1 - w k o)) 0 = X (82 + 51 * k + 4 * o + 2 * (1 - w k o)) 0 := stX_o (by omega)
      have en : sm_n (stp X w o) (k + 1) = sm_n (stp X w o) k + (if stp X w o k = true then 1 else 0) := rfl
      refine sg_il (pc := 5) C d_S_turnShadows_5 rfl ?_
      refine sg_bi (pc := 7) (v := 12) C d_S_turnShadows_7 (by decide) ?_
      refine sg_icge (pc := 9) (tgt := 76) C d_S_turnShadows_9 (by decide) (by omega) (by omega) (fun h9 => absurd h9 (by omega)) (fun h9 => ?_)
      refine sg_iln (pc := 12) C d_S_turnShadows_12 rfl ?_
      refine sg_ifle (pc := 13) (tgt := 76) C d_S_turnShadows_13 (by decide) (by omega) (fun h13 => ?_) (fun h13 => ?_)
      · exact sg_vret (pc := 76) C I rfl d_S_turnShadows_76 (by
            have hz : ∀ j, k ≤ j → j < k + (12 - k) → stT X w o c j = false := fun j h1 h2 => by
              have := sm_n_mono (stp X w o) h1
              simp [stT]; omega
            have he := stX_end (X := X) (w := w) (o := o) (12 - k) hz
            rw [show k + (12 - k) = 12 by omega] at he
            exact ⟨rfl, he.1.symm, by rw [he.2]⟩)
      · refine sg_aln (pc := 16) C d_S_turnShadows_16 rfl ?_
        refine sg_getr (pc := 17) C fw_S_25 (by omega) rfl rfl rfl d_S_turnShadows_17 ?_
        refine sg_il (pc := 20) C d_S_turnShadows_20 rfl ?_
        refine sg_aald (pc := 22) (n := 12) (t := 4) C (by omega) rfl (by decide) rfl rfl (by omega) (by decide) (rf_nodes (by omega)) d_S_turnShadows_22 ?_
        refine sg_geti (pc := 23) C fw_S_149 (by omega) (sh_N (by omega)) rfl d_S_turnShadows_23 ?_
        rw [e3]
        refine sg_ifeq (pc := 26) (tgt := 70) C d_S_turnShadows_26 (by decide) (by omega) (fun h26 => ?_) (fun h26 => ?_)
        · refine sg_inc4 (pc := 70) (n := 1) C d_S_turnShadows_70 (by decide) ?_
          refine sg_goto (pc := 73) (tgt := 5) C d_S_turnShadows_73 (by decide) ?_
          have hp : stp X w o k = false := by simp [stp, slv, h26]
          have hT : stT X w o c k = false := by simp [stT, hp]
          have h := ih (k + 1) (by omega)
          rw [en, hp, stX_f hT, stW_f hT] at h
          exact h
        · refine sg_aln (pc := 29) C d_S_turnShadows_29 rfl ?_
          refine sg_getr (pc := 30) C fw_S_25 (by omega) rfl rfl rfl d_S_turnShadows_30 ?_
          refine sg_il (pc := 33) C d_S_turnShadows_33 rfl ?_
          refine sg_aald (pc := 35) (n := 12) (t := 4) C (by omega) rfl (by decide) rfl rfl (by omega) (by decide) (rf_nodes (by omega)) d_S_turnShadows_35 ?_
          refine sg_getr (pc := 36) C fw_S_212 (by omega) (sh_N (by omega)) rfl (rf_N2 (by omega)) d_S_turnShadows_36 ?_
          refine sg_iln (pc := 39) C d_S_turnShadows_39 rfl ?_
          refine sg_aald (pc := 40) (n := 12) (t := 6) C (by omega) (sh_Nh (by omega)) (by decide) rfl rfl (by omega) (by decide) (rf_Nh (by omega) (by omega)) d_S_turnShadows_40 ?_
          rw [stW_k]
          refine sg_geti (pc := 41) C fw_S_178 (by omega) (sh_S (by omega) (by omega) (by omega)) rfl d_S_turnShadows_41 ?_
          rw [e5]
          refine sg_aln (pc := 44) C d_S_turnShadows_44 rfl ?_
          refine sg_getr (pc := 45) C fw_S_31 (by omega) rfl rfl rfl d_S_turnShadows_45 ?_
          refine sg_iln (pc := 48) C d_S_turnShadows_48 rfl ?_
          refine sg_aald (pc := 49) (n := 12) (t := 5) C (by omega) rfl (by decide) rfl rfl (by omega) (by decide) (rf_items (by omega)) d_S_turnShadows_49 ?_
          refine sg_geti (pc := 50) C fw_S_97 (by omega) (sh_I (by omega)) rfl d_S_turnShadows_50 ?_
          rw [e4]
          refine sg_icne (pc := 53) (tgt := 70) C d_S_turnShadows_53 (by decide) (by omega) (by omega) (fun h53 => ?_) (fun h53 => ?_)
          · refine sg_inc4 (pc := 70) (n := 1) C d_S_turnShadows_70 (by decide) ?_
            refine sg_goto (pc := 73) (tgt := 5) C d_S_turnShadows_73 (by decide) ?_
            have hp : stp X w o k = false := by simp [stp, h53]
            have hT : stT X w o c k = false := by simp [stT, hp]
            have h := ih (k + 1) (by omega)
            rw [en, hp, stX_f hT, stW_f hT] at h
            exact h
          · refine sg_aln (pc := 56) C d_S_turnShadows_56 rfl ?_
            refine sg_getr (pc := 57) C fw_S_25 (by omega) rfl rfl rfl d_S_turnShadows_57 ?_
            refine sg_il (pc := 60) C d_S_turnShadows_60 rfl ?_
            refine sg_aald (pc := 62) (n := 12) (t := 4) C (by omega) rfl (by decide) rfl rfl (by omega) (by decide) (rf_nodes (by omega)) d_S_turnShadows_62 ?_
            refine sg_iln (pc := 63) C d_S_turnShadows_63 rfl ?_
            refine sm_callV (pc := 64) (As := [.int (nI o)]) C I (c_N_turnShadow l Ω (X := (stX (stT X w o c) X w o k)) (w := (stW (stT X w o c) w o k)) (stW_lt hw) (n := k) (by omega) ho) cw_S_225 iw_N_turnShadow (C.1.2.2.2.2 _ (List.mem_cons_of_mem _ se_N_turnShadow)) (by omega) (sh_N (by omega)) rfl rfl rfl (by decide) ⟨by decide, by decide⟩ rfl (Nat.le_of_ble_eq_true rfl) d_S_turnShadows_64 (sm_det_v ?_)
            have hT : stT X w o c k = true := by simp [stT, stp, slv, h26, h53]; omega
            rw [stW_k, stX_t ho (hw k o) hT, stW_t hT]
            refine sg_dec3 (pc := 67) C d_S_turnShadows_67 ?_
            refine sg_inc4 (pc := 70) (n := 1) C d_S_turnShadows_70 (by decide) ?_
            refine sg_goto (pc := 73) (tgt := 5) C d_S_turnShadows_73 (by decide) ?_
            have hp : stp X w o k = true := by simp [stp, slv, h26, h53]
            have h := ih (k + 1) (by omega)
            rw [en, hp, if_pos rfl] at h
            rw [show c - sm_n (stp X w o) k = c - (sm_n (stp X w o) k + 1) + 1 by omega, sn_m1]
            exact h
  have h0 := loop 12 0 (by omega)
  rw [stX_0, stW_0] at h0
  exact h0

set_option maxHeartbeats 4000000 in
set_option maxRecDepth 100000 in
theorem c_S_turnShadowsN (l : Launch) (Ω : sm_Ω) {X : sm_X} {w : Nat → Nat → Nat} {o : Nat} {x : Int32} (hx : x ≤ 0) : sm_met l Ω y_S_turnShadows b_S_turnShadows 5 none 3 723 [.ref (Ω.2.1 + 0), .int (nI o), .int x] X (sm_rf w) (sm_det none X (sm_rf w)) := by
  refine sm_intro (own := RX6) (L := [some (.ref (Ω.2.1 + 0)), some (.int (nI o)), some (.int x), none, none]) (by decide) rfl (by simp [Value.category]) (Nat.le_of_ble_eq_true rfl) rfl ?_
  intro Γ C I
  refine sg_iln (pc := 0) C d_S_turnShadows_0 rfl ?_
  refine sg_is3 (pc := 1) C d_S_turnShadows_1 ?_
  refine sg_ic (pc := 2) (v := 0) C d_S_turnShadows_2 (by decide) ?_
  refine sg_is4 (pc := 3) C d_S_turnShadows_3 ?_
  refine sg_il (pc := 5) C d_S_turnShadows_5 rfl ?_
  refine sg_bi (pc := 7) (v := 12) C d_S_turnShadows_7 (by decide) ?_
  refine sg_icge (pc := 9) (tgt := 76) C d_S_turnShadows_9 (by decide) (by omega) (by omega) (fun h9 => absurd h9 (by decide)) (fun h9 => ?_)
  refine sg_iln (pc := 12) C d_S_turnShadows_12 rfl ?_
  refine sr_ifle (pc := 13) (tgt := 76) C d_S_turnShadows_13 (by decide) (fun h13 => ?_) (fun h13 => absurd hx h13)
  exact sg_vret (pc := 76) C I rfl d_S_turnShadows_76 ⟨rfl, rfl, rfl⟩
end
section
/-! Sending shadows -/
theorem gal_of {X Z : sm_X} (hG : gal X) (h2 : ∀ k, Z 2 k = X 2 k) (h3 : ∀ k, Z 3 k = X 3 k) : gal Z := ⟨fun k hk => (h2 k).trans (hG.1 k hk), fun a ha => (h3 a).trans (hG.2 a ha)⟩
theorem sm_up_lt {X : sm_X} {c j v a k N : Nat} (hv : v < N) (h : X a k < N) : sm_up X c j v a k < N := by
  unfold sm_up
  split
  · exact hv
  · exact h
theorem mf_lt {X : sm_X} {n : Nat} (hl : ∀ q, q < 240 → X 77 q < 256) (hr : ∀ r, r < 64 → ∀ j, j < 8 → X (6 + r) j < 256) {r j : Nat} (h1 : r < 64) (h2 : j < 8) : ∀ q, q ≤ 240 → mf X n q (6 + r) j < 256
  | 0, _ => hr r h1 j h2
  | q + 1, hq => by
    have hv : mv X n q < 256 := by
      unfold mv
      split
      · exact hl q (by omega)
      · decide
    exact sm_up_lt hv (sm_up_lt hv (mf_lt hl hr h1 h2 q (by omega)))
def ssX (T : Nat → Bool) (Z : sm_X) (w : Nat → Nat → Nat) (o m n k : Nat) : sm_X := fun a j =>
  if ((a - 79) / 51) < k ∧ T ((a - 79) / 51) = true ∧ a = 82 + 51 * ((a - 79) / 51) + 4 * o + 2 * (1 - w ((a - 79) / 51) o) ∧ j < 2 then (if j = 0 then m else n) else if ((a - 79) / 51) < k ∧ T ((a - 79) / 51) = true ∧ a = 83 + 51 * ((a - 79) / 51) + 4 * o + 2 * (1 - w ((a - 79) / 51) o) ∧ j < 8 * ((n + 29) / 30) then gf_h (Z (6 + j)) (((a - 79) / 51) + 1) 0 8 else Z a j
section
variable {T : Nat → Bool} {Z : sm_X} {w : Nat → Nat → Nat} {o m n k : Nat}
theorem ssX_o {a j : Nat} (h1 : ¬ (((a - 79) / 51) < k ∧ T ((a - 79) / 51) = true ∧ a = 82 + 51 * ((a - 79) / 51) + 4 * o + 2 * (1 - w ((a - 79) / 51) o) ∧ j < 2)) (h2 : ¬ (((a - 79) / 51) < k ∧ T ((a - 79) / 51) = true ∧ a = 83 + 51 * ((a - 79) / 51) + 4 * o + 2 * (1 - w ((a - 79) / 51) o) ∧ j < 8 * ((n + 29) / 30))) : ssX T Z w o m n k a j = Z a j := (if_neg h1).trans (if_neg h2)
theorem ssX_0 : ssX T Z w o m n 0 = Z := funext fun a => funext fun j => ssX_o (by omega) (by omega)
theorem ssX_f (h : T k = false) : ssX T Z w o m n (k + 1) = ssX T Z w o m n k := by
  funext a j
  unfold ssX
  by_cases e : ((a - 79) / 51) = k
  · rw [e, if_neg (by rw [h]; simp), if_neg (by rw [h]; simp), if_neg (by omega), if_neg (by omega)]
  · by_cases h1 : ((a - 79) / 51) < k ∧ T ((a - 79) / 51) = true ∧ a = 82 + 51 * ((a - 79) / 51) + 4 * o + 2 * (1 - w ((a - 79) / 51) o) ∧ j < 2
    · rw [if_pos h1, if_pos ⟨by omega, h1.2⟩]
    · rw [if_neg h1, if_neg (fun q => h1 ⟨by omega, q.2⟩)]
      by_cases h2 : ((a - 79) / 51) < k ∧ T ((a - 79) / 51) = true ∧ a = 83 + 51 * ((a - 79) / 51) + 4 * o + 2 * (1 - w ((a - 79) / 51) o) ∧ j < 8 * ((n + 29) / 30)
      · rw [if_pos h2, if_pos ⟨by omega, h2.2⟩]
      · rw [if_neg h2, if_neg (fun q => h2 ⟨by omega, q.2⟩)]
theorem ssX_end : ∀ d, (∀ j, k ≤ j → j < k + d → T j = false) → ssX T Z w o m n (k + d) = ssX T Z w o m n k
  | 0, _ => rfl
  | d + 1, h => (ssX_f (h (k + d) (by omega) (by omega))).trans (ssX_end d (fun j h1 h2 => h j h1 (by omega)))
theorem ssX_v {a j : Nat} (h : ((a - 79) / 51) < k ∧ T ((a - 79) / 51) = true ∧ a = 82 + 51 * ((a - 79) / 51) + 4 * o + 2 * (1 - w ((a - 79) / 51) o) ∧ j < 2) : ssX T Z w o m n k a j = if j = 0 then m else n := if_pos h
theorem ssX_b {a j : Nat} (h1 : ¬ (((a - 79) / 51) < k ∧ T ((a - 79) / 51) = true ∧ a = 82 + 51 * ((a - 79) / 51) + 4 * o + 2 * (1 - w ((a - 79) / 51) o) ∧ j < 2)) (h : ((a - 79) / 51) < k ∧ T ((a - 79) / 51) = true ∧ a = 83 + 51 * ((a - 79) / 51) + 4 * o + 2 * (1 - w ((a - 79) / 51) o) ∧ j < 8 * ((n + 29) / 30)) : ssX T Z w o m n k a j = gf_h (Z (6 + j)) (((a - 79) / 51) + 1) 0 8 := (if_neg h1).trans (if_pos h)
theorem ssX_t (ho : o < 12) (hn : n ≤ 240) (h : T k = true) : sm_uf (sm_up (sm_up (ssX T Z w o m n k) (82 + 51 * k + 4 * o + 2 * (1 - w k o)) 0 m) (82 + 51 * k + 4 * o + 2 * (1 - w k o)) 1 n) (83 + 51 * k + 4 * o + 2 * (1 - w k o)) (fun j => if j < 8 * (((sm_up (sm_up (ssX T Z w o m n k) (82 + 51 * k + 4 * o + 2 * (1 - w k o)) 0 m) (82 + 51 * k + 4 * o + 2 * (1 - w k o)) 1 n) (82 + 51 * k + 4 * o + 2 * (1 - w k o)) 1 + 29) / 30) then gf_h ((sm_up (sm_up (ssX T Z w o m n k) (82 + 51 * k + 4 * o + 2 * (1 - w k o)) 0 m) (82 + 51 * k + 4 * o + 2 * (1 - w k o)) 1 n) (6 + j)) (k + 1) 0 8 else (sm_up (sm_up (ssX T Z w o m n k) (82 + 51 * k + 4 * o + 2 * (1 - w k o)) 0 m) (82 + 51 * k + 4 * o + 2 * (1 - w k o)) 1 n) (83 + 51 * k + 4 * o + 2 * (1 - w k o)) j) = ssX T Z w o m n (k + 1) := by
  have e0 : ((82 + 51 * k + 4 * o + 2 * (1 - w k o)) - 79) / 51 = k := by omega
  have e1 : ((83 + 51 * k + 4 * o + 2 * (1 - w k o)) - 79) / 51 = k := by omega
  have eN : (sm_up (sm_up (ssX T Z w o m n k) (82 + 51 * k + 4 * o + 2 * (1 - w k o)) 0 m) (82 + 51 * k + 4 * o + 2 * (1 - w k o)) 1 n) (82 + 51 * k + 4 * o + 2 * (1 - w k o)) 1 = n := sm_up_s
  rw [eN]
  funext a j
  by_cases ha : a = (83 + 51 * k + 4 * o + 2 * (1 - w k o))
  · subst ha
    rw [sm_uf_s]
    by_cases hj : j < 8 * ((n + 29) / 30)
    · rw [if_pos hj, ssX_b (k := k + 1) (by rw [e1]; omega) (by rw [e1]; exact ⟨by omega, h, rfl, hj⟩), e1]
      refine gf_h_congr 8 0 (fun i _ _ => ?_)
      rw [sm_up_x (Or.inl (by omega)), sm_up_x (Or.inl (by omega))]
      exact ssX_o (by omega) (by omega)
    · rw [if_neg hj, sm_up_x (Or.inl (by omega)), sm_up_x (Or.inl (by omega)), ssX_o (by rw [e1]; omega) (by rw [e1]; omega), ssX_o (k := k + 1) (by rw [e1]; omega) (by rw [e1]; omega)]
  · rw [sm_uf_o ha]
    by_cases hc : a = (82 + 51 * k + 4 * o + 2 * (1 - w k o))
    · subst hc
      by_cases h1 : j = 1
      · subst h1
        rw [sm_up_s, ssX_v (k := k + 1) (by rw [e0]; exact ⟨by omega, h, rfl, by decide⟩), if_neg (by decide)]
      · rw [sm_up_n h1]
        by_cases h0 : j = 0
        · subst h0
          rw [sm_up_s, ssX_v (k := k + 1) (by rw [e0]; exact ⟨by omega, h, rfl, by decide⟩), if_pos rfl]
        · rw [sm_up_n h0, ssX_o (by rw [e0]; omega) (by rw [e0]; omega), ssX_o (k := k + 1) (by rw [e0]; omega) (by rw [e0]; omega)]
    · rw [sm_up_x (Or.inl hc), sm_up_x (Or.inl hc)]
      by_cases h1 : ((a - 79) / 51) < k ∧ T ((a - 79) / 51) = true ∧ a = 82 + 51 * ((a - 79) / 51) + 4 * o + 2 * (1 - w ((a - 79) / 51) o) ∧ j < 2
      · rw [ssX_v h1, ssX_v (k := k + 1) ⟨by omega, h1.2⟩]
      · have h1' : ¬ (((a - 79) / 51) < k + 1 ∧ T ((a - 79) / 51) = true ∧ a = 82 + 51 * ((a - 79) / 51) + 4 * o + 2 * (1 - w ((a - 79) / 51) o) ∧ j < 2) := fun q => by
          by_cases e : ((a - 79) / 51) = k
          · rw [e] at q; exact hc q.2.2.1
          · exact h1 ⟨by omega, q.2⟩
        by_cases h2 : ((a - 79) / 51) < k ∧ T ((a - 79) / 51) = true ∧ a = 83 + 51 * ((a - 79) / 51) + 4 * o + 2 * (1 - w ((a - 79) / 51) o) ∧ j < 8 * ((n + 29) / 30)
        · rw [ssX_b h1 h2, ssX_b (k := k + 1) h1' ⟨by omega, h2.2⟩]
        · have h2' : ¬ (((a - 79) / 51) < k + 1 ∧ T ((a - 79) / 51) = true ∧ a = 83 + 51 * ((a - 79) / 51) + 4 * o + 2 * (1 - w ((a - 79) / 51) o) ∧ j < 8 * ((n + 29) / 30)) := fun q => by
            by_cases e : ((a - 79) / 51) = k
            · rw [e] at q; exact ha q.2.2.1
            · exact h2 ⟨by omega, q.2⟩
          rw [ssX_o h1 h2, ssX_o (k := k + 1) h1' h2']
end
def ssT (X : sm_X) (c k : Nat) : Bool := slv X k && decide (sm_n (slv X) k < c)
def ssZ (X : sm_X) (o : Nat) : sm_X := mf X (X (691 + o) 3) (30 * ((X (691 + o) 3 + 29) / 30))

set_option maxHeartbeats 4000000 in
set_option maxRecDepth 100000 in
theorem c_S_sendShadows (l : Launch) (Ω : sm_Ω) {X : sm_X} {w : Nat → Nat → Nat} (hf : swf X w) {o c : Nat} (ho : o < 12) (hc : c < 2 ^ 31) (hG : gal X) (hl : ∀ q, q < 240 → X 77 q < 256) (hr : ∀ r, r < 64 → ∀ j, j < 8 → X (6 + r) j < 256) : sm_met l Ω y_S_sendShadows b_S_sendShadows 7 none 4 723 [.ref (Ω.2.1 + 0), .int (nI o), .int (nI c)] X (sm_rf w) (sm_det none (ssX (ssT X c) (ssZ X o) w o (X (691 + o) 2) (X (691 + o) 3) 12) (sm_rf w)) := by
  refine sm_intro (own := RX6) (L := [some (.ref (Ω.2.1 + 0)), some (.int (nI o)), some (.int (nI c)), none, none, none, none]) (by decide) rfl (by simp [Value.category]) (Nat.le_of_ble_eq_true rfl) rfl ?_
  intro Γ C I
  have hw := hf.1
  have gi := hf.2.2.1 o ho
  have gn := gi.2.2.2
  have zo : ∀ a b, (a < 6 ∨ 70 ≤ a) → ssZ X o a b = X a b := fun a b h => mf_o h _ (by omega)
  have zr : ∀ r, r < 64 → ∀ j, j < 8 → ssZ X o (6 + r) j < 256 := fun r h1 j h2 => mf_lt hl hr h1 h2 _ (by omega)
  refine sg_aln (pc := 0) C d_S_sendShadows_0 rfl ?_
  refine sg_getr (pc := 1) C fw_S_31 (by omega) rfl rfl rfl d_S_sendShadows_1 ?_
  refine sg_iln (pc := 4) C d_S_sendShadows_4 rfl ?_
  refine sg_aald (pc := 5) (n := 12) (t := 5) C (by omega) rfl (by decide) rfl rfl (by omega) (by decide) (rf_items (by omega)) d_S_sendShadows_5 ?_
  refine sg_as3 (pc := 6) C d_S_sendShadows_6 ?_
  refine sg_aln (pc := 7) C d_S_sendShadows_7 rfl ?_
  refine sg_getr (pc := 8) C fw_S_19 (by omega) rfl rfl rfl d_S_sendShadows_8 ?_
  refine sg_aln (pc := 11) C d_S_sendShadows_11 rfl ?_
  refine sg_getr (pc := 12) C fw_S_46 (by omega) rfl rfl rfl d_S_sendShadows_12 ?_
  refine sg_aln (pc := 15) C d_S_sendShadows_15 rfl ?_
  refine sg_geti (pc := 16) C fw_S_206 (by omega) (sh_I (by omega)) rfl d_S_sendShadows_16 ?_
  refine sm_callV (pc := 19) (As := [.ref (Ω.2.1 + 77), .int (nI (X (691 + o) 3))]) C I (c_M_fill l Ω (by omega)) cw_S_209 iw_M_fill (C.1.2.2.2.2 _ (List.mem_cons_of_mem _ se_M_fill)) (by omega) rfl rfl rfl rfl (by decide) ⟨by decide, by decide⟩ rfl (Nat.le_of_ble_eq_true rfl) d_S_sendShadows_19 (sm_det_v ?_)
  change sm_G Γ Ω 723 0 0 (19 + 3) _ _ (ssZ X o) (sm_rf w)
  refine sg_iln (pc := 22) C d_S_sendShadows_22 rfl ?_
  refine sg_is4 (pc := 23) C d_S_sendShadows_23 ?_
  refine sg_ic (pc := 25) (v := 0) C d_S_sendShadows_25 (by decide) ?_
  refine sg_is5 (pc := 26) C d_S_sendShadows_26 ?_
  have loop : ∀ t k z, k + t = 12 → sm_G Γ Ω 723 0 0 28 [some (.ref (Ω.2.1 + 0)), some (.int (nI o)), some (.int (nI c)), some (.ref (Ω.2.1 + (691 + o))), some (.int (nI (c - sm_n (slv X) k))), some (.int (nI k)), z] [] (ssX (ssT X c) (ssZ X o) w o (X (691 + o) 2) (X (691 + o) 3) k) (sm_rf w) := by
    intro t
    induction t with
    | zero =>
      intro k z hk
      refine sg_il (pc := 28) C d_S_sendShadows_28 rfl ?_
      refine sg_bi (pc := 30) (v := 12) C d_S_sendShadows_30 (by decide) ?_
      refine sg_icge (pc := 32) (tgt := 112) C d_S_sendShadows_32 (by decide) (by omega) (by omega) (fun h32 => ?_) (fun h32 => absurd h32 (by omega))
      exact sg_vret (pc := 112) C I rfl d_S_sendShadows_112 ⟨rfl, by rw [show k = 12 by omega], rfl⟩
    | succ t ih =>
      intro k z hk
      have hbk := hf.2.1 k (by omega)
      have hwk := hw k o
      have e3 : (ssX (ssT X c) (ssZ X o) w o (X (691 + o) 2) (X (691 + o) 3) k) (79 + 51 * k) 3 = X (79 + 51 * k) 3 := (ssX_o (by omega) (by omega)).trans (zo _ _ (by omega))
      have e0 : (ssX (ssT X c) (ssZ X o) w o (X (691 + o) 2) (X (691 + o) 3) k) (79 + 51 * k) 0 = k + 1 := (ssX_o (by omega) (by omega)).trans ((zo _ _ (by omega)).trans hbk.1)
      have e4 : (ssX (ssT X c) (ssZ X o) w o (X (691 + o) 2) (X (691 + o) 3) k) (691 + o) 2 = (X (691 + o) 2) := (ssX_o (by omega) (by omega)).trans (zo _ _ (by omega))
      have e5 : (ssX (ssT X c) (ssZ X o) w o (X (691 + o) 2) (X (691 + o) 3) k) (691 + o) 3 = (X (691 + o) 3) := (ssX_o (by omega) (by omega)).trans (zo _ _ (by omega))
      have gg : gal (ssX (ssT X c) (ssZ X o) w o (X (691 + o) 2) (X (691 + o) 3) k) := gal_of hG (fun j => (ssX_o (by omega) (by omega)).trans (zo _ _ (by omega))) (fun j => (ssX_o (by omega) (by omega)).trans (zo _ _ (by omega)))
      have rr : ∀ r, r < 64 → ∀ j, j < 8 → (ssX (ssT X c) (ssZ X o) w o (X (691 + o) 2) (X (691 + o) 3) k) (6 + r) j < 256 := fun r h1 j h2 => by rw [ssX_o (by omega) (by omega)]; exact zr r h1 j h2
      have en : sm_n (slv X) (k + 1) = sm_n (slv X) k + (if slv X k = true then 1 else 0) := rfl
      refine sg_il (pc := 28) C d_S_sendShadows_28 rfl ?_
      refine sg_bi (pc := 30) (v := 12) C d_S_sendShadows_30 (by decide) ?_
      refine sg_icge (pc := 32) (tgt := 112) C d_S_sendShadows_32 (by decide) (by omega) (by omega) (fun h32 => absurd h32 (by omega)) (fun h32 => ?_)
      refine sg_il (pc := 35) C d_S_sendShadows_35 rfl ?_
      refine sg_ifle (pc := 37) (tgt := 112) C d_S_sendShadows_37 (by decide) (by omega) (fun h37 => ?_) (fun h37 => ?_)
      · exact sg_vret (pc := 112) C I rfl d_S_sendShadows_112 (by
            have hz : ∀ j, k ≤ j → j < k + (12 - k) → ssT X c j = false := fun j h1 h2 => by
              have := sm_n_mono (slv X) h1
              simp [ssT]; omega
            have he := ssX_end (Z := ssZ X o) (w := w) (o := o) (m := (X (691 + o) 2)) (n := (X (691 + o) 3)) (12 - k) hz
            rw [show k + (12 - k) = 12 by omega] at he
            exact ⟨rfl, he.symm, rfl⟩)
      · refine sg_aln (pc := 40) C d_S_sendShadows_40 rfl ?_
        refine sg_getr (pc := 41) C fw_S_25 (by omega) rfl rfl rfl d_S_sendShadows_41 ?_
        refine sg_il (pc := 44) C d_S_sendShadows_44 rfl ?_
        refine sg_aald (pc := 46) (n := 12) (t := 4) C (by omega) rfl (by decide) rfl rfl (by omega) (by decide) (rf_nodes (by omega)) d_S_sendShadows_46 ?_
        refine sg_geti (pc := 47) C fw_S_149 (by omega) (sh_N (by omega)) rfl d_S_sendShadows_47 ?_
        rw [e3]
        refine sg_ifeq (pc := 50) (tgt := 106) C d_S_sendShadows_50 (by decide) (by omega) (fun h50 => ?_) (fun h50 => ?_)
        · refine sg_inc5 (pc := 106) (n := 1) C d_S_sendShadows_106 (by decide) ?_
          refine sg_goto (pc := 109) (tgt := 28) C d_S_sendShadows_109 (by decide) ?_
          have hp : slv X k = false := by simp [slv, h50]
          have hT : ssT X c k = false := by simp [ssT, hp]
          have h := ih (k + 1) z (by omega)
          rw [en, hp, ssX_f hT] at h
          exact h
        · refine sg_aln (pc := 53) C d_S_sendShadows_53 rfl ?_
          refine sg_getr (pc := 54) C fw_S_25 (by omega) rfl rfl rfl d_S_sendShadows_54 ?_
          refine sg_il (pc := 57) C d_S_sendShadows_57 rfl ?_
          refine sg_aald (pc := 59) (n := 12) (t := 4) C (by omega) rfl (by decide) rfl rfl (by omega) (by decide) (rf_nodes (by omega)) d_S_sendShadows_59 ?_
          refine sg_getr (pc := 60) C fw_S_212 (by omega) (sh_N (by omega)) rfl (rf_N2 (by omega)) d_S_sendShadows_60 ?_
          refine sg_iln (pc := 63) C d_S_sendShadows_63 rfl ?_
          refine sg_aald (pc := 64) (n := 12) (t := 6) C (by omega) (sh_Nh (by omega)) (by decide) rfl rfl (by omega) (by decide) (rf_Nh (by omega) (by omega)) d_S_sendShadows_64 ?_
          refine sg_as6 (pc := 65) C d_S_sendShadows_65 ?_
          refine sg_al (pc := 67) C d_S_sendShadows_67 rfl ?_
          refine sg_aln (pc := 69) C d_S_sendShadows_69 rfl ?_
          refine sg_geti (pc := 70) C fw_S_97 (by omega) (sh_I (by omega)) rfl d_S_sendShadows_70 ?_
          rw [e4]
          refine sg_aln (pc := 73) C d_S_sendShadows_73 rfl ?_
          refine sg_geti (pc := 74) C fw_S_206 (by omega) (sh_I (by omega)) rfl d_S_sendShadows_74 ?_
          rw [e5]
          refine sm_callV (pc := 77) (As := [.int (nI (X (691 + o) 2)), .int (nI (X (691 + o) 3))]) C I (c_H_become l Ω (by omega) (sh_S (by omega) ho (by omega))) cw_S_215 iw_H_become (C.1.2.2.2.2 _ (List.mem_cons_of_mem _ se_H_become)) (by omega) (sh_S (by omega) (by omega) (by omega)) rfl rfl rfl (by decide) ⟨by decide, by decide⟩ rfl (Nat.le_of_ble_eq_true rfl) d_S_sendShadows_77 (sm_det_v ?_)
          refine sg_aln (pc := 80) C d_S_sendShadows_80 rfl ?_
          refine sg_getr (pc := 81) C fw_S_19 (by omega) rfl rfl rfl d_S_sendShadows_81 ?_
          refine sg_aln (pc := 84) C d_S_sendShadows_84 rfl ?_
          refine sg_getr (pc := 85) C fw_S_12 (by omega) rfl rfl rfl d_S_sendShadows_85 ?_
          refine sg_aln (pc := 88) C d_S_sendShadows_88 rfl ?_
          refine sg_getr (pc := 89) C fw_S_25 (by omega) rfl rfl rfl d_S_sendShadows_89 ?_
          refine sg_il (pc := 92) C d_S_sendShadows_92 rfl ?_
          refine sg_aald (pc := 94) (n := 12) (t := 4) C (by omega) rfl (by decide) rfl rfl (by omega) (by decide) (rf_nodes (by omega)) d_S_sendShadows_94 ?_
          refine sg_geti (pc := 95) C fw_S_218 (by omega) (sh_N (by omega)) rfl d_S_sendShadows_95 ?_
          rw [sm_up_x (Or.inl (by omega)), sm_up_x (Or.inl (by omega)), e0]
          refine sg_al (pc := 98) C d_S_sendShadows_98 rfl ?_
          refine sm_callV (pc := 100) (As := [.ref (Ω.2.1 + 1), .int (nI (k + 1)), .ref (Ω.2.1 + (82 + 51 * k + 4 * o + 2 * (1 - w k o)))]) C I (c_M_encode l Ω (X := (sm_up (sm_up (ssX (ssT X c) (ssZ X o) w o (X (691 + o) 2) (X (691 + o) 3) k) (82 + 51 * k + 4 * o + 2 * (1 - w k o)) 0 (X (691 + o) 2)) (82 + 51 * k + 4 * o + 2 * (1 - w k o)) 1 (X (691 + o) 3))) (n := k) (o := o) (b := 1 - w k o) (p := k + 1) (by omega) ho (by omega) (gal_of gg (fun j => (sm_up_x (Or.inl (by omega))).trans (sm_up_x (Or.inl (by omega)))) (fun j => (sm_up_x (Or.inl (by omega))).trans (sm_up_x (Or.inl (by omega))))) (by omega) (by rw [sm_up_s]; exact gn) (fun r h1 j h2 => by rw [sm_up_x (Or.inl (by omega)), sm_up_x (Or.inl (by omega))]; exact rr r h1 j h2)) cw_S_221 iw_M_encode (C.1.2.2.2.2 _ (List.mem_cons_of_mem _ se_M_encode)) (by omega) rfl rfl rfl rfl (by decide) ⟨by decide, by decide⟩ rfl (Nat.le_of_ble_eq_true rfl) d_S_sendShadows_100 (sm_det_v ?_)
          have hT : ssT X c k = true := by simp [ssT, slv, h50]; omega
          rw [ssX_t ho gn hT]
          refine sg_dec4 (pc := 103) C d_S_sendShadows_103 ?_
          refine sg_inc5 (pc := 106) (n := 1) C d_S_sendShadows_106 (by decide) ?_
          refine sg_goto (pc := 109) (tgt := 28) C d_S_sendShadows_109 (by decide) ?_
          have hp : slv X k = true := by simp [slv, h50]
          have h := ih (k + 1) (some (.ref (Ω.2.1 + (82 + 51 * k + 4 * o + 2 * (1 - w k o))))) (by omega)
          rw [en, hp, if_pos rfl] at h
          rw [show c - sm_n (slv X) k = c - (sm_n (slv X) k + 1) + 1 by omega, sn_m1]
          exact h
  have h0 := loop 12 0 none (by omega)
  rw [ssX_0] at h0
  exact h0
end
section
/-! Masks as sets of nodes; choosing readers and helpers; asking helpers -/
def bitp (m k : Nat) : Bool := decide (m / 2 ^ k % 2 = 1)
theorem sm_k_tb (p : Nat → Bool) (n j : Nat) : (sm_k p n).testBit j = (decide (j < n) && p j) := by
  by_cases h : j < n
  · have h1 := sm_k_bit p n j h
    rw [Nat.testBit_eq_decide_div_mod_eq]
    cases hp : p j
    · rw [hp] at h1
      simp [h1, h]
    · rw [hp] at h1
      simp [h1, h]
  · rw [Nat.testBit_lt_two_pow (Nat.lt_of_lt_of_le (sm_k_lt p n) (Nat.pow_le_pow_right (by decide) (by omega)))]
    simp [h]
theorem mk_self {m : Nat} (hm : m < 4096) : sm_k (bitp m) 12 = m := by
  apply Nat.eq_of_testBit_eq
  intro j
  rw [sm_k_tb]
  by_cases h : j < 12
  · simp [h, bitp, Nat.testBit_eq_decide_div_mod_eq]
  · rw [Nat.testBit_lt_two_pow (x := m) (i := j) (Nat.lt_of_lt_of_le hm (Nat.pow_le_pow_right (n := 2) (by decide) (by omega : 12 ≤ j)))]
    simp [h]
theorem sn_clr (p : Nat → Bool) (b : Nat) : nI (sm_k p 12) &&& (nI (2 ^ b) ^^^ (-1)) = nI (sm_k (fun j => p j && decide (j ≠ b)) 12) := by
  rw [show (-1 : Int32) = nI 4294967295 from by decide, nx_xor, nx_and]
  congr 1
  apply Nat.eq_of_testBit_eq
  intro j
  rw [Nat.testBit_and, Nat.testBit_xor, sm_k_tb, sm_k_tb, Nat.testBit_two_pow, show (4294967295 : Nat) = 2 ^ 32 - 1 from rfl, Nat.testBit_two_pow_sub_one]
  by_cases h : j < 12
  · by_cases e : b = j
    · subst e
      simp [h, show b < 32 by omega]
    · simp [h, e, show j < 32 by omega, show j ≠ b from fun q => e q.symm]
  · simp [h]
theorem sm_n_congr {p q : Nat → Bool} : ∀ n, (∀ k, k < n → p k = q k) → sm_n p n = sm_n q n
  | 0, _ => rfl
  | n + 1, h => by
    show sm_n p n + (if p n = true then 1 else 0) = sm_n q n + (if q n = true then 1 else 0)
    rw [sm_n_congr n (fun k hk => h k (by omega)), h n (by omega)]
theorem pop_k (p : Nat → Bool) : pop (sm_k p 12) = sm_n p 12 := by
  refine sm_n_congr 12 (fun k hk => ?_)
  have h := sm_k_bit p 12 k hk
  cases hp : p k
  · rw [hp] at h; simp [h]
  · rw [hp] at h; simp [h]
theorem sm_n_rm {p : Nat → Bool} {b : Nat} (hp : p b = true) : ∀ n, (b < n → sm_n (fun j => p j && decide (j ≠ b)) n + 1 = sm_n p n) ∧ (n ≤ b → sm_n (fun j => p j && decide (j ≠ b)) n = sm_n p n)
  | 0 => ⟨fun h => absurd h (Nat.not_lt_zero b), fun _ => rfl⟩
  | n + 1 => by
    have ih := sm_n_rm hp n
    show (b < n + 1 → (sm_n (fun j => p j && decide (j ≠ b)) n + (if (p n && decide (n ≠ b)) = true then 1 else 0)) + 1 = sm_n p n + (if p n = true then 1 else 0)) ∧ (n + 1 ≤ b → sm_n (fun j => p j && decide (j ≠ b)) n + (if (p n && decide (n ≠ b)) = true then 1 else 0) = sm_n p n + (if p n = true then 1 else 0))
    by_cases e : n = b
    · subst e
      refine ⟨fun _ => ?_, fun h => absurd h (by omega)⟩
      rw [ih.2 (Nat.le_refl n)]
      simp [hp]
    · have e2 : (p n && decide (n ≠ b)) = p n := by simp [e]
      rw [e2]
      refine ⟨fun h => ?_, fun h => ?_⟩
      · have := ih.1 (by omega)
        omega
      · rw [ih.2 (by omega)]
theorem sm_n_ex {p : Nat → Bool} : ∀ n, 0 < sm_n p n → ∃ j, j < n ∧ p j = true
  | 0, h => absurd h (Nat.lt_irrefl 0)
  | n + 1, h => by
    by_cases e : p n = true
    · exact ⟨n, by omega, e⟩
    · have h2 : sm_n p (n + 1) = sm_n p n := by
        show sm_n p n + (if p n = true then 1 else 0) = sm_n p n
        rw [if_neg e, Nat.add_zero]
      rw [h2] at h
      obtain ⟨j, h3, h4⟩ := sm_n_ex n h
      exact ⟨j, by omega, h4⟩
theorem sm_k_ne {p : Nat → Bool} {j : Nat} (hj : j < 12) (h : p j = true) : sm_k p 12 ≠ 0 := fun e => by
  have := (sm_k_bit p 12 j hj).mpr h
  rw [e, Nat.zero_div] at this
  exact absurd this (by decide)
/-- the node of a set that has sent least, the lowest of equal ones; its number and one; 0: none -/
def bst (X : sm_X) (p : Nat → Bool) : Nat → Nat
  | 0 => 0
  | k + 1 => if p k = true ∧ (bst X p k = 0 ∨ X (79 + 51 * k) 4 < X (79 + 51 * (bst X p k - 1)) 4) then k + 1 else bst X p k
section
variable {X Z : sm_X} {p : Nat → Bool}
theorem bst_p : ∀ k, bst X p k ≤ k ∧ (bst X p k ≠ 0 → p (bst X p k - 1) = true)
  | 0 => ⟨Nat.le_refl 0, fun h => absurd rfl h⟩
  | k + 1 => by
    have ih := bst_p k
    show (if p k = true ∧ (bst X p k = 0 ∨ X (79 + 51 * k) 4 < X (79 + 51 * (bst X p k - 1)) 4) then k + 1 else bst X p k) ≤ k + 1 ∧ _
    have e : bst X p (k + 1) = if p k = true ∧ (bst X p k = 0 ∨ X (79 + 51 * k) 4 < X (79 + 51 * (bst X p k - 1)) 4) then k + 1 else bst X p k := rfl
    rw [e]
    split
    · rename_i h
      exact ⟨Nat.le_refl _, fun _ => h.1⟩
    · exact ⟨by omega, ih.2⟩
theorem bst_ne {j : Nat} (h : p j = true) : ∀ k, j < k → bst X p k ≠ 0
  | 0, hj => absurd hj (Nat.not_lt_zero j)
  | k + 1, hj => by
    have e : bst X p (k + 1) = if p k = true ∧ (bst X p k = 0 ∨ X (79 + 51 * k) 4 < X (79 + 51 * (bst X p k - 1)) 4) then k + 1 else bst X p k := rfl
    rw [e]
    by_cases ej : j = k
    · subst ej
      by_cases h0 : bst X p j = 0
      · rw [if_pos ⟨h, Or.inl h0⟩]; omega
      · split
        · omega
        · exact h0
    · have ih := bst_ne h k (by omega)
      split
      · omega
      · exact ih
theorem bst_congr (h : ∀ n, n < 12 → Z (79 + 51 * n) 4 = X (79 + 51 * n) 4) : ∀ k, k ≤ 12 → bst Z p k = bst X p k
  | 0, _ => rfl
  | k + 1, hk => by
    have ih := bst_congr h k (by omega)
    have hb := (bst_p (X := X) (p := p) k).1
    show (if p k = true ∧ (bst Z p k = 0 ∨ Z (79 + 51 * k) 4 < Z (79 + 51 * (bst Z p k - 1)) 4) then k + 1 else bst Z p k) = (if p k = true ∧ (bst X p k = 0 ∨ X (79 + 51 * k) 4 < X (79 + 51 * (bst X p k - 1)) 4) then k + 1 else bst X p k)
    rw [ih, h k (by omega), h (bst X p k - 1) (by omega)]
end
theorem sn_b0 {b : Nat} (h : b < 2 ^ 31) : nI b + (-1) = -1 ↔ b = 0 := by
  constructor
  · intro e
    cases b with
    | zero => rfl
    | succ b =>
      rw [sn_m1] at e
      exact absurd e (sn_nm (by omega))
  · intro e
    subst e
    decide

theorem swf_team {X Z : sm_X} {w : Nat → Nat → Nat} (hf : swf X w) (h : ∀ a j, a ≠ 74 → a ≠ 75 → ¬ (a = 73 ∧ j = 2) → Z a j = X a j) : swf Z w := by
  refine ⟨hf.1, fun n hn => ?_, fun o ho => ?_, fun n o b hn ho hb => ?_⟩
  · rw [h _ 0 (by omega) (by omega) (by omega), h _ 3 (by omega) (by omega) (by omega), h _ 4 (by omega) (by omega) (by omega)]
    exact hf.2.1 n hn
  · rw [h _ 4 (by omega) (by omega) (by omega), h _ 1 (by omega) (by omega) (by omega), h _ 3 (by omega) (by omega) (by omega)]
    refine ⟨fun j hj => ?_, (hf.2.2.1 o ho).2⟩
    rw [h _ j (by omega) (by omega) (by omega)]
    exact (hf.2.2.1 o ho).1 j hj
  · rw [h _ 0 (by omega) (by omega) (by omega), h _ 1 (by omega) (by omega) (by omega)]
    exact hf.2.2.2 n o b hn ho hb

set_option maxHeartbeats 4000000 in
set_option maxRecDepth 100000 in
theorem c_S_leastSent (l : Launch) (Ω : sm_Ω) {X : sm_X} {w : Nat → Nat → Nat} (hf : swf X w) {p : Nat → Bool} : sm_met l Ω y_S_leastSent b_S_leastSent 5 (some .int) 1 723 [.ref (Ω.2.1 + 0), .int (nI (sm_k p 12))] X (sm_rf w) (sm_det (some (.int (nI (bst X p 12) + (-1)))) X (sm_rf w)) := by
  refine sm_intro (own := RX6) (L := [some (.ref (Ω.2.1 + 0)), some (.int (nI (sm_k p 12))), none, none, none]) (by decide) rfl (by simp [Value.category]) (Nat.le_of_ble_eq_true rfl) rfl ?_
  intro Γ C I
  have hw := hf.1
  have hkl := sm_k_lt p 12
  refine sg_icm (pc := 0) (v := -1) C d_S_leastSent_0 (by decide) ?_
  refine sg_is2 (pc := 1) C d_S_leastSent_1 ?_
  refine sg_ic (pc := 2) (v := 0) C d_S_leastSent_2 (by decide) ?_
  refine sg_is3 (pc := 3) C d_S_leastSent_3 ?_
  have loop : ∀ t k z, k + t = 12 → sm_G Γ Ω 723 0 0 4 [some (.ref (Ω.2.1 + 0)), some (.int (nI (sm_k p 12))), some (.int (nI (bst X p k) + (-1))), some (.int (nI k)), z] [] X (sm_rf w) := by
    intro t
    induction t with
    | zero =>
      intro k z hk
      refine sg_iln (pc := 4) C d_S_leastSent_4 rfl ?_
      refine sg_bi (pc := 5) (v := 12) C d_S_leastSent_5 (by decide) ?_
      refine sg_icge (pc := 7) (tgt := 65) C d_S_leastSent_7 (by decide) (by omega) (by omega) (fun h7 => ?_) (fun h7 => absurd h7 (by omega))
      refine sg_iln (pc := 65) C d_S_leastSent_65 rfl ?_
      exact sg_iret (pc := 66) C I rfl rfl d_S_leastSent_66 ⟨by rw [show k = 12 by omega], rfl, rfl⟩
    | succ t ih =>
      intro k z hk
      have hbk := hf.2.1 k (by omega)
      have hb := bst_p (X := X) (p := p) k
      have hmk : sm_k p 12 / 2 ^ k % 2 < 2 := Nat.mod_lt _ (by decide)
      have hp := sm_k_bit p 12 k (by omega)
      have es : bst X p (k + 1) = if p k = true ∧ (bst X p k = 0 ∨ X (79 + 51 * k) 4 < X (79 + 51 * (bst X p k - 1)) 4) then k + 1 else bst X p k := rfl
      refine sg_iln (pc := 4) C d_S_leastSent_4 rfl ?_
      refine sg_bi (pc := 5) (v := 12) C d_S_leastSent_5 (by decide) ?_
      refine sg_icge (pc := 7) (tgt := 65) C d_S_leastSent_7 (by decide) (by omega) (by omega) (fun h7 => absurd h7 (by omega)) (fun h7 => ?_)
      refine sg_iln (pc := 10) C d_S_leastSent_10 rfl ?_
      refine sg_iln (pc := 11) C d_S_leastSent_11 rfl ?_
      refine sr_ishr (pc := 12) C d_S_leastSent_12 (sn_shr (by omega) (by omega)) ?_
      refine sg_ic (pc := 13) (v := 1) C d_S_leastSent_13 (by decide) ?_
      refine sg_and (pc := 14) C d_S_leastSent_14 ?_
      rw [Nat.and_one_is_mod]
      refine sg_ic (pc := 15) (v := 1) C d_S_leastSent_15 (by decide) ?_
      refine sg_icne (pc := 16) (tgt := 23) C d_S_leastSent_16 (by decide) (by omega) (by omega) (fun h16 => ?_) (fun h16 => ?_)
      · refine sg_ic (pc := 23) (v := 0) C d_S_leastSent_23 (by decide) ?_
        refine sg_is4 (pc := 24) C d_S_leastSent_24 ?_
        refine sg_il (pc := 26) C d_S_leastSent_26 rfl ?_
        refine sg_ifeq (pc := 28) (tgt := 59) C d_S_leastSent_28 (by decide) (by omega) (fun h28 => ?_) (fun h28 => absurd rfl h28)
        refine sg_inc3 (pc := 59) (n := 1) C d_S_leastSent_59 (by decide) ?_
        refine sg_goto (pc := 62) (tgt := 4) C d_S_leastSent_62 (by decide) ?_
        have h := ih (k + 1) (some (.int (nI 0))) (by omega)
        rw [es, if_neg (fun q => h16 (hp.mpr q.1))] at h
        exact h
      · refine sg_ic (pc := 19) (v := 1) C d_S_leastSent_19 (by decide) ?_
        refine sg_goto (pc := 20) (tgt := 24) C d_S_leastSent_20 (by decide) ?_
        refine sg_is4 (pc := 24) C d_S_leastSent_24 ?_
        refine sg_il (pc := 26) C d_S_leastSent_26 rfl ?_
        refine sg_ifeq (pc := 28) (tgt := 59) C d_S_leastSent_28 (by decide) (by omega) (fun h28 => absurd h28 (by decide)) (fun h28 => ?_)
        refine sg_iln (pc := 31) C d_S_leastSent_31 rfl ?_
        refine sg_icm (pc := 32) (v := -1) C d_S_leastSent_32 (by decide) ?_
        refine sr_iceq (pc := 33) (tgt := 57) C d_S_leastSent_33 (by decide) (fun h33 => ?_) (fun h33 => ?_)
        · refine sg_iln (pc := 57) C d_S_leastSent_57 rfl ?_
          refine sg_is2 (pc := 58) C d_S_leastSent_58 ?_
          refine sg_inc3 (pc := 59) (n := 1) C d_S_leastSent_59 (by decide) ?_
          refine sg_goto (pc := 62) (tgt := 4) C d_S_leastSent_62 (by decide) ?_
          have h := ih (k + 1) (some (.int (nI 1))) (by omega)
          rw [es, if_pos ⟨hp.mp h16, Or.inl ((sn_b0 (by omega)).mp h33)⟩, sn_m1] at h
          exact h
        · obtain ⟨b', hb'⟩ : ∃ b', bst X p k = b' + 1 := ⟨bst X p k - 1, by have := mt (sn_b0 (b := bst X p k) (by omega)).mpr h33; omega⟩
          rw [hb', sn_m1]
          have hbb := hf.2.1 b' (by omega)
          refine sg_aln (pc := 36) C d_S_leastSent_36 rfl ?_
          refine sg_getr (pc := 37) C fw_S_25 (by omega) rfl rfl rfl d_S_leastSent_37 ?_
          refine sg_iln (pc := 40) C d_S_leastSent_40 rfl ?_
          refine sg_aald (pc := 41) (n := 12) (t := 4) C (by omega) rfl (by decide) rfl rfl (by omega) (by decide) (rf_nodes (by omega)) d_S_leastSent_41 ?_
          refine sg_geti (pc := 42) C fw_S_165 (by omega) (sh_N (by omega)) rfl d_S_leastSent_42 ?_
          refine sg_aln (pc := 45) C d_S_leastSent_45 rfl ?_
          refine sg_getr (pc := 46) C fw_S_25 (by omega) rfl rfl rfl d_S_leastSent_46 ?_
          refine sg_iln (pc := 49) C d_S_leastSent_49 rfl ?_
          refine sg_aald (pc := 50) (n := 12) (t := 4) C (by omega) rfl (by decide) rfl rfl (by omega) (by decide) (rf_nodes (by omega)) d_S_leastSent_50 ?_
          refine sg_geti (pc := 51) C fw_S_165 (by omega) (sh_N (by omega)) rfl d_S_leastSent_51 ?_
          refine sg_icge (pc := 54) (tgt := 59) C d_S_leastSent_54 (by decide) (by omega) (by omega) (fun h54 => ?_) (fun h54 => ?_)
          · refine sg_inc3 (pc := 59) (n := 1) C d_S_leastSent_59 (by decide) ?_
            refine sg_goto (pc := 62) (tgt := 4) C d_S_leastSent_62 (by decide) ?_
            have h := ih (k + 1) (some (.int (nI 1))) (by omega)
            rw [es, if_neg (fun q => q.2.elim (fun z => by omega) (fun z => by rw [hb'] at z; simp only [Nat.add_sub_cancel] at z; omega)), hb', sn_m1] at h
            exact h
          · refine sg_iln (pc := 57) C d_S_leastSent_57 rfl ?_
            refine sg_is2 (pc := 58) C d_S_leastSent_58 ?_
            refine sg_inc3 (pc := 59) (n := 1) C d_S_leastSent_59 (by decide) ?_
            refine sg_goto (pc := 62) (tgt := 4) C d_S_leastSent_62 (by decide) ?_
            have h := ih (k + 1) (some (.int (nI 1))) (by omega)
            rw [es, if_pos ⟨hp.mp h16, Or.inr (by rw [hb']; simp only [Nat.add_sub_cancel]; omega)⟩, sn_m1] at h
            exact h
  have h0 := loop 12 0 none (by omega)
  rw [show nI (bst X p 0) + (-1) = -1 from by show nI 0 + (-1) = -1; decide] at h0
  exact h0

def clI (X : sm_X) (p : Nat → Bool) (k : Nat) (Z : sm_X) : Prop := (∀ a b, ¬ (a = 73 ∧ b = 2) → a ≠ 74 → a ≠ 75 → Z a b = X a b) ∧ Z 73 2 = sm_n p k ∧ Z 73 2 ≤ 5 ∧ (∀ j, j < Z 73 2 → Z 74 j < k ∧ p (Z 74 j) = true ∧ Z 75 j = Z 74 j + 1) ∧ ∀ i j, i < j → j < Z 73 2 → Z 74 i < Z 74 j
theorem cl_0 {X : sm_X} {p : Nat → Bool} : clI X p 0 (sm_up X 73 2 0) := ⟨fun a b h _ _ => if_neg h, sm_up_s, by rw [sm_up_s]; decide, fun j h => by rw [sm_up_s] at h; omega, fun i j _ h => by rw [sm_up_s] at h; omega⟩
theorem cl_f {X Z : sm_X} {p : Nat → Bool} {k : Nat} (h : clI X p k Z) (hp : p k = false) : clI X p (k + 1) Z := by
  refine ⟨h.1, ?_, h.2.2.1, fun j hj => ?_, h.2.2.2.2⟩
  · show Z 73 2 = sm_n p k + (if p k = true then 1 else 0)
    rw [hp]; exact h.2.1
  · have := h.2.2.2.1 j hj
    exact ⟨by omega, this.2⟩
theorem cl_t {X Z : sm_X} {p : Nat → Bool} {k : Nat} (h : clI X p k Z) (hp : p k = true) (h5 : Z 73 2 < 5) : clI X p (k + 1) (sm_up (sm_up (sm_up Z 74 (Z 73 2) k) 75 (Z 73 2) (k + 1)) 73 2 (Z 73 2 + 1)) := by
  have e73 : sm_up (sm_up (sm_up Z 74 (Z 73 2) k) 75 (Z 73 2) (k + 1)) 73 2 (Z 73 2 + 1) 73 2 = Z 73 2 + 1 := sm_up_s
  have e74 : ∀ j, sm_up (sm_up (sm_up Z 74 (Z 73 2) k) 75 (Z 73 2) (k + 1)) 73 2 (Z 73 2 + 1) 74 j = if j = Z 73 2 then k else Z 74 j := by
    intro j
    rw [sm_up_x (Or.inl (by decide)), sm_up_x (Or.inl (by decide))]
    by_cases e : j = Z 73 2
    · rw [if_pos e, e, sm_up_s]
    · rw [if_neg e, sm_up_n e]
  have e75 : ∀ j, sm_up (sm_up (sm_up Z 74 (Z 73 2) k) 75 (Z 73 2) (k + 1)) 73 2 (Z 73 2 + 1) 75 j = if j = Z 73 2 then k + 1 else Z 75 j := by
    intro j
    rw [sm_up_x (Or.inl (by decide))]
    by_cases e : j = Z 73 2
    · rw [if_pos e, e, sm_up_s]
    · rw [if_neg e, sm_up_n e, sm_up_x (Or.inl (by decide))]
  refine ⟨fun a b h1 h2 h3 => ?_, ?_, ?_, fun j hj => ?_, fun i j hij hj => ?_⟩
  · rw [sm_up_x (by omega), sm_up_x (Or.inl h3), sm_up_x (Or.inl h2)]
    exact h.1 a b h1 h2 h3
  · rw [e73]
    show Z 73 2 + 1 = sm_n p k + (if p k = true then 1 else 0)
    rw [hp, h.2.1]; rfl
  · rw [e73]; omega
  · rw [e73] at hj
    rw [e74, e75]
    by_cases e : j = Z 73 2
    · rw [if_pos e, if_pos e]; exact ⟨by omega, hp, rfl⟩
    · rw [if_neg e, if_neg e]
      have := h.2.2.2.1 j (by omega)
      exact ⟨by omega, this.2⟩
  · rw [e73] at hj
    rw [e74, e74, if_neg (by omega : i ≠ Z 73 2)]
    by_cases e : j = Z 73 2
    · rw [if_pos e]; exact (h.2.2.2.1 i (by omega)).1
    · rw [if_neg e]; exact h.2.2.2.2 i j hij (by omega)
def clP (X : sm_X) (p : Nat → Bool) (Z : sm_X) : Prop := (∀ a b, ¬ (a = 73 ∧ b = 2) → a ≠ 74 → a ≠ 75 → Z a b = X a b) ∧ (∀ j, j < 5 → Z 74 j < 12 ∧ p (Z 74 j) = true ∧ Z 75 j = Z 74 j + 1) ∧ ∀ i j, i < j → j < 5 → Z 74 i < Z 74 j
theorem cl_end {X Z : sm_X} {p : Nat → Bool} {k : Nat} (hk : k ≤ 12) (h : clI X p k Z) (h5 : 5 ≤ Z 73 2) : clP X p Z := ⟨h.1, fun j hj => by have := h.2.2.2.1 j (by omega); exact ⟨by omega, this.2⟩, fun i j hij hj => h.2.2.2.2 i j hij (by omega)⟩

set_option maxHeartbeats 4000000 in
set_option maxRecDepth 100000 in
theorem c_S_chooseLowest (l : Launch) (Ω : sm_Ω) {X : sm_X} {w : Nat → Nat → Nat} {p : Nat → Bool} (h5p : 5 ≤ sm_n p 12) : sm_met l Ω y_S_chooseLowest b_S_chooseLowest 3 none 2 723 [.ref (Ω.2.1 + 0), .int (nI (sm_k p 12))] X (sm_rf w) (fun r X2 Y2 => r = none ∧ clP X p X2 ∧ Y2 = sm_rf w) := by
  refine sm_intro (own := RX6) (L := [some (.ref (Ω.2.1 + 0)), some (.int (nI (sm_k p 12))), none]) (by decide) rfl (by simp [Value.category]) (Nat.le_of_ble_eq_true rfl) rfl ?_
  intro Γ C I
  have hkl := sm_k_lt p 12
  refine sg_aln (pc := 0) C d_S_chooseLowest_0 rfl ?_
  refine sg_getr (pc := 1) C fw_S_38 (by omega) rfl rfl rfl d_S_chooseLowest_1 ?_
  refine sm_callV (pc := 4) (As := []) C I (c_T_clear l Ω) cw_S_255 iw_T_clear (C.1.2.2.2.2 _ (List.mem_cons_of_mem _ se_T_clear)) (by omega) rfl rfl rfl rfl (by decide) ⟨by decide, by decide⟩ rfl (Nat.le_of_ble_eq_true rfl) d_S_chooseLowest_4 (sm_det_v ?_)
  refine sg_ic (pc := 7) (v := 0) C d_S_chooseLowest_7 (by decide) ?_
  refine sg_is2 (pc := 8) C d_S_chooseLowest_8 ?_
  have loop : ∀ t k (Z : sm_X), k + t = 12 → clI X p k Z → sm_G Γ Ω 723 0 0 9 [some (.ref (Ω.2.1 + 0)), some (.int (nI (sm_k p 12))), some (.int (nI k))] [] Z (sm_rf w) := by
    intro t
    induction t with
    | zero =>
      intro k Z hk hI
      refine sg_iln (pc := 9) C d_S_chooseLowest_9 rfl ?_
      refine sg_bi (pc := 10) (v := 12) C d_S_chooseLowest_10 (by decide) ?_
      refine sg_icge (pc := 12) (tgt := 49) C d_S_chooseLowest_12 (by decide) (by omega) (by omega) (fun h12 => ?_) (fun h12 => absurd h12 (by omega))
      exact sg_vret (pc := 49) C I rfl d_S_chooseLowest_49 ⟨rfl, cl_end (k := k) (by omega) hI (by have h2 := hI.2.1; rw [show k = 12 by omega] at h2; omega), rfl⟩
    | succ t ih =>
      intro k Z hk hI
      have h5 := hI.2.2.1
      have hmk : sm_k p 12 / 2 ^ k % 2 < 2 := Nat.mod_lt _ (by decide)
      have hp := sm_k_bit p 12 k (by omega)
      refine sg_iln (pc := 9) C d_S_chooseLowest_9 rfl ?_
      refine sg_bi (pc := 10) (v := 12) C d_S_chooseLowest_10 (by decide) ?_
      refine sg_icge (pc := 12) (tgt := 49) C d_S_chooseLowest_12 (by decide) (by omega) (by omega) (fun h12 => absurd h12 (by omega)) (fun h12 => ?_)
      refine sg_aln (pc := 15) C d_S_chooseLowest_15 rfl ?_
      refine sg_getr (pc := 16) C fw_S_38 (by omega) rfl rfl rfl d_S_chooseLowest_16 ?_
      refine sg_geti (pc := 19) C fw_S_258 (by omega) rfl rfl d_S_chooseLowest_19 ?_
      refine sg_ic (pc := 22) (v := 5) C d_S_chooseLowest_22 (by decide) ?_
      refine sg_icge (pc := 23) (tgt := 49) C d_S_chooseLowest_23 (by decide) (by omega) (by omega) (fun h23 => ?_) (fun h23 => ?_)
      · exact sg_vret (pc := 49) C I rfl d_S_chooseLowest_49 ⟨rfl, cl_end (k := k) (by omega) hI (by omega), rfl⟩
      · refine sg_iln (pc := 26) C d_S_chooseLowest_26 rfl ?_
        refine sg_iln (pc := 27) C d_S_chooseLowest_27 rfl ?_
        refine sr_ishr (pc := 28) C d_S_chooseLowest_28 (sn_shr (by omega) (by omega)) ?_
        refine sg_ic (pc := 29) (v := 1) C d_S_chooseLowest_29 (by decide) ?_
        refine sg_and (pc := 30) C d_S_chooseLowest_30 ?_
        rw [Nat.and_one_is_mod]
        refine sg_ic (pc := 31) (v := 1) C d_S_chooseLowest_31 (by decide) ?_
        refine sg_icne (pc := 32) (tgt := 43) C d_S_chooseLowest_32 (by decide) (by omega) (by omega) (fun h32 => ?_) (fun h32 => ?_)
        · refine sg_inc2 (pc := 43) (n := 1) C d_S_chooseLowest_43 (by decide) ?_
          refine sg_goto (pc := 46) (tgt := 9) C d_S_chooseLowest_46 (by decide) ?_
          exact ih (k + 1) Z (by omega) (cl_f hI (by cases e : p k <;> simp_all))
        · refine sg_aln (pc := 35) C d_S_chooseLowest_35 rfl ?_
          refine sg_getr (pc := 36) C fw_S_38 (by omega) rfl rfl rfl d_S_chooseLowest_36 ?_
          refine sg_iln (pc := 39) C d_S_chooseLowest_39 rfl ?_
          refine sm_callV (pc := 40) (As := [.int (nI k)]) C I (c_T_add l Ω (by omega)) cw_S_261 iw_T_add (C.1.2.2.2.2 _ (List.mem_cons_of_mem _ se_T_add)) (by omega) rfl rfl rfl rfl (by decide) ⟨by decide, by decide⟩ rfl (Nat.le_of_ble_eq_true rfl) d_S_chooseLowest_40 (sm_det_v ?_)
          refine sg_inc2 (pc := 43) (n := 1) C d_S_chooseLowest_43 (by decide) ?_
          refine sg_goto (pc := 46) (tgt := 9) C d_S_chooseLowest_46 (by decide) ?_
          exact ih (k + 1) _ (by omega) (cl_t hI (hp.mp h32) (by omega))
  exact loop 12 0 _ (by omega) cl_0

def cP (X : sm_X) (p : Nat → Bool) : Nat → (Nat → Bool)
  | 0 => p
  | k + 1 => fun j => cP X p k j && decide (j ≠ bst X (cP X p k) 12 - 1)
def cM (X : sm_X) (p : Nat → Bool) (k : Nat) : Nat := bst X (cP X p k) 12 - 1
def clX (X : sm_X) (p : Nat → Bool) (k : Nat) : sm_X := fun a j => if a = 74 ∧ j < k then cM X p j else if a = 75 ∧ j < k then cM X p j + 1 else if a = 73 ∧ j = 2 then k else X a j
section
variable {X : sm_X} {p : Nat → Bool}
theorem cP_n (h8 : 8 ≤ sm_n p 12) : ∀ k, k ≤ 8 → sm_n (cP X p k) 12 + k = sm_n p 12
  | 0, _ => rfl
  | k + 1, hk => by
    have ih := cP_n h8 k (by omega)
    obtain ⟨j, hj, hp⟩ := sm_n_ex (p := cP X p k) 12 (by omega)
    have hb := bst_p (X := X) (p := cP X p k) 12
    have hn := bst_ne (X := X) hp 12 hj
    have := (sm_n_rm (b := bst X (cP X p k) 12 - 1) (hb.2 hn) 12).1 (by omega)
    show sm_n (fun j => cP X p k j && decide (j ≠ bst X (cP X p k) 12 - 1)) 12 + (k + 1) = sm_n p 12
    omega
theorem cM_ok (h8 : 8 ≤ sm_n p 12) {k : Nat} (hk : k < 8) : bst X (cP X p k) 12 = cM X p k + 1 ∧ cM X p k < 12 ∧ cP X p k (cM X p k) = true ∧ sm_k (cP X p k) 12 ≠ 0 := by
  have ih := cP_n (X := X) h8 k (by omega)
  obtain ⟨j, hj, hp⟩ := sm_n_ex (p := cP X p k) 12 (by omega)
  have hb := bst_p (X := X) (p := cP X p k) 12
  have hn := bst_ne (X := X) hp 12 hj
  refine ⟨?_, ?_, hb.2 hn, sm_k_ne hj hp⟩ <;> unfold cM <;> omega
theorem clX_o {k a j : Nat} (h1 : a ≠ 74) (h2 : a ≠ 75) (h3 : ¬ (a = 73 ∧ j = 2)) : clX X p k a j = X a j := (if_neg (fun q => h1 q.1)).trans ((if_neg (fun q => h2 q.1)).trans (if_neg h3))
theorem clX_s {k : Nat} : clX X p k 73 2 = k := rfl
theorem clX_0 : sm_up X 73 2 0 = clX X p 0 := by
  funext a j
  unfold clX sm_up
  rw [if_neg (by omega : ¬ (a = 74 ∧ j < 0)), if_neg (by omega : ¬ (a = 75 ∧ j < 0))]
theorem clX_t {k : Nat} : sm_up (sm_up (sm_up (clX X p k) 74 k (cM X p k)) 75 k (cM X p k + 1)) 73 2 (k + 1) = clX X p (k + 1) := by
  funext a j
  by_cases e3 : a = 73 ∧ j = 2
  · obtain ⟨rfl, rfl⟩ := e3
    rw [sm_up_s]; rfl
  · rw [sm_up_x (by omega)]
    by_cases e5 : a = 75 ∧ j = k
    · obtain ⟨rfl, rfl⟩ := e5
      rw [sm_up_s]
      unfold clX
      rw [if_neg (by omega), if_pos ⟨rfl, by omega⟩]
    · rw [sm_up_x (by omega)]
      by_cases e4 : a = 74 ∧ j = k
      · obtain ⟨rfl, rfl⟩ := e4
        rw [sm_up_s]
        unfold clX
        rw [if_pos ⟨rfl, by omega⟩]
      · rw [sm_up_x (by omega)]
        unfold clX
        by_cases h1 : a = 74 ∧ j < k
        · rw [if_pos h1, if_pos ⟨h1.1, by omega⟩]
        · have h1' : ¬ (a = 74 ∧ j < k + 1) := by omega
          rw [if_neg h1, if_neg h1']
          by_cases h2 : a = 75 ∧ j < k
          · rw [if_pos h2, if_pos ⟨h2.1, by omega⟩]
          · have h2' : ¬ (a = 75 ∧ j < k + 1) := by omega
            rw [if_neg h2, if_neg h2', if_neg e3, if_neg e3]
end

set_option maxHeartbeats 4000000 in
set_option maxRecDepth 100000 in
theorem c_S_chooseLeastSent (l : Launch) (Ω : sm_Ω) {X : sm_X} {w : Nat → Nat → Nat} (hf : swf X w) {p : Nat → Bool} (h8 : 8 ≤ sm_n p 12) : sm_met l Ω y_S_chooseLeastSent b_S_chooseLeastSent 5 none 2 723 [.ref (Ω.2.1 + 0), .int (nI (sm_k p 12))] X (sm_rf w) (sm_det none (clX X p 8) (sm_rf w)) := by
  refine sm_intro (own := RX6) (L := [some (.ref (Ω.2.1 + 0)), some (.int (nI (sm_k p 12))), none, none, none]) (by decide) rfl (by simp [Value.category]) (Nat.le_of_ble_eq_true rfl) rfl ?_
  intro Γ C I
  refine sg_aln (pc := 0) C d_S_chooseLeastSent_0 rfl ?_
  refine sg_getr (pc := 1) C fw_S_38 (by omega) rfl rfl rfl d_S_chooseLeastSent_1 ?_
  refine sm_callV (pc := 4) (As := []) C I (c_T_clear l Ω) cw_S_255 iw_T_clear (C.1.2.2.2.2 _ (List.mem_cons_of_mem _ se_T_clear)) (by omega) rfl rfl rfl rfl (by decide) ⟨by decide, by decide⟩ rfl (Nat.le_of_ble_eq_true rfl) d_S_chooseLeastSent_4 (sm_det_v ?_)
  refine sg_iln (pc := 7) C d_S_chooseLeastSent_7 rfl ?_
  refine sg_is2 (pc := 8) C d_S_chooseLeastSent_8 ?_
  refine sg_ic (pc := 9) (v := 0) C d_S_chooseLeastSent_9 (by decide) ?_
  refine sg_is3 (pc := 10) C d_S_chooseLeastSent_10 ?_
  have loop : ∀ t k z, k + t = 8 → sm_G Γ Ω 723 0 0 11 [some (.ref (Ω.2.1 + 0)), some (.int (nI (sm_k p 12))), some (.int (nI (sm_k (cP X p k) 12))), some (.int (nI k)), z] [] (clX X p k) (sm_rf w) := by
    intro t
    induction t with
    | zero =>
      intro k z hk
      refine sg_iln (pc := 11) C d_S_chooseLeastSent_11 rfl ?_
      refine sg_bi (pc := 12) (v := 8) C d_S_chooseLeastSent_12 (by decide) ?_
      refine sg_icge (pc := 14) (tgt := 58) C d_S_chooseLeastSent_14 (by decide) (by omega) (by omega) (fun h14 => ?_) (fun h14 => absurd h14 (by omega))
      exact sg_vret (pc := 58) C I rfl d_S_chooseLeastSent_58 ⟨rfl, by rw [show k = 8 by omega], rfl⟩
    | succ t ih =>
      intro k z hk
      obtain ⟨m1, m2, m3, m4⟩ := cM_ok (X := X) h8 (k := k) (by omega)
      have hkl := sm_k_lt (cP X p k) 12
      have hf2 : swf (clX X p k) w := swf_team hf (fun a j h1 h2 h3 => clX_o h1 h2 h3)
      refine sg_iln (pc := 11) C d_S_chooseLeastSent_11 rfl ?_
      refine sg_bi (pc := 12) (v := 8) C d_S_chooseLeastSent_12 (by decide) ?_
      refine sg_icge (pc := 14) (tgt := 58) C d_S_chooseLeastSent_14 (by decide) (by omega) (by omega) (fun h14 => absurd h14 (by omega)) (fun h14 => ?_)
      refine sg_iln (pc := 17) C d_S_chooseLeastSent_17 rfl ?_
      refine sg_ifeq (pc := 18) (tgt := 58) C d_S_chooseLeastSent_18 (by decide) (by omega) (fun h18 => absurd h18 m4) (fun h18 => ?_)
      refine sg_aln (pc := 21) C d_S_chooseLeastSent_21 rfl ?_
      refine sg_iln (pc := 22) C d_S_chooseLeastSent_22 rfl ?_
      refine sm_callV (pc := 23) (As := [.int (nI (sm_k (cP X p k) 12))]) C I (c_S_leastSent l Ω hf2) cw_S_264 iw_S_leastSent (C.1.2.2.2.2 _ (List.mem_cons_of_mem _ se_S_leastSent)) (by omega) rfl rfl rfl rfl (by decide) ⟨by decide, by decide⟩ rfl (Nat.le_of_ble_eq_true rfl) d_S_chooseLeastSent_23 (sm_det_i ?_)
      rw [bst_congr (X := X) (fun n hn => clX_o (by omega) (by omega) (by omega)) 12 (Nat.le_refl 12), m1, sn_m1]
      refine sg_is4 (pc := 26) C d_S_chooseLeastSent_26 ?_
      refine sg_il (pc := 28) C d_S_chooseLeastSent_28 rfl ?_
      refine sg_icm (pc := 30) (v := -1) C d_S_chooseLeastSent_30 (by decide) ?_
      refine sr_iceq (pc := 31) (tgt := 52) C d_S_chooseLeastSent_31 (by decide) (fun h31 => absurd h31 (sn_nm (by omega))) (fun h31 => ?_)
      refine sg_aln (pc := 34) C d_S_chooseLeastSent_34 rfl ?_
      refine sg_getr (pc := 35) C fw_S_38 (by omega) rfl rfl rfl d_S_chooseLeastSent_35 ?_
      refine sg_il (pc := 38) C d_S_chooseLeastSent_38 rfl ?_
      refine sm_callV (pc := 40) (As := [.int (nI (cM X p k))]) C I (c_T_add l Ω (X := clX X p k) (by rw [clX_s]; omega)) cw_S_261 iw_T_add (C.1.2.2.2.2 _ (List.mem_cons_of_mem _ se_T_add)) (by omega) rfl rfl rfl rfl (by decide) ⟨by decide, by decide⟩ rfl (Nat.le_of_ble_eq_true rfl) d_S_chooseLeastSent_40 (sm_det_v ?_)
      rw [clX_s, clX_t]
      refine sg_iln (pc := 43) C d_S_chooseLeastSent_43 rfl ?_
      refine sg_ic (pc := 44) (v := 1) C d_S_chooseLeastSent_44 (by decide) ?_
      refine sg_il (pc := 45) C d_S_chooseLeastSent_45 rfl ?_
      refine sr_ishl (pc := 47) C d_S_chooseLeastSent_47 (sn_shl _ (by omega)) ?_
      refine sg_icm (pc := 48) (v := -1) C d_S_chooseLeastSent_48 (by decide) ?_
      refine sr_ixor (pc := 49) C d_S_chooseLeastSent_49 rfl ?_
      refine sr_iand (pc := 50) C d_S_chooseLeastSent_50 (sn_clr _ _) ?_
      refine sg_is2 (pc := 51) C d_S_chooseLeastSent_51 ?_
      refine sg_inc3 (pc := 52) (n := 1) C d_S_chooseLeastSent_52 (by decide) ?_
      refine sg_goto (pc := 55) (tgt := 11) C d_S_chooseLeastSent_55 (by decide) ?_
      exact ih (k + 1) (some (.int (nI (cM X p k)))) (by omega)
  have h0 := loop 8 0 none (by omega)
  rw [← clX_0] at h0
  exact h0

def ahV (X : sm_X) (w : Nat → Nat → Nat) (o x f k : Nat) : Nat := gf_h (fun i => X (83 + 51 * X 74 k + 4 * o + 2 * w (X 74 k) o) (f + i)) x 0 8
def ahX (X : sm_X) (w : Nat → Nat → Nat) (o x f : Nat) : Nat → sm_X
  | 0 => X
  | k + 1 => sm_up (sm_up (ahX X w o x f k) 76 k (ahV X w o x f k)) (79 + 51 * X 74 k) 4 (ahX X w o x f k (79 + 51 * X 74 k) 4 + 1)
theorem ahX_o {X : sm_X} {w : Nat → Nat → Nat} {o x f a j : Nat} (h1 : a ≠ 76) (h2 : j ≠ 4 ∨ ∀ k, k < 8 → a ≠ 79 + 51 * X 74 k) : ∀ k, k ≤ 8 → ahX X w o x f k a j = X a j
  | 0, _ => rfl
  | k + 1, hk => by
    show sm_up (sm_up (ahX X w o x f k) 76 k _) (79 + 51 * X 74 k) 4 _ a j = X a j
    rw [sm_up_x (h2.elim Or.inr (fun h => Or.inl (h k (by omega)))), sm_up_x (Or.inl h1), ahX_o h1 h2 k (by omega)]

set_option maxHeartbeats 4000000 in
set_option maxRecDepth 100000 in
theorem c_S_askHelpers (l : Launch) (Ω : sm_Ω) {X : sm_X} {w : Nat → Nat → Nat} (hw : ∀ n o, w n o < 2) {o x f : Nat} (ho : o < 12) (hx : x < 256) (hfr : f + 8 ≤ 64) (hG : gal X) (hM : ∀ k, k < 8 → X 74 k < 12) (hB : ∀ k, k < 8 → ∀ j, j < 8 → X (83 + 51 * X 74 k + 4 * o + 2 * w (X 74 k) o) (f + j) < 256) : sm_met l Ω y_S_askHelpers b_S_askHelpers 6 none 3 723 [.ref (Ω.2.1 + 0), .int (nI x), .int (nI o), .int (nI f)] X (sm_rf w) (sm_det none (ahX X w o x f 8) (sm_rf w)) := by
  refine sm_intro (own := RX6) (L := [some (.ref (Ω.2.1 + 0)), some (.int (nI x)), some (.int (nI o)), some (.int (nI f)), none, none]) (by decide) rfl (by simp [Value.category]) (Nat.le_of_ble_eq_true rfl) rfl ?_
  intro Γ C I
  refine sg_ic (pc := 0) (v := 0) C d_S_askHelpers_0 (by decide) ?_
  refine sg_is4 (pc := 1) C d_S_askHelpers_1 ?_
  have loop : ∀ t k z, k + t = 8 → sm_G Γ Ω 723 0 0 3 [some (.ref (Ω.2.1 + 0)), some (.int (nI x)), some (.int (nI o)), some (.int (nI f)), some (.int (nI k)), z] [] (ahX X w o x f k) (sm_rf w) := by
    intro t
    induction t with
    | zero =>
      intro k z hk
      refine sg_il (pc := 3) C d_S_askHelpers_3 rfl ?_
      refine sg_bi (pc := 5) (v := 8) C d_S_askHelpers_5 (by decide) ?_
      refine sg_icge (pc := 7) (tgt := 70) C d_S_askHelpers_7 (by decide) (by omega) (by omega) (fun h7 => ?_) (fun h7 => absurd h7 (by omega))
      exact sg_vret (pc := 70) C I rfl d_S_askHelpers_70 ⟨rfl, by rw [show k = 8 by omega], rfl⟩
    | succ t ih =>
      intro k z hk
      have hm := hM k (by omega)
      have hwk := hw (X 74 k) o
      have e74 : ahX X w o x f k 74 k = X 74 k := ahX_o (by decide) (Or.inr (fun j hj => by have := hM j hj; omega)) k (by omega)
      have ec : ∀ j, ahX X w o x f k (83 + 51 * X 74 k + 4 * o + 2 * w (X 74 k) o) j = X (83 + 51 * X 74 k + 4 * o + 2 * w (X 74 k) o) j := fun j => ahX_o (by omega) (Or.inr (fun i hi => by have := hM i hi; omega)) k (by omega)
      have gg : gal (ahX X w o x f k) := gal_of hG (fun j => ahX_o (by decide) (Or.inr (fun i hi => by omega)) k (by omega)) (fun j => ahX_o (by decide) (Or.inr (fun i hi => by omega)) k (by omega))
      refine sg_il (pc := 3) C d_S_askHelpers_3 rfl ?_
      refine sg_bi (pc := 5) (v := 8) C d_S_askHelpers_5 (by decide) ?_
      refine sg_icge (pc := 7) (tgt := 70) C d_S_askHelpers_7 (by decide) (by omega) (by omega) (fun h7 => absurd h7 (by omega)) (fun h7 => ?_)
      refine sg_aln (pc := 10) C d_S_askHelpers_10 rfl ?_
      refine sg_getr (pc := 11) C fw_S_25 (by omega) rfl rfl rfl d_S_askHelpers_11 ?_
      refine sg_aln (pc := 14) C d_S_askHelpers_14 rfl ?_
      refine sg_getr (pc := 15) C fw_S_38 (by omega) rfl rfl rfl d_S_askHelpers_15 ?_
      refine sg_getr (pc := 18) C fw_S_248 (by omega) rfl rfl rfl d_S_askHelpers_18 ?_
      refine sg_il (pc := 21) C d_S_askHelpers_21 rfl ?_
      refine sg_iald (pc := 23) (n := 8) C (by omega) rfl (by omega) (by decide) d_S_askHelpers_23 ?_
      rw [e74]
      refine sg_aald (pc := 24) (n := 12) (t := 4) C (by omega) rfl (by decide) rfl rfl (by omega) (by decide) (rf_nodes (by omega)) d_S_askHelpers_24 ?_
      refine sg_as5 (pc := 25) C d_S_askHelpers_25 ?_
      refine sg_aln (pc := 27) C d_S_askHelpers_27 rfl ?_
      refine sg_getr (pc := 28) C fw_S_42 (by omega) rfl rfl rfl d_S_askHelpers_28 ?_
      refine sg_il (pc := 31) C d_S_askHelpers_31 rfl ?_
      refine sg_aln (pc := 33) C d_S_askHelpers_33 rfl ?_
      refine sg_getr (pc := 34) C fw_S_12 (by omega) rfl rfl rfl d_S_askHelpers_34 ?_
      refine sg_iln (pc := 37) C d_S_askHelpers_37 rfl ?_
      refine sg_al (pc := 38) C d_S_askHelpers_38 rfl ?_
      refine sg_getr (pc := 40) C fw_S_174 (by omega) (sh_N (by omega)) rfl (rf_N1 (by omega)) d_S_askHelpers_40 ?_
      refine sg_iln (pc := 43) C d_S_askHelpers_43 rfl ?_
      refine sg_aald (pc := 44) (n := 12) (t := 6) C (by omega) (sh_Ns (by omega)) (by decide) rfl rfl (by omega) (by decide) (rf_Ns (by omega) (by omega)) d_S_askHelpers_44 ?_
      refine sg_getr (pc := 45) C fw_S_187 (by omega) (sh_S (by omega) (by omega) (hw _ _)) rfl (rf_S2 (by omega) (by omega) (hw _ _)) d_S_askHelpers_45 ?_
      refine sg_iln (pc := 48) C d_S_askHelpers_48 rfl ?_
      refine sm_callV (pc := 49) (As := [.int (nI x), .ref (Ω.2.1 + (83 + 51 * X 74 k + 4 * o + 2 * w (X 74 k) o)), .int (nI f)]) C I (c_G_valueAt l Ω (X := ahX X w o x f k) (p := x) (i := (83 + 51 * X 74 k + 4 * o + 2 * w (X 74 k) o)) (n := 64) (fr := f) gg hx (by omega) (sh_Sb (by omega) ho hwk) (by decide) hfr (fun j hj => by rw [ec]; exact hB k (by omega) j hj)) cw_S_251 iw_G_valueAt (C.1.2.2.2.2 _ (List.mem_cons_of_mem _ se_G_valueAt)) (by omega) rfl rfl rfl rfl (by decide) ⟨by decide, by decide⟩ rfl (Nat.le_of_ble_eq_true rfl) d_S_askHelpers_49 (sm_det_i ?_)
      rw [show gf_h (fun j => ahX X w o x f k (83 + 51 * X 74 k + 4 * o + 2 * w (X 74 k) o) (f + j)) x 0 8 = ahV X w o x f k from gf_h_congr 8 0 (fun j _ _ => ec (f + j))]
      refine sg_iast (pc := 52) (n := 8) C (by omega) rfl (by omega) (by decide) d_S_askHelpers_52 ?_
      refine sg_al (pc := 53) C d_S_askHelpers_53 rfl ?_
      refine sg_dup (pc := 55) C d_S_askHelpers_55 rfl ?_
      refine sg_geti (pc := 56) C fw_S_165 (by omega) (sh_N (by omega)) rfl d_S_askHelpers_56 ?_
      rw [sm_up_x (Or.inl (by omega))]
      refine sg_ic (pc := 59) (v := 1) C d_S_askHelpers_59 (by decide) ?_
      refine sg_add (pc := 60) C d_S_askHelpers_60 ?_
      refine sg_puti (pc := 61) C pw_S_165 (by omega) (sh_N (by omega)) rfl rfl rfl d_S_askHelpers_61 ?_
      refine sg_inc4 (pc := 64) (n := 1) C d_S_askHelpers_64 (by decide) ?_
      refine sg_goto (pc := 67) (tgt := 3) C d_S_askHelpers_67 (by decide) ?_
      exact ih (k + 1) _ (by omega)
  exact loop 8 0 none (by omega)
end
section
/-! Rebuilding one share -/
theorem ac_l : Cond.methodLink RX6 242 arraycopyName ∈ sm_ws := sm_inT 547 (by decide +kernel) (by decide +kernel)
theorem ac_n : Cond.native arraycopyName ∈ sm_ws := sm_inT 549 (by decide +kernel) (by decide +kernel)
theorem ac_s : Cond.static arraycopyName ∈ sm_ws := sm_inT 548 (by decide +kernel) (by decide +kernel)
theorem ac_i : Cond.initialized "java/lang/System" ∈ sm_ws := sm_inT 18 (by decide +kernel) (by decide +kernel)
theorem ac_w : nativeFrameWords "java/lang/System" "arraycopy" 5 + 11 ≤ 30 := by decide +kernel
section
variable {Γ : sm_Γ} {Ω : sm_Ω} {cc : ByteArray} {nL : Nat} {w0 : Cond} {M cs sl pc : Nat} {L : List (Option Value)} {st : List Value} {X : sm_X} {Y : sm_R} {l : Launch} {d0 mc0 ms0 : Nat} {Pq : Prop}
theorem sg_acopy (C : sm_C Γ Ω cc RX6 nL w0) (I : sm_la Γ = l ∧ sm_rm Γ = sm_room d0 mc0 ms0 ∧ Pq) {i j n0 n1 sp dp n : Nat} (hi : i < M) (hsi : sm_sh i = .inr (n0, 0)) (hj : j < M) (hsj : sm_sh j = .inr (n1, 0)) (h0 : sp + n ≤ n0) (h1 : dp + n ≤ n1) (hn0 : n0 < 2 ^ 31) (hn1 : n1 < 2 ^ 31)
    (hd0 : 2 ≤ d0) (hLn : L.length = nL) (hrest : (st.map fun v => v.category).sum ≤ 8) (hd : decode cc pc = .ok (.invokestatic 242, 3)) (kk : sm_G Γ Ω M cs sl (pc + 3) L st (sm_uf X j (fun k => if dp ≤ k ∧ k < dp + n then X i (sp + (k - dp)) else X j k)) Y) :
    sm_G Γ Ω M cs sl pc L (.int (nI n) :: .int (nI dp) :: .ref (Ω.2.1 + j) :: .int (nI sp) :: .ref (Ω.2.1 + i) :: st) X Y := by
  intro ls H locs hL hP hS
  obtain ⟨-, h2, -⟩ := I
  have hts := C.1.2.2.2.2
  refine va_copyi C.1.1 C.1.2.1 (C.1.2.2.1.trans (hL.1.1.trans hLn).symm) C.1.2.2.2.1 (hts _ (List.mem_cons_of_mem _ ac_l)) (hts _ (List.mem_cons_of_mem _ ac_n)) (hts _ (List.mem_cons_of_mem _ ac_s)) (hts _ (List.mem_cons_of_mem _ ac_i)) C.2.1 hP sm_D hS i j 0 0
    (c0 := Ω.2.2.1 0) (c1 := Ω.2.2.1 0) (n0 := n0) (n1 := n1) (f := fun k => nI (X i k)) (g := fun k => nI (X j k)) (ty := .int) (by rw [sm_at hi, hsi]; rfl) (by rw [sm_at hj, hsj]; rfl) rfl rfl rfl (nI_pos (by omega)) (nI_pos (by omega)) (nI_pos (by omega))
    (by rw [nI_clamp (by omega), nI_clamp (by omega)]; exact h0) (by rw [nI_clamp (by omega), nI_clamp (by omega)]; exact h1) (fun _ _ => rfl) (by rw [h2]; show 1 ≤ d0; omega) (by rw [h2]; show _ ≤ 30 * d0; have := ac_w; omega) hd (fun H1 locs1 hp _ hs => kk ls H1 locs1 hL ?_ hs)
  rw [nI_clamp (by omega), nI_clamp (by omega), nI_clamp (by omega), sm_set (X' := sm_uf X j (fun k => if dp ≤ k ∧ k < dp + n then X i (sp + (k - dp)) else X j k)) (Y' := Y) hj ?_ (fun a ha => ⟨funext fun k => sm_uf_o ha, rfl⟩)] at hp
  · exact hp
  · rw [hsj]
    show _ = (.inl (Ω.2.2.1 0, n1, .inl (fun k => nI (sm_uf X j (fun k => if dp ≤ k ∧ k < dp + n then X i (sp + (k - dp)) else X j k) j k))) : va_E)
    congr 4
    funext k
    rw [sm_uf_s]
    unfold va_cpy
    split <;> rfl
end
/-- the values that helpers send are the values of the node's own share -/
theorem rb_val {v : Nat → Nat} (hv : ∀ i, v i < 256) (s x y : Nat) : gf_h (fun i => mx_b v y (8 * s + i)) x 0 8 = gf_h (fun j => if j < 8 then mx_b v x (8 * s + j) else 0) y 0 8 := by
  have h1 := gf_exch (A := fun i j => mx v (8 * s + i) j) (fun i j => mx_lt hv _ _) x y 0 8 8 0
  have h2 : gf_h (fun i => mx_b v y (8 * s + i)) x 0 8 = gf_h (fun i => gf_h ((fun i j => mx v (8 * s + i) j) i) y 0 8) x 0 8 := rfl
  rw [h2, h1]
  refine gf_h_congr 8 0 (fun j _ hj => ?_)
  rw [if_pos (by omega)]
  unfold mx_b
  exact gf_h_congr 8 0 (fun i _ hi => mx_s (by omega) (by omega))
section
variable {X : sm_X} {w : Nat → Nat → Nat} {o x f : Nat}
theorem ahX_76 : ∀ K k, k < K → ahX X w o x f K 76 k = ahV X w o x f k
  | 0, k, h => absurd h (Nat.not_lt_zero k)
  | K + 1, k, h => by
    show sm_up (sm_up (ahX X w o x f K) 76 K (ahV X w o x f K)) (79 + 51 * X 74 K) 4 _ 76 k = _
    rw [sm_up_x (Or.inl (by omega))]
    by_cases e : k = K
    · subst e; exact sm_up_s
    · rw [sm_up_n e]; exact ahX_76 K k (by omega)
theorem ahX_sent (hd : ∀ a b, a < 8 → b < 8 → X 74 a = X 74 b → a = b) : ∀ K, K ≤ 8 → ∀ k, k < 8 → ahX X w o x f K (79 + 51 * X 74 k) 4 = X (79 + 51 * X 74 k) 4 + (if k < K then 1 else 0)
  | 0, _, k, _ => by rw [if_neg (Nat.not_lt_zero k)]; rfl
  | K + 1, hK, k, hk => by
    show sm_up (sm_up (ahX X w o x f K) 76 K (ahV X w o x f K)) (79 + 51 * X 74 K) 4 (ahX X w o x f K (79 + 51 * X 74 K) 4 + 1) (79 + 51 * X 74 k) 4 = _
    by_cases e : k = K
    · subst e
      rw [sm_up_s, ahX_sent hd k (by omega) k hk, if_neg (by omega), if_pos (by omega)]
    · have hne : X 74 k ≠ X 74 K := fun q => e (hd k K hk (by omega) q)
      rw [sm_up_x (Or.inl (by omega)), sm_up_x (Or.inl (by omega)), ahX_sent hd K (by omega) k hk]
      by_cases h2 : k < K
      · rw [if_pos h2, if_pos (by omega)]
      · rw [if_neg h2, if_neg (by omega)]
end
def rbI (X : sm_X) (v : Nat → Nat) (n B s : Nat) (Z : sm_X) : Prop := (∀ a j, a ≠ 76 → ¬ (a = B ∧ j < 8 * s) → ¬ (j = 4 ∧ ∃ k, k < 8 ∧ a = 79 + 51 * X 74 k) → Z a j = X a j) ∧ (∀ k, k < 8 → Z (79 + 51 * X 74 k) 4 = X (79 + 51 * X 74 k) 4 + s) ∧ ∀ j, j < 8 * s → Z B j = mx_b v (n + 1) j
def rbY (Z : sm_X) (w : Nat → Nat → Nat) (o n s : Nat) : sm_X := sm_uf (ahX Z w o (n + 1) (8 * s) 8) 76 (gf_q2 8 (ahX Z w o (n + 1) (8 * s) 8 75) (8 - 1) (gf_q1 8 (ahX Z w o (n + 1) (8 * s) 8 75) (8 - 1) (ahX Z w o (n + 1) (8 * s) 8 76)))
def rbZ (Z : sm_X) (w : Nat → Nat → Nat) (o n B s : Nat) : sm_X := sm_uf (rbY Z w o n s) B (fun k => if 8 * s ≤ k ∧ k < 8 * s + 8 then rbY Z w o n s 76 (0 + (k - 8 * s)) else rbY Z w o n s B k)
section
variable {X Z : sm_X} {w : Nat → Nat → Nat} {v : Nat → Nat} {o n B s : Nat}
theorem rb_out (hv : ∀ i, v i < 256) (hM : ∀ k, k < 8 → Z 74 k < 12 ∧ Z 75 k = Z 74 k + 1) (hd : ∀ a b, a < 8 → b < 8 → Z 74 a = Z 74 b → a = b) (hB : ∀ k, k < 8 → ∀ i, i < 8 → Z (83 + 51 * Z 74 k + 4 * o + 2 * w (Z 74 k) o) (8 * s + i) = mx_b v (Z 74 k + 1) (8 * s + i)) {k : Nat} (hk : k < 8) : rbY Z w o n s 76 k = mx_b v (n + 1) (8 * s + k) := by
  have e75 : ∀ j, ahX Z w o (n + 1) (8 * s) 8 75 j = Z 75 j := fun j => ahX_o (by decide) (Or.inr (fun i hi => by have := hM i hi; omega)) 8 (Nat.le_refl 8)
  have h := gf_interp (n := 8) (X := ahX Z w o (n + 1) (8 * s) 8 75) (c := fun j => if j < 8 then mx_b v (n + 1) (8 * s + j) else 0) (v := ahX Z w o (n + 1) (8 * s) 8 76) (by decide)
    (fun j => by show (if j < 8 then mx_b v (n + 1) (8 * s + j) else 0) < 256; split; exact gf_h_lt (fun i => mx_lt hv _ i) _ _ _; decide) (fun j hj => if_neg (by omega))
    (fun j hj => by rw [e75]; have := hM j hj; omega) (fun a b ha hb he => by rw [e75, e75] at he; have := hM a ha; have := hM b hb; exact hd a b ha hb (by omega))
    (fun j hj => by
      rw [ahX_76 8 j hj, e75, (hM j hj).2]
      unfold ahV
      rw [← rb_val hv]
      exact gf_h_congr 8 0 (fun i _ hi => hB j hj i (by omega))) k hk
  show sm_uf _ 76 _ 76 k = _
  rw [sm_uf_s]
  exact h.trans (if_pos hk)
theorem rb_step (hI : rbI X v n B s Z) (hv : ∀ i, v i < 256) (hX : ∀ k, k < 8 → X 74 k < 12 ∧ X 75 k = X 74 k + 1) (hd : ∀ a b, a < 8 → b < 8 → X 74 a = X 74 b → a = b) (hB1 : 82 ≤ B) (hB2 : ∀ k, k < 12 → B ≠ 79 + 51 * k)
    (hO : ∀ k, k < 8 → ∀ i, i < 8 → Z (83 + 51 * X 74 k + 4 * o + 2 * w (X 74 k) o) (8 * s + i) = mx_b v (X 74 k + 1) (8 * s + i)) : rbI X v n B (s + 1) (rbZ Z w o n B s) := by
  have e74 : ∀ k, Z 74 k = X 74 k := fun k => hI.1 74 k (by decide) (by omega) (by rintro ⟨-, q, hq, e⟩; omega)
  have e75 : ∀ k, Z 75 k = X 75 k := fun k => hI.1 75 k (by decide) (by omega) (by rintro ⟨-, q, hq, e⟩; omega)
  have out : ∀ k, k < 8 → rbY Z w o n s 76 k = mx_b v (n + 1) (8 * s + k) := fun k hk => rb_out hv (fun j hj => by rw [e74, e75]; exact hX j hj) (fun a b ha hb he => by rw [e74, e74] at he; exact hd a b ha hb he) (fun j hj i hi => by rw [e74]; exact hO j hj i hi) hk
  have yo : ∀ a j, a ≠ 76 → rbY Z w o n s a j = ahX Z w o (n + 1) (8 * s) 8 a j := fun a j h => sm_uf_o h
  refine ⟨fun a j h1 h2 h3 => ?_, fun k hk => ?_, fun j hj => ?_⟩
  · have h3' : j ≠ 4 ∨ ∀ k, k < 8 → a ≠ 79 + 51 * Z 74 k := by
      by_cases e : j = 4
      · exact Or.inr (fun k hk q => h3 ⟨e, k, hk, by rw [q, e74]⟩)
      · exact Or.inl e
    by_cases eB : a = B
    · subst eB
      unfold rbZ
      rw [sm_uf_s, if_neg (by omega), yo _ _ (by omega), ahX_o (by omega) h3' 8 (Nat.le_refl 8)]
      exact hI.1 a j h1 (by omega) h3
    · unfold rbZ
      rw [sm_uf_o eB, yo _ _ h1, ahX_o h1 h3' 8 (Nat.le_refl 8)]
      exact hI.1 a j h1 (by omega) h3
  · have h0 := hX k hk
    unfold rbZ
    rw [sm_uf_o (fun q => hB2 _ h0.1 q.symm), yo _ _ (by omega), ← e74 k, ahX_sent (fun a b ha hb he => by rw [e74, e74] at he; exact hd a b ha hb he) 8 (Nat.le_refl 8) k hk, if_pos hk, e74 k, hI.2.1 k hk]
    omega
  · unfold rbZ
    rw [sm_uf_s]
    by_cases h8 : 8 * s ≤ j
    · rw [if_pos ⟨h8, by omega⟩, Nat.zero_add, out (j - 8 * s) (by omega), show 8 * s + (j - 8 * s) = j by omega]
    · rw [if_neg (by omega), yo _ _ (by omega), ahX_o (by omega) (Or.inr (fun k hk q => by have := hX k hk; exact hB2 (Z 74 k) (by rw [e74]; omega) q)) 8 (Nat.le_refl 8)]
      exact hI.2.2 j (by omega)
end

set_option maxHeartbeats 4000000 in
set_option maxRecDepth 100000 in
theorem c_S_rebuildShare0 (l : Launch) (Ω : sm_Ω) {X : sm_X} {w : Nat → Nat → Nat} (hf : swf X w) {n o m : Nat} (hn : n < 12) (ho : o < 12) (hz : X (691 + o) 1 = 0) : sm_met l Ω y_S_rebuildShare b_S_rebuildShare 8 (some .int) 4 723 [.ref (Ω.2.1 + 0), .ref (Ω.2.1 + (79 + 51 * n)), .int (nI o), .int (nI m)] X (sm_rf w) (sm_det (some (.int (nI 0))) (sm_up (sm_up X (82 + 51 * n + 4 * o + 2 * w n o) 0 (X (691 + o) 0)) (82 + 51 * n + 4 * o + 2 * w n o) 1 (X (691 + o) 1)) (sm_rf w)) := by
  refine sm_intro (own := RX6) (L := [some (.ref (Ω.2.1 + 0)), some (.ref (Ω.2.1 + (79 + 51 * n))), some (.int (nI o)), some (.int (nI m)), none, none, none, none]) (by decide) rfl (by simp [Value.category]) (Nat.le_of_ble_eq_true rfl) rfl ?_
  intro Γ C I
  have hw := hf.1
  have gi := hf.2.2.1 o ho
  have hwn := hw n o
  have hz2 : (X (691 + o) 1 + 29) / 30 = 0 := by omega
  refine sg_aln (pc := 0) C d_S_rebuildShare_0 rfl ?_
  refine sg_getr (pc := 1) C fw_S_31 (by omega) rfl rfl rfl d_S_rebuildShare_1 ?_
  refine sg_iln (pc := 4) C d_S_rebuildShare_4 rfl ?_
  refine sg_aald (pc := 5) (n := 12) (t := 5) C (by omega) rfl (by decide) rfl rfl (by omega) (by decide) (rf_items (by omega)) d_S_rebuildShare_5 ?_
  refine sg_as4 (pc := 6) C d_S_rebuildShare_6 ?_
  refine sg_aln (pc := 8) C d_S_rebuildShare_8 rfl ?_
  refine sg_getr (pc := 9) C fw_S_174 (by omega) (sh_N (by omega)) rfl (rf_N1 (by omega)) d_S_rebuildShare_9 ?_
  refine sg_iln (pc := 12) C d_S_rebuildShare_12 rfl ?_
  refine sg_aald (pc := 13) (n := 12) (t := 6) C (by omega) (sh_Ns (by omega)) (by decide) rfl rfl (by omega) (by decide) (rf_Ns (by omega) (by omega)) d_S_rebuildShare_13 ?_
  refine sg_as5 (pc := 14) C d_S_rebuildShare_14 ?_
  refine sg_al (pc := 16) C d_S_rebuildShare_16 rfl ?_
  refine sg_geti (pc := 18) C fw_S_117 (by omega) (sh_I (by omega)) rfl d_S_rebuildShare_18 ?_
  refine sm_callS (pc := 21) (As := [.int (nI (X (691 + o) 1))]) C I (c_S_stripesOf l Ω (by omega)) cw_S_184 sw_S_stripesOf rfl (by decide) ⟨by decide, by decide⟩ rfl (Nat.le_of_ble_eq_true rfl) d_S_rebuildShare_21 (sm_det_i ?_)
  rw [hz2]
  refine sg_is6 (pc := 24) C d_S_rebuildShare_24 ?_
  refine sg_il (pc := 26) C d_S_rebuildShare_26 rfl ?_
  refine sg_ifle (pc := 28) (tgt := 41) C d_S_rebuildShare_28 (by decide) (by omega) (fun h28 => ?_) (fun h28 => absurd h28 (by decide))
  refine sg_al (pc := 41) C d_S_rebuildShare_41 rfl ?_
  refine sg_al (pc := 43) C d_S_rebuildShare_43 rfl ?_
  refine sg_geti (pc := 45) C fw_S_143 (by omega) (sh_I (by omega)) rfl d_S_rebuildShare_45 ?_
  refine sg_al (pc := 48) C d_S_rebuildShare_48 rfl ?_
  refine sg_geti (pc := 50) C fw_S_117 (by omega) (sh_I (by omega)) rfl d_S_rebuildShare_50 ?_
  refine sm_callV (pc := 53) (As := [.int (nI (X (691 + o) 0)), .int (nI (X (691 + o) 1))]) C I (c_H_become l Ω (by omega) (sh_S hn ho hwn)) cw_S_215 iw_H_become (C.1.2.2.2.2 _ (List.mem_cons_of_mem _ se_H_become)) (by omega) (sh_S (by omega) (by omega) (hw _ _)) rfl rfl rfl (by decide) ⟨by decide, by decide⟩ rfl (Nat.le_of_ble_eq_true rfl) d_S_rebuildShare_53 (sm_det_v ?_)
  refine sg_ic (pc := 56) (v := 0) C d_S_rebuildShare_56 (by decide) ?_
  refine sg_is7 (pc := 57) C d_S_rebuildShare_57 ?_
  refine sg_il (pc := 59) C d_S_rebuildShare_59 rfl ?_
  refine sg_il (pc := 61) C d_S_rebuildShare_61 rfl ?_
  refine sg_icge (pc := 63) (tgt := 126) C d_S_rebuildShare_63 (by decide) (by omega) (by omega) (fun h63 => ?_) (fun h63 => absurd h63 (by decide))
  refine sg_bi (pc := 126) (v := 8) C d_S_rebuildShare_126 (by decide) ?_
  refine sg_il (pc := 128) C d_S_rebuildShare_128 rfl ?_
  refine sg_mul (pc := 130) C d_S_rebuildShare_130 ?_
  exact sg_iret (pc := 131) C I rfl rfl d_S_rebuildShare_131 ⟨rfl, rfl, rfl⟩

def rbX (X : sm_X) (w : Nat → Nat → Nat) (n o m : Nat) : sm_X := (sm_up (sm_up (clX X (saf X w o m) 8) (82 + 51 * n + 4 * o + 2 * w n o) 0 (X (691 + o) 0)) (82 + 51 * n + 4 * o + 2 * w n o) 1 (X (691 + o) 1))
theorem rbX_o {X : sm_X} {w : Nat → Nat → Nat} {n o m a j : Nat} (h1 : a ≠ 74) (h2 : a ≠ 75) (h3 : ¬ (a = 73 ∧ j = 2)) (h4 : ¬ (a = (82 + 51 * n + 4 * o + 2 * w n o) ∧ j < 2)) : rbX X w n o m a j = X a j := by
  unfold rbX
  rw [sm_up_x (by omega), sm_up_x (by omega), clX_o h1 h2 h3]
theorem rbX_74 {X : sm_X} {w : Nat → Nat → Nat} {n o m k : Nat} (hk : k < 8) : rbX X w n o m 74 k = cM X (saf X w o m) k ∧ rbX X w n o m 75 k = cM X (saf X w o m) k + 1 := by
  unfold rbX
  rw [sm_up_x (Or.inl (by omega)), sm_up_x (Or.inl (by omega)), sm_up_x (Or.inl (by omega)), sm_up_x (Or.inl (by omega))]
  unfold clX
  rw [if_pos ⟨rfl, hk⟩, if_neg (by omega), if_pos ⟨rfl, hk⟩]
  exact ⟨rfl, rfl⟩
theorem cP_sub {X : sm_X} {p : Nat → Bool} {j : Nat} : ∀ a b, a ≤ b → cP X p b j = true → cP X p a j = true
  | a, 0, h, hp => by rw [Nat.le_zero.mp h]; exact hp
  | a, b + 1, h, hp => by
    by_cases e : a = b + 1
    · rw [e]; exact hp
    · have hp2 : (cP X p b j && decide (j ≠ bst X (cP X p b) 12 - 1)) = true := hp
      exact cP_sub a b (by omega) (by simp at hp2; exact hp2.1)
theorem cM_inj {X : sm_X} {p : Nat → Bool} (h8 : 8 ≤ sm_n p 12) : ∀ a b, a < 8 → b < 8 → cM X p a = cM X p b → a = b := by
  have key : ∀ a b, a < b → b < 8 → cM X p a ≠ cM X p b := by
    intro a b hab hb e
    have h1 := (cM_ok (X := X) h8 hb).2.2.1
    have h2 := cP_sub (X := X) (p := p) (a + 1) b hab h1
    rw [← e] at h2
    have h3 : (cP X p a (cM X p a) && decide (cM X p a ≠ bst X (cP X p a) 12 - 1)) = true := h2
    simp [cM] at h3
  intro a b ha hb e
  by_cases h1 : a < b
  · exact absurd e (key a b h1 hb)
  · by_cases h2 : b < a
    · exact absurd e.symm (key b a h2 ha)
    · omega
theorem cM_in {X : sm_X} {p : Nat → Bool} (h8 : 8 ≤ sm_n p 12) {k : Nat} (hk : k < 8) : p (cM X p k) = true := cP_sub (X := X) (p := p) 0 k (Nat.zero_le k) (cM_ok (X := X) h8 hk).2.2.1

set_option maxHeartbeats 4000000 in
set_option maxRecDepth 100000 in
theorem c_S_rebuildShare1 (l : Launch) (Ω : sm_Ω) {X : sm_X} {w : Nat → Nat → Nat} (hf : swf X w) {n o m : Nat} (hn : n < 12) (ho : o < 12) (hm : m < 4096) (hz : 0 < X (691 + o) 1) (hG : gal X) (h8 : 8 ≤ sm_n (saf X w o m) 12) (hPn : (saf X w o m) n = false) {v : Nat → Nat} (hv : ∀ i, v i < 256)
    (hB : ∀ k, k < 12 → (saf X w o m) k = true → ∀ i, i < 8 * ((X (691 + o) 1 + 29) / 30) → X (83 + 51 * k + 4 * o + 2 * w k o) i = mx_b v (k + 1) i) : sm_met l Ω y_S_rebuildShare b_S_rebuildShare 8 (some .int) 4 723 [.ref (Ω.2.1 + 0), .ref (Ω.2.1 + (79 + 51 * n)), .int (nI o), .int (nI m)] X (sm_rf w) (fun r Z Y2 => r = some (.int (nI (8 * ((X (691 + o) 1 + 29) / 30)))) ∧ rbI (rbX X w n o m) v n (83 + 51 * n + 4 * o + 2 * w n o) ((X (691 + o) 1 + 29) / 30) Z ∧ Y2 = sm_rf w) := by
  refine sm_intro (own := RX6) (L := [some (.ref (Ω.2.1 + 0)), some (.ref (Ω.2.1 + (79 + 51 * n))), some (.int (nI o)), some (.int (nI m)), none, none, none, none]) (by decide) rfl (by simp [Value.category]) (Nat.le_of_ble_eq_true rfl) rfl ?_
  intro Γ C I
  have hw := hf.1
  have gi := hf.2.2.1 o ho
  have hwn := hw n o
  have hX : ∀ k, k < 8 → (rbX X w n o m) 74 k < 12 ∧ (rbX X w n o m) 75 k = (rbX X w n o m) 74 k + 1 := fun k hk => by rw [(rbX_74 hk).1, (rbX_74 hk).2]; exact ⟨(cM_ok (X := X) h8 hk).2.1, rfl⟩
  have hXd : ∀ a b, a < 8 → b < 8 → (rbX X w n o m) 74 a = (rbX X w n o m) 74 b → a = b := fun a b ha hb he => by rw [(rbX_74 ha).1, (rbX_74 hb).1] at he; exact cM_inj h8 a b ha hb he
  have hkl := sm_k_lt (saf X w o m) 12
  refine sg_aln (pc := 0) C d_S_rebuildShare_0 rfl ?_
  refine sg_getr (pc := 1) C fw_S_31 (by omega) rfl rfl rfl d_S_rebuildShare_1 ?_
  refine sg_iln (pc := 4) C d_S_rebuildShare_4 rfl ?_
  refine sg_aald (pc := 5) (n := 12) (t := 5) C (by omega) rfl (by decide) rfl rfl (by omega) (by decide) (rf_items (by omega)) d_S_rebuildShare_5 ?_
  refine sg_as4 (pc := 6) C d_S_rebuildShare_6 ?_
  refine sg_aln (pc := 8) C d_S_rebuildShare_8 rfl ?_
  refine sg_getr (pc := 9) C fw_S_174 (by omega) (sh_N (by omega)) rfl (rf_N1 (by omega)) d_S_rebuildShare_9 ?_
  refine sg_iln (pc := 12) C d_S_rebuildShare_12 rfl ?_
  refine sg_aald (pc := 13) (n := 12) (t := 6) C (by omega) (sh_Ns (by omega)) (by decide) rfl rfl (by omega) (by decide) (rf_Ns (by omega) (by omega)) d_S_rebuildShare_13 ?_
  refine sg_as5 (pc := 14) C d_S_rebuildShare_14 ?_
  refine sg_al (pc := 16) C d_S_rebuildShare_16 rfl ?_
  refine sg_geti (pc := 18) C fw_S_117 (by omega) (sh_I (by omega)) rfl d_S_rebuildShare_18 ?_
  refine sm_callS (pc := 21) (As := [.int (nI (X (691 + o) 1))]) C I (c_S_stripesOf l Ω (by omega)) cw_S_184 sw_S_stripesOf rfl (by decide) ⟨by decide, by decide⟩ rfl (Nat.le_of_ble_eq_true rfl) d_S_rebuildShare_21 (sm_det_i ?_)
  refine sg_is6 (pc := 24) C d_S_rebuildShare_24 ?_
  refine sg_il (pc := 26) C d_S_rebuildShare_26 rfl ?_
  refine sg_ifle (pc := 28) (tgt := 41) C d_S_rebuildShare_28 (by decide) (by omega) (fun h28 => absurd h28 (by omega)) (fun h28 => ?_)
  refine sg_aln (pc := 31) C d_S_rebuildShare_31 rfl ?_
  refine sg_aln (pc := 32) C d_S_rebuildShare_32 rfl ?_
  refine sg_iln (pc := 33) C d_S_rebuildShare_33 rfl ?_
  refine sg_iln (pc := 34) C d_S_rebuildShare_34 rfl ?_
  refine sm_callV (pc := 35) (As := [.int (nI o), .int (nI m)]) C I (c_S_liveAndFresh l Ω hf ho hm) cw_S_123 iw_S_liveAndFresh (C.1.2.2.2.2 _ (List.mem_cons_of_mem _ se_S_liveAndFresh)) (by omega) rfl rfl rfl rfl (by decide) ⟨by decide, by decide⟩ rfl (Nat.le_of_ble_eq_true rfl) d_S_rebuildShare_35 (sm_det_i ?_)
  refine sm_callV (pc := 38) (As := [.int (nI (sm_k (saf X w o m) 12))]) C I (c_S_chooseLeastSent l Ω hf h8) cw_S_228 iw_S_chooseLeastSent (C.1.2.2.2.2 _ (List.mem_cons_of_mem _ se_S_chooseLeastSent)) (by omega) rfl rfl rfl rfl (by decide) ⟨by decide, by decide⟩ rfl (Nat.le_of_ble_eq_true rfl) d_S_rebuildShare_38 (sm_det_v ?_)
  refine sg_al (pc := 41) C d_S_rebuildShare_41 rfl ?_
  refine sg_al (pc := 43) C d_S_rebuildShare_43 rfl ?_
  refine sg_geti (pc := 45) C fw_S_143 (by omega) (sh_I (by omega)) rfl d_S_rebuildShare_45 ?_
  rw [clX_o (by omega) (by omega) (by omega)]
  refine sg_al (pc := 48) C d_S_rebuildShare_48 rfl ?_
  refine sg_geti (pc := 50) C fw_S_117 (by omega) (sh_I (by omega)) rfl d_S_rebuildShare_50 ?_
  rw [clX_o (by omega) (by omega) (by omega)]
  refine sm_callV (pc := 53) (As := [.int (nI (X (691 + o) 0)), .int (nI (X (691 + o) 1))]) C I (c_H_become l Ω (by omega) (sh_S hn ho hwn)) cw_S_215 iw_H_become (C.1.2.2.2.2 _ (List.mem_cons_of_mem _ se_H_become)) (by omega) (sh_S (by omega) (by omega) (hw _ _)) rfl rfl rfl (by decide) ⟨by decide, by decide⟩ rfl (Nat.le_of_ble_eq_true rfl) d_S_rebuildShare_53 (sm_det_v ?_)
  change sm_G Γ Ω 723 0 0 (53 + 3) _ _ (rbX X w n o m) (sm_rf w)
  refine sg_ic (pc := 56) (v := 0) C d_S_rebuildShare_56 (by decide) ?_
  refine sg_is7 (pc := 57) C d_S_rebuildShare_57 ?_
  have loop : ∀ t s (Z : sm_X), s + t = ((X (691 + o) 1 + 29) / 30) → rbI (rbX X w n o m) v n (83 + 51 * n + 4 * o + 2 * w n o) s Z → sm_G Γ Ω 723 0 0 59 [some (.ref (Ω.2.1 + 0)), some (.ref (Ω.2.1 + (79 + 51 * n))), some (.int (nI o)), some (.int (nI m)), some (.ref (Ω.2.1 + (691 + o))), some (.ref (Ω.2.1 + (82 + 51 * n + 4 * o + 2 * w n o))), some (.int (nI ((X (691 + o) 1 + 29) / 30))), some (.int (nI s))] [] Z (sm_rf w) := by
    intro t
    induction t with
    | zero =>
      intro s Z hs hI
      refine sg_il (pc := 59) C d_S_rebuildShare_59 rfl ?_
      refine sg_il (pc := 61) C d_S_rebuildShare_61 rfl ?_
      refine sg_icge (pc := 63) (tgt := 126) C d_S_rebuildShare_63 (by decide) (by omega) (by omega) (fun h63 => ?_) (fun h63 => absurd h63 (by omega))
      refine sg_bi (pc := 126) (v := 8) C d_S_rebuildShare_126 (by decide) ?_
      refine sg_il (pc := 128) C d_S_rebuildShare_128 rfl ?_
      refine sg_mul (pc := 130) C d_S_rebuildShare_130 ?_
      exact sg_iret (pc := 131) C I rfl rfl d_S_rebuildShare_131 ⟨rfl, by rw [show s = ((X (691 + o) 1 + 29) / 30) by omega] at hI; exact hI, rfl⟩
    | succ t ih =>
      intro s Z hs hI
      have z74 : ∀ k, k < 8 → Z 74 k = cM X (saf X w o m) k := fun k hk => (hI.1 74 k (by decide) (by omega) (by rintro ⟨-, q, hq, e⟩; omega)).trans (rbX_74 hk).1
      have z75 : ∀ k, k < 8 → Z 75 k = cM X (saf X w o m) k + 1 := fun k hk => (hI.1 75 k (by decide) (by omega) (by rintro ⟨-, q, hq, e⟩; omega)).trans (rbX_74 hk).2
      have zo : ∀ a j, a ≠ 74 → a ≠ 75 → a ≠ 76 → ¬ (a = 73 ∧ j = 2) → ¬ (a = (82 + 51 * n + 4 * o + 2 * w n o) ∧ j < 2) → a ≠ (83 + 51 * n + 4 * o + 2 * w n o) → j ≠ 4 ∨ (a < 79 ∨ 691 ≤ a) → Z a j = X a j := fun a j h1 h2 h3 h4 h5 h6 h7 => (hI.1 a j h3 (fun q => h6 q.1) (by rintro ⟨q1, q, hq, e⟩; have := hX q hq; omega)).trans (rbX_o h1 h2 h4 h5)
      have gz : gal Z := gal_of hG (fun j => zo 2 j (by decide) (by decide) (by decide) (by omega) (by omega) (by omega) (by omega)) (fun j => zo 3 j (by decide) (by decide) (by decide) (by omega) (by omega) (by omega) (by omega))
      have zB : ∀ k, k < 8 → ∀ i, i < 8 → Z (83 + 51 * cM X (saf X w o m) k + 4 * o + 2 * w (cM X (saf X w o m) k) o) (8 * s + i) = mx_b v (cM X (saf X w o m) k + 1) (8 * s + i) := fun k hk i hi => by
        have hc := cM_ok (X := X) h8 hk
        have hne : cM X (saf X w o m) k ≠ n := fun q => by have := cM_in (X := X) h8 hk; rw [q, hPn] at this; cases this
        have hwc := hw (cM X (saf X w o m) k) o
        have h9 : Z (83 + 51 * cM X (saf X w o m) k + 4 * o + 2 * w (cM X (saf X w o m) k) o) (8 * s + i) = X (83 + 51 * cM X (saf X w o m) k + 4 * o + 2 * w (cM X (saf X w o m) k) o) (8 * s + i) := (hI.1 _ _ (by omega) (by omega) (by rintro ⟨q1, q, hq, e⟩; have := hX q hq; omega)).trans (rbX_o (by omega) (by omega) (by omega) (by omega))
        rw [h9]
        exact hB _ hc.2.1 (cM_in (X := X) h8 hk) _ (by omega)
      refine sg_il (pc := 59) C d_S_rebuildShare_59 rfl ?_
      refine sg_il (pc := 61) C d_S_rebuildShare_61 rfl ?_
      refine sg_icge (pc := 63) (tgt := 126) C d_S_rebuildShare_63 (by decide) (by omega) (by omega) (fun h63 => absurd h63 (by omega)) (fun h63 => ?_)
      refine sg_aln (pc := 66) C d_S_rebuildShare_66 rfl ?_
      refine sg_aln (pc := 67) C d_S_rebuildShare_67 rfl ?_
      refine sg_geti (pc := 68) C fw_S_218 (by omega) (sh_N (by omega)) rfl d_S_rebuildShare_68 ?_
      rw [zo (79 + 51 * n) 0 (by omega) (by omega) (by omega) (by omega) (by omega) (by omega) (by omega), (hf.2.1 n hn).1]
      refine sg_iln (pc := 71) C d_S_rebuildShare_71 rfl ?_
      refine sg_bi (pc := 72) (v := 8) C d_S_rebuildShare_72 (by decide) ?_
      refine sg_il (pc := 74) C d_S_rebuildShare_74 rfl ?_
      refine sg_mul (pc := 76) C d_S_rebuildShare_76 ?_
      refine sm_callV (pc := 77) (As := [.int (nI (n + 1)), .int (nI o), .int (nI (8 * s))]) C I (c_S_askHelpers l Ω (X := Z) hw (o := o) (x := n + 1) (f := 8 * s) ho (by omega) (by omega) gz (fun k hk => by rw [z74 k hk]; exact (cM_ok (X := X) h8 hk).2.1) (fun k hk j hj => by rw [z74 k hk, zB k hk j hj]; exact gf_h_lt (fun i => mx_lt hv _ i) _ _ _)) cw_S_231 iw_S_askHelpers (C.1.2.2.2.2 _ (List.mem_cons_of_mem _ se_S_askHelpers)) (by omega) rfl rfl rfl rfl (by decide) ⟨by decide, by decide⟩ rfl (Nat.le_of_ble_eq_true rfl) d_S_rebuildShare_77 (sm_det_v ?_)
      refine sg_aln (pc := 80) C d_S_rebuildShare_80 rfl ?_
      refine sg_getr (pc := 81) C fw_S_12 (by omega) rfl rfl rfl d_S_rebuildShare_81 ?_
      refine sg_aln (pc := 84) C d_S_rebuildShare_84 rfl ?_
      refine sg_getr (pc := 85) C fw_S_38 (by omega) rfl rfl rfl d_S_rebuildShare_85 ?_
      refine sg_getr (pc := 88) C fw_S_235 (by omega) rfl rfl rfl d_S_rebuildShare_88 ?_
      refine sg_aln (pc := 91) C d_S_rebuildShare_91 rfl ?_
      refine sg_getr (pc := 92) C fw_S_42 (by omega) rfl rfl rfl d_S_rebuildShare_92 ?_
      refine sg_bi (pc := 95) (v := 8) C d_S_rebuildShare_95 (by decide) ?_
      refine sm_callV (pc := 97) (As := [.ref (Ω.2.1 + 75), .ref (Ω.2.1 + 76), .int (nI 8)]) C I (c_G_interpolate l Ω (X := (ahX Z w o (n + 1) (8 * s) 8)) (i := 75) (j := 76) (m := 8) (ni := 8) (nj := 8) (gal_of gz (fun j => ahX_o (by decide) (Or.inr (fun i hi => by omega)) 8 (Nat.le_refl 8)) (fun j => ahX_o (by decide) (Or.inr (fun i hi => by omega)) 8 (Nat.le_refl 8))) (by decide) rfl (by decide) (by decide) rfl (by decide) (by decide) (by decide) (by decide) (by decide) (by decide) (by decide) (fun k hk => by rw [ahX_o (by decide) (Or.inr (fun i hi => by omega)) 8 (Nat.le_refl 8), z75 k hk]; have := (cM_ok (X := X) h8 hk).2.1; omega) (fun k hk => by rw [ahX_76 8 k hk]; unfold ahV; exact gf_h_lt2 (fun j _ hj => by rw [z74 k hk, zB k hk j (by omega)]; exact gf_h_lt (fun i => mx_lt hv _ i) _ _ _))) cw_S_238 iw_G_interpolate (C.1.2.2.2.2 _ (List.mem_cons_of_mem _ se_G_interpolate)) (by omega) rfl rfl rfl rfl (by decide) ⟨by decide, by decide⟩ rfl (Nat.le_of_ble_eq_true rfl) d_S_rebuildShare_97 (sm_det_v ?_)
      change sm_G Γ Ω 723 0 0 (97 + 3) _ _ (rbY Z w o n s) (sm_rf w)
      refine sg_aln (pc := 100) C d_S_rebuildShare_100 rfl ?_
      refine sg_getr (pc := 101) C fw_S_42 (by omega) rfl rfl rfl d_S_rebuildShare_101 ?_
      refine sg_ic (pc := 104) (v := 0) C d_S_rebuildShare_104 (by decide) ?_
      refine sg_al (pc := 105) C d_S_rebuildShare_105 rfl ?_
      refine sg_getr (pc := 107) C fw_S_187 (by omega) (sh_S (by omega) (by omega) (hw _ _)) rfl (rf_S2 (by omega) (by omega) (hw _ _)) d_S_rebuildShare_107 ?_
      refine sg_bi (pc := 110) (v := 8) C d_S_rebuildShare_110 (by decide) ?_
      refine sg_il (pc := 112) C d_S_rebuildShare_112 rfl ?_
      refine sg_mul (pc := 114) C d_S_rebuildShare_114 ?_
      refine sg_bi (pc := 115) (v := 8) C d_S_rebuildShare_115 (by decide) ?_
      refine sg_acopy (pc := 117) (i := 76) (j := (83 + 51 * n + 4 * o + 2 * w n o)) (n0 := 8) (n1 := 64) (sp := 0) (dp := 8 * s) (n := 8) C I (by omega) rfl (by omega) (sh_Sb hn ho hwn) (by decide) (by omega) (by decide) (by decide) (by decide) rfl (Nat.le_of_ble_eq_true rfl) d_S_rebuildShare_117 ?_
      change sm_G Γ Ω 723 0 0 (117 + 3) _ _ (rbZ Z w o n (83 + 51 * n + 4 * o + 2 * w n o) s) (sm_rf w)
      refine sg_inc7 (pc := 120) (n := 1) C d_S_rebuildShare_120 (by decide) ?_
      refine sg_goto (pc := 123) (tgt := 59) C d_S_rebuildShare_123 (by decide) ?_
      exact ih (s + 1) _ (by omega) (rb_step hI hv hX hXd (by omega) (fun k hk => by omega) (fun k hk i hi => by rw [(rbX_74 hk).1]; exact zB k hk i hi))
  exact loop ((X (691 + o) 1 + 29) / 30) 0 _ (by omega) ⟨fun _ _ _ _ _ => rfl, fun _ _ => rfl, fun j hj => absurd hj (by omega)⟩
end
section
/-! Methods that throw: nothing of the store is written; one cell of six slots comes -/
def sm_XC (Ω : sm_Ω) (E : String) (X : sm_X) (Y : sm_R) : String → State → State → Prop := fun E' st t => E' = E ∧ va_P Ω.1 sm_cl (sm_W Ω.2.1 Ω.2.2.1 sm_sh 723 X Y) t.heap ∧ va_F (fun q => Ω.2.1 ≤ q) st t
def sm_thr (l : Launch) (Ω : sm_Ω) (y : MethodName) (cc : ByteArray) (n : Nat) (ret : Option FieldType) (d : Nat) (av : List Value) (X : sm_X) (Y : sm_R) (E : String) : Prop :=
  vx_Met l y (.code y cc n ret :: sm_ws) (sm_room d 1 6) (va_Pc av (sm_B Ω 723 X Y)) (fun _ _ _ _ => False) (sm_XC Ω E X Y) 1 6 (fun q => Ω.2.1 ≤ q)
def sm_J (Γ : sm_Γ) (Ω : sm_Ω) (l : Launch) (d : Nat) (E : String) (X : sm_X) (Y : sm_R) : Prop :=
  sm_la Γ = l ∧ sm_rm Γ = sm_room d 1 6 ∧ (∀ x ∈ (sm_c Γ).exceptionTable.toList, False) ∧ sm_q Γ = vx_MQ (sm_bl Γ) (fun _ _ _ _ => False) (sm_XC Ω E X Y) (sm_ar Γ) (sm_s Γ) 1 6 (fun q => Ω.2.1 ≤ q)
theorem sm_introX {l : Launch} {Ω : sm_Ω} {y : MethodName} {cc : ByteArray} {n : Nat} {ret : Option FieldType} {d : Nat} {av : List Value} {X : sm_X} {Y : sm_R} {E : String} {own : String} {L : List (Option Value)}
    (hy : plainName y.cls = true) (hown : y.cls = own) (hav : ∀ v ∈ av, v.category = 1) (hn : av.length ≤ n) (hL : av.map some ++ List.replicate (n - av.length) none = L)
    (h : ∀ Γ : sm_Γ, sm_C Γ Ω cc own n (.code y cc n ret) → sm_J Γ Ω l d E X Y → sm_G Γ Ω 723 0 0 0 L [] X Y) : sm_thr l Ω y cc n ret d av X Y E := by
  subst hL
  refine vx_ofW (cc := cc) (maxL := n) (ret := ret) hy rfl ?_
  intro p e s m args below meth c s₁ B hml hex hv
  obtain ⟨rfl, hP, hK, hb, hS⟩ := hv
  have hown' : s.vm.findClass own = some m.cls := by rw [← hown]; exact findClass_of_methodNamed B.named
  rw [lg_entry_eq]
  exact h (p, l, e, _, s, m, _, below, meth, c, _) ⟨⟨B.exec, B.bytes, hml, hown', atoms_spec B.pre⟩, hK, hb, hS, B.notSynchronized⟩ ⟨rfl, rfl, hex, rfl⟩ _ _ [] (sm_L_in av hav hn) hP va_S.rf
abbrev sm_nms : List String := ["java/lang/RuntimeException", "java/lang/Exception"]
def sm_dec (E : String) : List Cond := [.castable E E, .declares (Bundle.init0 "java/lang/RuntimeException"), .declares (Bundle.init0 "java/lang/Exception"), .declares (Bundle.init0 Bundle.tN)]
def sm_tw (own : String) (ik ic : Nat) (E : String) : Prop := Bundle.fit E = true ∧ E ∈ sm_exs ∧ Cond.classLink own ik E ∈ sm_ws ∧ Cond.initialized E ∈ sm_ws ∧ (∀ w ∈ (vx_at0 own ic E sm_nms).filter goodWord, w ∈ sm_ws) ∧ (∀ w ∈ (vx_at0 own ic E sm_nms).filter (fun w => !goodWord w), w ∈ sm_dec E) ∧ ∀ w ∈ Cond.classLink own ik E :: Cond.initialized E :: vx_at0 own ic E sm_nms, vx_ot w = true
section
variable {Γ : sm_Γ} {Ω : sm_Ω} {cc : ByteArray} {own : String} {nL : Nat} {w0 : Cond} {pc : Nat} {L : List (Option Value)} {st : List Value} {X : sm_X} {Y : sm_R} {l : Launch} {d d0 : Nat} {E : String}
theorem sg_throw (C : sm_C Γ Ω cc own nL w0) (J : sm_J Γ Ω l d E X Y) (hl : l.stackTraces = false) {ik ic : Nat} (hE : sm_tw own ik ic E) (h0 : decode cc pc = .ok (.new ik, 3)) (h3 : decode cc (pc + 3) = .ok (.dup, 1)) (h4 : decode cc (pc + 4) = .ok (.invokespecial ic, 3)) (h7 : decode cc (pc + 7) = .ok (.athrow, 1))
    (hd : 6 ≤ d) (hLn : L.length = nL) (hrest : (st.map fun v => v.category).sum ≤ 8) : sm_G Γ Ω 723 0 0 pc L st X Y := by
  intro ls H locs hL hP hS
  obtain ⟨j1, j2, j3, j4⟩ := J
  obtain ⟨e1, e0, e2, e3, e4, e5, e6⟩ := hE
  have hts := C.1.2.2.2.2
  have hD := C.2.2.2.1.2.2.2.2
  unfold sm_w
  rw [j4]
  refine vx_throw0 (names := sm_nms) (A := fun q => Ω.2.1 ≤ q) C.1.1 C.1.2.1 (by rw [j1]; exact hl) C.1.2.2.2.1 e1 (by decide) (hts _ (List.mem_cons_of_mem _ e2)) (hts _ (List.mem_cons_of_mem _ e3))
    (vx_hat (fun w hw => hts w (List.mem_cons_of_mem _ (e4 w hw))) e5 (vx_c (va_Nw.use rfl (hD.2.2.2.2.2.2 E e0)) (vx_c (va_Nw.use rfl hD.2.2.2.1) (vx_c (va_Nw.use rfl hD.2.2.2.2.1) (vx_c (va_Nw.use rfl hD.2.2.2.2.2.1) vx_n))))) e6 hD.2.1 hD.2.2.1 hS (hL.1.1.trans (hLn.trans C.1.2.2.1.symm)) h0 h3 h4 h7
    (fun x hx => (j3 x hx).elim) (by rw [j2]; show 2 + 3 < d; omega) (by rw [j2]; show _ + (13 * (2 + 1) + 42) ≤ 30 * d; omega) (by rw [j2]; exact Nat.le_refl 1) (by rw [j2]; exact Nat.le_refl 6) C.2.2.2.2
    (fun t hvm hz hq => ⟨rfl, hP.kept (fun k q hk => hq q.1 ((hP k q hk).lt)), Nat.le_trans hS.1 hz, fun q h1 h2 => (hq q (Nat.lt_of_lt_of_le h1 hS.1)).trans (hS.2.1 q h1 h2)⟩) hS.2.2 (Nat.le_refl 1) (Nat.le_refl 6)
variable {y : MethodName} {bytes : ByteArray} {n index na i ci : Nat} {ret : Option FieldType} {As rest : List Value} {fl : List Bool} {cr : vw_C}
theorem sm_runX {ls : Array Slot} {H : Heap} {locs : List Loc} {st0 : List Value} {Qa : State → Outcome → State → Prop} (C : sm_C Γ Ω cc own nL w0) (J : sm_J Γ Ω l d0 E X Y) (hQ : ∀ st o t, ¬ Qa st o t)
    (hr : vx_Run (sm_p Γ) (sm_la Γ) (sm_e Γ) (sm_rm Γ) (sm_s Γ) (sm_m Γ) (sm_ar Γ) (sm_bl Γ) (sm_me Γ) (sm_c Γ) H locs 0 0 1 6 (F0 (sm_m Γ) pc ls st0) rest Qa (sm_XC Ω E X Y) (fun q => Ω.2.1 ≤ q))
    (hS : va_S (fun q => Ω.2.1 ≤ q) (sm_s Γ).heap H locs) : sm_w Γ H locs 0 0 (F0 (sm_m Γ) pc ls st0) := by
  obtain ⟨j1, j2, j3, j4⟩ := J
  intro T hT Z
  rcases hr T hT Z with ⟨v, st₀, t, T', L', h0, Z', hL', e1, e2, hF, stp⟩ | ⟨q, st₀, t, T', L', E', ce, h0, Z', hL', e1, e2, ⟨hE, hPt, hz, hk⟩, hce, hcv, hcl, stp⟩
  · exact (hQ _ _ _ hF).elim
  · subst hE
    rw [h0] at hz hk
    have hS' : va_S (fun q => Ω.2.1 ≤ q) (sm_s Γ).heap T'.heap (locs ++ L') := ⟨Nat.le_trans hS.1 (by rw [e1]; exact hz), fun q h1 h2 => by rw [e1, hk q (Nat.lt_of_lt_of_le h1 hS.1) h2]; exact hS.2.1 q h1 h2, fun q hq => by
        rcases List.mem_append.mp hq with h | h
        · exact hS.2.2 q h
        · exact hL' q h⟩
    have ho : vx_W (sm_p Γ) (sm_la Γ) (sm_e Γ) (sm_rm Γ) (sm_s Γ) (sm_m Γ) (sm_ar Γ) (sm_bl Γ) (sm_me Γ) (sm_c Γ) T'.heap (locs ++ L') (0 + 1) (0 + 6) (vx_MQ (sm_bl Γ) (fun _ _ _ _ => False) (sm_XC Ω E' X Y) (sm_ar Γ) (sm_s Γ) 1 6 (fun q => Ω.2.1 ≤ q)) (F0 (sm_m Γ) pc ls rest) q :=
      vx_out (E := E') (fun x hx => (j3 x hx).elim) C.2.2.2.2 (by rw [e1]; exact hce) hcv hcl (fun t2 ht2 _ => ⟨rfl, by rw [ht2, e1]; exact hPt, hS'.F ht2⟩) hS'.2.2 (Nat.le_refl 1) (Nat.le_refl 6)
    obtain ⟨t2, a1, b1⟩ := ho T' rfl Z'
    exact ⟨t2, stp.trans a1, by rw [j4]; exact b1⟩
theorem sm_callSX (C : sm_C Γ Ω cc own nL w0) (J : sm_J Γ Ω l d0 E X Y) (hm : sm_thr l Ω y bytes n ret d As X Y E) (hw : sm_cw own index y bytes n ret na) (hst : Cond.static y ∈ sm_ws)
    (hn : As.length = na) (hd0 : d + 1 ≤ d0) (hLn : L.length = nL) (hrest : (rest.map fun v => v.category).sum ≤ 8) (hd : decode cc pc = .ok (.invokestatic index, 3)) : sm_G Γ Ω 723 0 0 pc L (As.reverse ++ rest) X Y := by
  intro ls H locs hL hP hS
  have J0 := J
  obtain ⟨h1, h2, -⟩ := J
  obtain ⟨w1, w2, w3, w4, w5⟩ := hw
  have hts := C.1.2.2.2.2
  have cw := callB_of (R := sm_rm Γ) (s := sm_s Γ) (args := sm_ar Γ) (own := own) (index := index) (rm := sm_room d 1 6) (mc := 1) (ms := 6) na hts (sm_gi (w0 := w0) w1) rfl rfl rfl (hts _ (List.mem_cons_of_mem _ w2)) (hts _ (List.mem_cons_of_mem _ w3)) w4 ⟨by rw [h2]; exact hd0, by rw [h2]; show 8 + (n + 11) + 30 * d ≤ 30 * d0; omega⟩
  exact sm_runX C J0 (fun _ _ _ h => h) (vx_runS (As := As) (rest := rest) C.1 (h1 ▸ hm) ⟨cw, hts _ (List.mem_cons_of_mem _ hst)⟩ ⟨sm_blind, fun U hU hW => ⟨rfl, sm_B_of C hP hS hU hW⟩⟩ rfl hn (hL.1.1.trans hLn) rfl (lv_room hrest) hd (by rw [h2]; exact ⟨Nat.le_refl 1, Nat.le_refl 6⟩)) hS
theorem sm_callVX (C : sm_C Γ Ω cc own nL w0) (J : sm_J Γ Ω l d0 E X Y) (hm : sm_thr l Ω y bytes n ret d (.ref (Ω.2.1 + i) :: As) X Y E) (hw : sm_cw own index y bytes n ret na) (hin : Cond.instanceMethod y ∈ sm_ws) (hse : (Cond.selects y.cls y y).before (sm_ar Γ) (sm_s Γ) = true) (hi : i < 723) (hs : sm_sh i = .inl (ci, fl)) (hc : sm_cl[ci]? = some cr) (hcr : cr.1 = y.cls)
    (hn : As.length = na) (hd0 : d + 1 ≤ d0) (hLn : L.length = nL) (hrest : (rest.map fun v => v.category).sum ≤ 8) (hd : decode cc pc = .ok (.invokevirtual index, 3)) : sm_G Γ Ω 723 0 0 pc L (As.reverse ++ .ref (Ω.2.1 + i) :: rest) X Y := by
  intro ls H locs hL hP hS
  have J0 := J
  obtain ⟨h1, h2, -⟩ := J
  obtain ⟨w1, w2, w3, w4, w5⟩ := hw
  have hts := C.1.2.2.2.2
  have cw := callB_of (R := sm_rm Γ) (s := sm_s Γ) (args := sm_ar Γ) (own := own) (index := index) (rm := sm_room d 1 6) (mc := 1) (ms := 6) na hts (sm_gi (w0 := w0) w1) rfl rfl rfl (hts _ (List.mem_cons_of_mem _ w2)) (hts _ (List.mem_cons_of_mem _ w3)) w4 ⟨by rw [h2]; exact hd0, by rw [h2]; show 8 + (n + 11) + 30 * d ≤ 30 * d0; omega⟩
  have he : (sm_W Ω.2.1 Ω.2.2.1 sm_sh 723 X Y)[i]? = some (Ω.2.1 + i, .inr (ci, sm_f Ω.2.1 fl (X i) (Y i))) := by rw [sm_at hi, hs]; rfl
  have hrecv := va_recv C.2.1 hP hc he
  rw [hcr] at hrecv
  exact sm_runX C J0 (fun _ _ _ h => h) (vx_runV (As := As) (rest := rest) (C := y.cls) C.1 (h1 ▸ hm) ⟨cw, hts _ (List.mem_cons_of_mem _ hin), hse⟩ ⟨sm_blind, hrecv, fun U hU hW => ⟨rfl, sm_B_of C hP hS hU hW⟩⟩ rfl hn (hL.1.1.trans hLn) rfl (lv_room hrest) hd (by rw [h2]; exact ⟨Nat.le_refl 1, Nat.le_refl 6⟩)) hS
end

theorem tw_S_200 : sm_tw RX6 200 202 eIO := ⟨by decide +kernel, by decide +kernel, sm_inT 199 (by decide +kernel) (by decide +kernel), sm_inT 12 (by decide +kernel) (by decide +kernel), by decide +kernel, by decide +kernel, by decide +kernel⟩
theorem tw_S_67 : sm_tw RX6 67 69 eIA := ⟨by decide +kernel, by decide +kernel, sm_inT 274 (by decide +kernel) (by decide +kernel), sm_inT 13 (by decide +kernel) (by decide +kernel), by decide +kernel, by decide +kernel, by decide +kernel⟩
theorem tw_S_77 : sm_tw RX6 77 79 eUO := ⟨by decide +kernel, by decide +kernel, sm_inT 312 (by decide +kernel) (by decide +kernel), sm_inT 15 (by decide +kernel) (by decide +kernel), by decide +kernel, by decide +kernel, by decide +kernel⟩
theorem tw_S_104 : sm_tw RX6 104 106 eIS := ⟨by decide +kernel, by decide +kernel, sm_inT 293 (by decide +kernel) (by decide +kernel), sm_inT 14 (by decide +kernel) (by decide +kernel), by decide +kernel, by decide +kernel, by decide +kernel⟩
theorem tw_S_120 : sm_tw RX6 120 122 eNS := ⟨by decide +kernel, by decide +kernel, sm_inT 412 (by decide +kernel) (by decide +kernel), sm_inT 16 (by decide +kernel) (by decide +kernel), by decide +kernel, by decide +kernel, by decide +kernel⟩
end
section
/-! Checks, and the public methods that need no more than them -/
theorem sn_mask00 : (List.range 64).all (fun a => (List.range 64).all (fun b => decide ((64 * a + b) &&& 4294963200 = 0))) = true := by decide +kernel
theorem sn_mask0 {m : Nat} (h : m < 4096) : nI m &&& (-4096) = 0 := by
  have h1 := List.all_eq_true.mp sn_mask00 (m / 64) (List.mem_range.mpr (by omega))
  have h2 := of_decide_eq_true (List.all_eq_true.mp h1 (m % 64) (List.mem_range.mpr (by omega)))
  rw [show 64 * (m / 64) + m % 64 = m by omega] at h2
  rw [show (-4096 : Int32) = nI 4294963200 from by decide, nx_and, h2]
  rfl
theorem sn_all (x : Int32) : x = nI x.toBitVec.toNat := by
  apply Int32.toBitVec_inj.1
  show x.toBitVec = BitVec.ofNat 32 x.toBitVec.toNat
  simp
theorem sn_inj32 {a b : Nat} (ha : a < 2 ^ 32) (hb : b < 2 ^ 32) (h : nI a = nI b) : a = b := by
  have h1 := pk_tn ha
  have h2 := pk_tn hb
  rw [h] at h1
  omega
theorem sn_mask {x : Int32} (h : x &&& (-4096) = 0) : ∃ m, m < 4096 ∧ x = nI m := by
  have hx := sn_all x
  have hlt : x.toBitVec.toNat < 2 ^ 32 := x.toBitVec.isLt
  generalize x.toBitVec.toNat = n at hx hlt
  subst hx
  rw [show (-4096 : Int32) = nI 4294963200 from by decide, nx_and] at h
  have h0 : n &&& 4294963200 = 0 := sn_inj32 (Nat.lt_of_le_of_lt Nat.and_le_left hlt) (by decide) h
  have h1 : (n &&& 4294963200) >>> 12 = n >>> 12 &&& 4294963200 >>> 12 := Nat.shiftRight_and_distrib
  rw [h0, show 4294963200 >>> 12 = 2 ^ 20 - 1 from rfl, Nat.and_two_pow_sub_one_eq_mod, Nat.shiftRight_eq_div_pow, Nat.shiftRight_eq_div_pow, Nat.zero_div, Nat.mod_eq_of_lt (by omega)] at h1
  exact ⟨n, by omega, rfl⟩

set_option maxHeartbeats 4000000 in
set_option maxRecDepth 100000 in
theorem c_S_checkIndex (l : Launch) (Ω : sm_Ω) {X : sm_X} {w : Nat → Nat → Nat} {i n : Nat} (hi : i < n) (hn : n < 2 ^ 31) : sm_met l Ω y_S_checkIndex b_S_checkIndex 2 none 1 723 [.int (nI i), .int (nI n)] X (sm_rf w) (sm_det none X (sm_rf w)) := by
  refine sm_intro (own := RX6) (L := [some (.int (nI i)), some (.int (nI n))]) (by decide) rfl (by simp [Value.category]) (Nat.le_of_ble_eq_true rfl) rfl ?_
  intro Γ C I
  refine sg_iln (pc := 0) C d_S_checkIndex_0 rfl ?_
  refine sr_iflt (pc := 1) (tgt := 9) C d_S_checkIndex_1 (by decide) (fun h1 => absurd h1 (nI_pos (by omega))) (fun h1 => ?_)
  refine sg_iln (pc := 4) C d_S_checkIndex_4 rfl ?_
  refine sg_iln (pc := 5) C d_S_checkIndex_5 rfl ?_
  refine sg_iclt (pc := 6) (tgt := 17) C d_S_checkIndex_6 (by decide) (by omega) (by omega) (fun h6 => ?_) (fun h6 => absurd h6 (by omega))
  exact sg_vret (pc := 17) C I rfl d_S_checkIndex_17 ⟨rfl, rfl, rfl⟩

set_option maxHeartbeats 4000000 in
set_option maxRecDepth 100000 in
theorem x_S_checkIndex (l : Launch) (hl : l.stackTraces = false) (Ω : sm_Ω) {X : sm_X} {w : Nat → Nat → Nat} {x : Int32} {n : Nat} (hx : x < 0 ∨ nI n ≤ x) : sm_thr l Ω y_S_checkIndex b_S_checkIndex 2 none 6 [.int x, .int (nI n)] X (sm_rf w) eIO := by
  refine sm_introX (own := RX6) (L := [some (.int x), some (.int (nI n))]) (by decide) rfl (by simp [Value.category]) (Nat.le_of_ble_eq_true rfl) rfl ?_
  intro Γ C J
  refine sg_iln (pc := 0) C d_S_checkIndex_0 rfl ?_
  refine sr_iflt (pc := 1) (tgt := 9) C d_S_checkIndex_1 (by decide) (fun h1 => ?_) (fun h1 => ?_)
  · exact sg_throw (pc := 9) C J hl tw_S_200 d_S_checkIndex_9 d_S_checkIndex_12 d_S_checkIndex_13 d_S_checkIndex_16 (by decide) rfl (Nat.le_of_ble_eq_true rfl)
  · refine sg_iln (pc := 4) C d_S_checkIndex_4 rfl ?_
    refine sg_iln (pc := 5) C d_S_checkIndex_5 rfl ?_
    refine sr_iclt (pc := 6) (tgt := 17) C d_S_checkIndex_6 (by decide) (fun h6 => hx.elim (fun q => absurd q h1) (fun q => absurd h6 (Int32.not_lt.mpr q))) (fun h6 => ?_)
    exact sg_throw (pc := 9) C J hl tw_S_200 d_S_checkIndex_9 d_S_checkIndex_12 d_S_checkIndex_13 d_S_checkIndex_16 (by decide) rfl (Nat.le_of_ble_eq_true rfl)

set_option maxHeartbeats 4000000 in
set_option maxRecDepth 100000 in
theorem c_S_checkMask (l : Launch) (Ω : sm_Ω) {X : sm_X} {w : Nat → Nat → Nat} {m : Nat} (hm : m < 4096) : sm_met l Ω y_S_checkMask b_S_checkMask 1 none 1 723 [.int (nI m)] X (sm_rf w) (sm_det none X (sm_rf w)) := by
  refine sm_intro (own := RX6) (L := [some (.int (nI m))]) (by decide) rfl (by simp [Value.category]) (Nat.le_of_ble_eq_true rfl) rfl ?_
  intro Γ C I
  refine sg_iln (pc := 0) C d_S_checkMask_0 rfl ?_
  refine sg_sim (pc := 1) (v := -4096) C d_S_checkMask_1 (by decide) ?_
  refine sr_iand (pc := 4) C d_S_checkMask_4 rfl ?_
  refine sr_ifeq (pc := 5) (tgt := 16) C d_S_checkMask_5 (by decide) (fun h5 => ?_) (fun h5 => absurd (sn_mask0 hm) h5)
  exact sg_vret (pc := 16) C I rfl d_S_checkMask_16 ⟨rfl, rfl, rfl⟩

set_option maxHeartbeats 4000000 in
set_option maxRecDepth 100000 in
theorem x_S_checkMask (l : Launch) (hl : l.stackTraces = false) (Ω : sm_Ω) {X : sm_X} {w : Nat → Nat → Nat} {x : Int32} (hx : ¬ x &&& (-4096) = 0) : sm_thr l Ω y_S_checkMask b_S_checkMask 1 none 6 [.int x] X (sm_rf w) eIA := by
  refine sm_introX (own := RX6) (L := [some (.int x)]) (by decide) rfl (by simp [Value.category]) (Nat.le_of_ble_eq_true rfl) rfl ?_
  intro Γ C J
  refine sg_iln (pc := 0) C d_S_checkMask_0 rfl ?_
  refine sg_sim (pc := 1) (v := -4096) C d_S_checkMask_1 (by decide) ?_
  refine sr_iand (pc := 4) C d_S_checkMask_4 rfl ?_
  refine sr_ifeq (pc := 5) (tgt := 16) C d_S_checkMask_5 (by decide) (fun h5 => absurd h5 hx) (fun h5 => ?_)
  exact sg_throw (pc := 8) C J hl tw_S_67 d_S_checkMask_8 d_S_checkMask_11 d_S_checkMask_12 d_S_checkMask_15 (by decide) rfl (Nat.le_of_ble_eq_true rfl)

set_option maxHeartbeats 4000000 in
set_option maxRecDepth 100000 in
theorem c_S_checkNotStopped (l : Launch) (Ω : sm_Ω) {X : sm_X} {w : Nat → Nat → Nat} (hf : swf X w) {o : Nat} (ho : o < 12) (hs : X (691 + o) 4 = 0) : sm_met l Ω y_S_checkNotStopped b_S_checkNotStopped 2 none 1 723 [.ref (Ω.2.1 + 0), .int (nI o)] X (sm_rf w) (sm_det none X (sm_rf w)) := by
  refine sm_intro (own := RX6) (L := [some (.ref (Ω.2.1 + 0)), some (.int (nI o))]) (by decide) rfl (by simp [Value.category]) (Nat.le_of_ble_eq_true rfl) rfl ?_
  intro Γ C I
  refine sg_aln (pc := 0) C d_S_checkNotStopped_0 rfl ?_
  refine sg_getr (pc := 1) C fw_S_31 (by omega) rfl rfl rfl d_S_checkNotStopped_1 ?_
  refine sg_iln (pc := 4) C d_S_checkNotStopped_4 rfl ?_
  refine sg_aald (pc := 5) (n := 12) (t := 5) C (by omega) rfl (by decide) rfl rfl (by omega) (by decide) (rf_items (by omega)) d_S_checkNotStopped_5 ?_
  refine sg_geti (pc := 6) C fw_S_100 (by omega) (sh_I (by omega)) rfl d_S_checkNotStopped_6 ?_
  refine sg_ifeq (pc := 9) (tgt := 20) C d_S_checkNotStopped_9 (by decide) (by omega) (fun h9 => ?_) (fun h9 => absurd hs h9)
  exact sg_vret (pc := 20) C I rfl d_S_checkNotStopped_20 ⟨rfl, rfl, rfl⟩

set_option maxHeartbeats 4000000 in
set_option maxRecDepth 100000 in
theorem x_S_checkNotStopped (l : Launch) (hl : l.stackTraces = false) (Ω : sm_Ω) {X : sm_X} {w : Nat → Nat → Nat} (hf : swf X w) {o : Nat} (ho : o < 12) (hs : X (691 + o) 4 ≠ 0) : sm_thr l Ω y_S_checkNotStopped b_S_checkNotStopped 2 none 6 [.ref (Ω.2.1 + 0), .int (nI o)] X (sm_rf w) eIS := by
  refine sm_introX (own := RX6) (L := [some (.ref (Ω.2.1 + 0)), some (.int (nI o))]) (by decide) rfl (by simp [Value.category]) (Nat.le_of_ble_eq_true rfl) rfl ?_
  intro Γ C J
  have gi := hf.2.2.1 o ho
  refine sg_aln (pc := 0) C d_S_checkNotStopped_0 rfl ?_
  refine sg_getr (pc := 1) C fw_S_31 (by omega) rfl rfl rfl d_S_checkNotStopped_1 ?_
  refine sg_iln (pc := 4) C d_S_checkNotStopped_4 rfl ?_
  refine sg_aald (pc := 5) (n := 12) (t := 5) C (by omega) rfl (by decide) rfl rfl (by omega) (by decide) (rf_items (by omega)) d_S_checkNotStopped_5 ?_
  refine sg_geti (pc := 6) C fw_S_100 (by omega) (sh_I (by omega)) rfl d_S_checkNotStopped_6 ?_
  refine sg_ifeq (pc := 9) (tgt := 20) C d_S_checkNotStopped_9 (by decide) (by omega) (fun h9 => absurd h9 hs) (fun h9 => ?_)
  exact sg_throw (pc := 12) C J hl tw_S_104 d_S_checkNotStopped_12 d_S_checkNotStopped_15 d_S_checkNotStopped_16 d_S_checkNotStopped_19 (by decide) rfl (Nat.le_of_ble_eq_true rfl)

set_option maxHeartbeats 4000000 in
set_option maxRecDepth 100000 in
theorem c_S_checkLive (l : Launch) (Ω : sm_Ω) {X : sm_X} {w : Nat → Nat → Nat} (hf : swf X w) {n : Nat} (hn : n < 12) (hs : X (79 + 51 * n) 3 ≠ 0) : sm_met l Ω y_S_checkLive b_S_checkLive 2 none 1 723 [.ref (Ω.2.1 + 0), .int (nI n)] X (sm_rf w) (sm_det none X (sm_rf w)) := by
  refine sm_intro (own := RX6) (L := [some (.ref (Ω.2.1 + 0)), some (.int (nI n))]) (by decide) rfl (by simp [Value.category]) (Nat.le_of_ble_eq_true rfl) rfl ?_
  intro Γ C I
  have gi := hf.2.1 n hn
  refine sg_aln (pc := 0) C d_S_checkLive_0 rfl ?_
  refine sg_getr (pc := 1) C fw_S_25 (by omega) rfl rfl rfl d_S_checkLive_1 ?_
  refine sg_iln (pc := 4) C d_S_checkLive_4 rfl ?_
  refine sg_aald (pc := 5) (n := 12) (t := 4) C (by omega) rfl (by decide) rfl rfl (by omega) (by decide) (rf_nodes (by omega)) d_S_checkLive_5 ?_
  refine sg_geti (pc := 6) C fw_S_149 (by omega) (sh_N (by omega)) rfl d_S_checkLive_6 ?_
  refine sg_ifne (pc := 9) (tgt := 20) C d_S_checkLive_9 (by decide) (by omega) (fun h9 => ?_) (fun h9 => absurd h9 hs)
  exact sg_vret (pc := 20) C I rfl d_S_checkLive_20 ⟨rfl, rfl, rfl⟩

set_option maxHeartbeats 4000000 in
set_option maxRecDepth 100000 in
theorem x_S_checkLive (l : Launch) (hl : l.stackTraces = false) (Ω : sm_Ω) {X : sm_X} {w : Nat → Nat → Nat} (hf : swf X w) {n : Nat} (hn : n < 12) (hs : X (79 + 51 * n) 3 = 0) : sm_thr l Ω y_S_checkLive b_S_checkLive 2 none 6 [.ref (Ω.2.1 + 0), .int (nI n)] X (sm_rf w) eIS := by
  refine sm_introX (own := RX6) (L := [some (.ref (Ω.2.1 + 0)), some (.int (nI n))]) (by decide) rfl (by simp [Value.category]) (Nat.le_of_ble_eq_true rfl) rfl ?_
  intro Γ C J
  refine sg_aln (pc := 0) C d_S_checkLive_0 rfl ?_
  refine sg_getr (pc := 1) C fw_S_25 (by omega) rfl rfl rfl d_S_checkLive_1 ?_
  refine sg_iln (pc := 4) C d_S_checkLive_4 rfl ?_
  refine sg_aald (pc := 5) (n := 12) (t := 4) C (by omega) rfl (by decide) rfl rfl (by omega) (by decide) (rf_nodes (by omega)) d_S_checkLive_5 ?_
  refine sg_geti (pc := 6) C fw_S_149 (by omega) (sh_N (by omega)) rfl d_S_checkLive_6 ?_
  refine sg_ifne (pc := 9) (tgt := 20) C d_S_checkLive_9 (by decide) (by omega) (fun h9 => absurd hs h9) (fun h9 => ?_)
  exact sg_throw (pc := 12) C J hl tw_S_104 d_S_checkLive_12 d_S_checkLive_15 d_S_checkLive_16 d_S_checkLive_19 (by decide) rfl (Nat.le_of_ble_eq_true rfl)

set_option maxHeartbeats 4000000 in
set_option maxRecDepth 100000 in
theorem c_S_isByte1 (l : Launch) (Ω : sm_Ω) {X : sm_X} {w : Nat → Nat → Nat} {a : Nat} (ha : a < 256) : sm_met l Ω y_S_isByte b_S_isByte 1 (some .boolean) 1 723 [.int (nI a)] X (sm_rf w) (sm_det (some (.int (nI 1))) X (sm_rf w)) := by
  refine sm_intro (own := RX6) (L := [some (.int (nI a))]) (by decide) rfl (by simp [Value.category]) (Nat.le_of_ble_eq_true rfl) rfl ?_
  intro Γ C I
  refine sg_iln (pc := 0) C d_S_isByte_0 rfl ?_
  refine sr_iflt (pc := 1) (tgt := 15) C d_S_isByte_1 (by decide) (fun h1 => absurd h1 (nI_pos (by omega))) (fun h1 => ?_)
  refine sg_iln (pc := 4) C d_S_isByte_4 rfl ?_
  refine sg_si (pc := 5) (v := 255) C d_S_isByte_5 (by decide) ?_
  refine sg_icgt (pc := 8) (tgt := 15) C d_S_isByte_8 (by decide) (by omega) (by omega) (fun h8 => absurd h8 (by omega)) (fun h8 => ?_)
  refine sg_ic (pc := 11) (v := 1) C d_S_isByte_11 (by decide) ?_
  refine sg_goto (pc := 12) (tgt := 16) C d_S_isByte_12 (by decide) ?_
  exact sg_iret (pc := 16) C I rfl (sn_b (by decide)) d_S_isByte_16 ⟨rfl, rfl, rfl⟩

set_option maxHeartbeats 4000000 in
set_option maxRecDepth 100000 in
theorem c_S_isByte0 (l : Launch) (Ω : sm_Ω) {X : sm_X} {w : Nat → Nat → Nat} {x : Int32} (hx : x < 0 ∨ nI 255 < x) : sm_met l Ω y_S_isByte b_S_isByte 1 (some .boolean) 1 723 [.int x] X (sm_rf w) (sm_det (some (.int (nI 0))) X (sm_rf w)) := by
  refine sm_intro (own := RX6) (L := [some (.int x)]) (by decide) rfl (by simp [Value.category]) (Nat.le_of_ble_eq_true rfl) rfl ?_
  intro Γ C I
  refine sg_iln (pc := 0) C d_S_isByte_0 rfl ?_
  refine sr_iflt (pc := 1) (tgt := 15) C d_S_isByte_1 (by decide) (fun h1 => ?_) (fun h1 => ?_)
  · refine sg_ic (pc := 15) (v := 0) C d_S_isByte_15 (by decide) ?_
    exact sg_iret (pc := 16) C I rfl (sn_b (by decide)) d_S_isByte_16 ⟨rfl, rfl, rfl⟩
  · refine sg_iln (pc := 4) C d_S_isByte_4 rfl ?_
    refine sg_si (pc := 5) (v := 255) C d_S_isByte_5 (by decide) ?_
    refine sr_icgt (pc := 8) (tgt := 15) C d_S_isByte_8 (by decide) (fun h8 => ?_) (fun h8 => absurd (hx.elim (fun q => absurd q h1) id) h8)
    refine sg_ic (pc := 15) (v := 0) C d_S_isByte_15 (by decide) ?_
    exact sg_iret (pc := 16) C I rfl (sn_b (by decide)) d_S_isByte_16 ⟨rfl, rfl, rfl⟩

theorem sn_us : ∀ k, k < 4 → (((nI (24 - 8 * k)).toUInt32 &&& Int32.toUInt32 31).toBitVec % 32).toNat = 24 - 8 * k := by decide +kernel

set_option maxHeartbeats 4000000 in
set_option maxRecDepth 100000 in
theorem c_S_load (l : Launch) (Ω : sm_Ω) {X : sm_X} {w : Nat → Nat → Nat} {i N : Nat} (hi : i < 60) (hN : N < 2 ^ 32) : sm_met l Ω y_S_load b_S_load 4 none 2 723 [.ref (Ω.2.1 + 0), .int (nI i), .int (nI N)] X (sm_rf w) (sm_det none (sm_uf X 77 (fun j => if 4 * i ≤ j ∧ j < 4 * i + 4 then N / 2 ^ (24 - 8 * (j - 4 * i)) % 256 else X 77 j)) (sm_rf w)) := by
  refine sm_intro (own := RX6) (L := [some (.ref (Ω.2.1 + 0)), some (.int (nI i)), some (.int (nI N)), none]) (by decide) rfl (by simp [Value.category]) (Nat.le_of_ble_eq_true rfl) rfl ?_
  intro Γ C I
  refine sg_iln (pc := 0) C d_S_load_0 rfl ?_
  refine sg_bi (pc := 1) (v := 60) C d_S_load_1 (by decide) ?_
  refine sm_callS (pc := 3) (As := [.int (nI i), .int (nI 60)]) C I (c_S_checkIndex l Ω (by omega) (by decide)) cw_S_63 sw_S_checkIndex rfl (by decide) ⟨by decide, by decide⟩ rfl (Nat.le_of_ble_eq_true rfl) d_S_load_3 (sm_det_v ?_)
  refine sg_ic (pc := 6) (v := 0) C d_S_load_6 (by decide) ?_
  refine sg_is3 (pc := 7) C d_S_load_7 ?_
  have loop : ∀ t k, k + t = 4 → sm_G Γ Ω 723 0 0 8 [some (.ref (Ω.2.1 + 0)), some (.int (nI i)), some (.int (nI N)), some (.int (nI k))] [] (sm_uf X 77 (fun j => if 4 * i ≤ j ∧ j < 4 * i + k then N / 2 ^ (24 - 8 * (j - 4 * i)) % 256 else X 77 j)) (sm_rf w) := by
    intro t
    induction t with
    | zero =>
      intro k hk
      refine sg_iln (pc := 8) C d_S_load_8 rfl ?_
      refine sg_ic (pc := 9) (v := 4) C d_S_load_9 (by decide) ?_
      refine sg_icge (pc := 10) (tgt := 42) C d_S_load_10 (by decide) (by omega) (by omega) (fun h10 => ?_) (fun h10 => absurd h10 (by omega))
      exact sg_vret (pc := 42) C I rfl d_S_load_42 ⟨rfl, by rw [show k = 4 by omega], rfl⟩
    | succ t ih =>
      intro k hk
      refine sg_iln (pc := 8) C d_S_load_8 rfl ?_
      refine sg_ic (pc := 9) (v := 4) C d_S_load_9 (by decide) ?_
      refine sg_icge (pc := 10) (tgt := 42) C d_S_load_10 (by decide) (by omega) (by omega) (fun h10 => absurd h10 (by omega)) (fun h10 => ?_)
      refine sg_aln (pc := 13) C d_S_load_13 rfl ?_
      refine sg_getr (pc := 14) C fw_S_46 (by omega) rfl rfl rfl d_S_load_14 ?_
      refine sg_ic (pc := 17) (v := 4) C d_S_load_17 (by decide) ?_
      refine sg_iln (pc := 18) C d_S_load_18 rfl ?_
      refine sg_mul (pc := 19) C d_S_load_19 ?_
      refine sg_iln (pc := 20) C d_S_load_20 rfl ?_
      refine sg_add (pc := 21) C d_S_load_21 ?_
      refine sg_iln (pc := 22) C d_S_load_22 rfl ?_
      refine sg_bi (pc := 23) (v := 24) C d_S_load_23 (by decide) ?_
      refine sg_bi (pc := 25) (v := 8) C d_S_load_25 (by decide) ?_
      refine sg_iln (pc := 27) C d_S_load_27 rfl ?_
      refine sg_mul (pc := 28) C d_S_load_28 ?_
      refine sg_sub (pc := 29) C d_S_load_29 (by omega) ?_
      refine sr_iushr (pc := 30) C d_S_load_30 (pk_ushrN hN _ (24 - 8 * k) (sn_us k (by omega))) ?_
      refine sg_si (pc := 31) (v := 255) C d_S_load_31 (by decide) ?_
      refine sg_and (pc := 34) C d_S_load_34 ?_
      rw [show N / 2 ^ (24 - 8 * k) &&& 255 = N / 2 ^ (24 - 8 * k) % 256 from Nat.and_two_pow_sub_one_eq_mod _ 8]
      refine sg_iast (pc := 35) (n := 240) C (by omega) rfl (by omega) (by decide) d_S_load_35 ?_
      rw [sm_uf_up, show (fun j => if j = 4 * i + k then N / 2 ^ (24 - 8 * k) % 256 else if 4 * i ≤ j ∧ j < 4 * i + k then N / 2 ^ (24 - 8 * (j - 4 * i)) % 256 else X 77 j) = (fun j => if 4 * i ≤ j ∧ j < 4 * i + (k + 1) then N / 2 ^ (24 - 8 * (j - 4 * i)) % 256 else X 77 j) from funext fun j => by
          by_cases e1 : j = 4 * i + k
          · subst e1; rw [if_pos rfl, if_pos (by omega), show 4 * i + k - 4 * i = k by omega]
          · rw [if_neg e1]
            by_cases e2 : 4 * i ≤ j ∧ j < 4 * i + k
            · rw [if_pos e2, if_pos (by omega)]
            · rw [if_neg e2, if_neg (by omega)]]
      refine sg_inc3 (pc := 36) (n := 1) C d_S_load_36 (by decide) ?_
      refine sg_goto (pc := 39) (tgt := 8) C d_S_load_39 (by decide) ?_
      exact ih (k + 1) (by omega)
  have h0 := loop 4 0 (by omega)
  rw [show (sm_uf X 77 (fun j => if 4 * i ≤ j ∧ j < 4 * i + 0 then N / 2 ^ (24 - 8 * (j - 4 * i)) % 256 else X 77 j)) = X from (sm_uf_c (fun j => if_neg (by omega))).trans sm_uf_self] at h0
  exact h0

set_option maxHeartbeats 4000000 in
set_option maxRecDepth 100000 in
theorem x_S_load (l : Launch) (hl : l.stackTraces = false) (Ω : sm_Ω) {X : sm_X} {w : Nat → Nat → Nat} {x z : Int32} (hx : x < 0 ∨ nI 60 ≤ x) : sm_thr l Ω y_S_load b_S_load 4 none 7 [.ref (Ω.2.1 + 0), .int x, .int z] X (sm_rf w) eIO := by
  refine sm_introX (own := RX6) (L := [some (.ref (Ω.2.1 + 0)), some (.int x), some (.int z), none]) (by decide) rfl (by simp [Value.category]) (Nat.le_of_ble_eq_true rfl) rfl ?_
  intro Γ C J
  refine sg_iln (pc := 0) C d_S_load_0 rfl ?_
  refine sg_bi (pc := 1) (v := 60) C d_S_load_1 (by decide) ?_
  exact sm_callSX (pc := 3) (As := [.int x, .int (nI 60)]) C J (x_S_checkIndex l hl Ω hx) cw_S_63 sw_S_checkIndex rfl (by decide) rfl (Nat.le_of_ble_eq_true rfl) d_S_load_3

set_option maxHeartbeats 4000000 in
set_option maxRecDepth 100000 in
theorem c_S_cut (l : Launch) (Ω : sm_Ω) {X : sm_X} {w : Nat → Nat → Nat} {q : Nat} (hq : q < 24) : sm_met l Ω y_S_cut b_S_cut 2 none 1 723 [.ref (Ω.2.1 + 0), .int (nI q)] X (sm_rf w) (sm_det none (sm_up X 0 9 q) (sm_rf w)) := by
  refine sm_intro (own := RX6) (L := [some (.ref (Ω.2.1 + 0)), some (.int (nI q))]) (by decide) rfl (by simp [Value.category]) (Nat.le_of_ble_eq_true rfl) rfl ?_
  intro Γ C I
  refine sg_iln (pc := 0) C d_S_cut_0 rfl ?_
  refine sr_iflt (pc := 1) (tgt := 10) C d_S_cut_1 (by decide) (fun h1 => absurd h1 (nI_pos (by omega))) (fun h1 => ?_)
  refine sg_iln (pc := 4) C d_S_cut_4 rfl ?_
  refine sg_bi (pc := 5) (v := 24) C d_S_cut_5 (by decide) ?_
  refine sg_iclt (pc := 7) (tgt := 18) C d_S_cut_7 (by decide) (by omega) (by omega) (fun h7 => ?_) (fun h7 => absurd h7 (by omega))
  refine sg_aln (pc := 18) C d_S_cut_18 rfl ?_
  refine sg_iln (pc := 19) C d_S_cut_19 rfl ?_
  refine sg_puti (pc := 20) C pw_S_56 (by omega) rfl rfl rfl rfl d_S_cut_20 ?_
  exact sg_vret (pc := 23) C I rfl d_S_cut_23 ⟨rfl, rfl, rfl⟩

set_option maxHeartbeats 4000000 in
set_option maxRecDepth 100000 in
theorem x_S_cut (l : Launch) (hl : l.stackTraces = false) (Ω : sm_Ω) {X : sm_X} {w : Nat → Nat → Nat} {x : Int32} (hx : x < 0 ∨ nI 24 ≤ x) : sm_thr l Ω y_S_cut b_S_cut 2 none 6 [.ref (Ω.2.1 + 0), .int x] X (sm_rf w) eIA := by
  refine sm_introX (own := RX6) (L := [some (.ref (Ω.2.1 + 0)), some (.int x)]) (by decide) rfl (by simp [Value.category]) (Nat.le_of_ble_eq_true rfl) rfl ?_
  intro Γ C J
  refine sg_iln (pc := 0) C d_S_cut_0 rfl ?_
  refine sr_iflt (pc := 1) (tgt := 10) C d_S_cut_1 (by decide) (fun h1 => ?_) (fun h1 => ?_)
  · exact sg_throw (pc := 10) C J hl tw_S_67 d_S_cut_10 d_S_cut_13 d_S_cut_14 d_S_cut_17 (by decide) rfl (Nat.le_of_ble_eq_true rfl)
  · refine sg_iln (pc := 4) C d_S_cut_4 rfl ?_
    refine sg_bi (pc := 5) (v := 24) C d_S_cut_5 (by decide) ?_
    refine sr_iclt (pc := 7) (tgt := 18) C d_S_cut_7 (by decide) (fun h7 => hx.elim (fun q => absurd q h1) (fun q => absurd h7 (Int32.not_lt.mpr q))) (fun h7 => ?_)
    exact sg_throw (pc := 10) C J hl tw_S_67 d_S_cut_10 d_S_cut_13 d_S_cut_14 d_S_cut_17 (by decide) rfl (Nat.le_of_ble_eq_true rfl)

set_option maxHeartbeats 4000000 in
set_option maxRecDepth 100000 in
theorem c_S_out (l : Launch) (Ω : sm_Ω) {X : sm_X} {w : Nat → Nat → Nat} {i : Nat} (hi : i < X 0 8) (hr : X 0 8 ≤ 240) : sm_met l Ω y_S_out b_S_out 2 (some .int) 2 723 [.ref (Ω.2.1 + 0), .int (nI i)] X (sm_rf w) (sm_det (some (.int (nI (X 78 i)))) X (sm_rf w)) := by
  refine sm_intro (own := RX6) (L := [some (.ref (Ω.2.1 + 0)), some (.int (nI i))]) (by decide) rfl (by simp [Value.category]) (Nat.le_of_ble_eq_true rfl) rfl ?_
  intro Γ C I
  refine sg_iln (pc := 0) C d_S_out_0 rfl ?_
  refine sg_aln (pc := 1) C d_S_out_1 rfl ?_
  refine sg_geti (pc := 2) C fw_S_52 (by omega) rfl rfl d_S_out_2 ?_
  refine sm_callS (pc := 5) (As := [.int (nI i), .int (nI (X 0 8))]) C I (c_S_checkIndex l Ω hi (by omega)) cw_S_63 sw_S_checkIndex rfl (by decide) ⟨by decide, by decide⟩ rfl (Nat.le_of_ble_eq_true rfl) d_S_out_5 (sm_det_v ?_)
  refine sg_aln (pc := 8) C d_S_out_8 rfl ?_
  refine sg_getr (pc := 9) C fw_S_49 (by omega) rfl rfl rfl d_S_out_9 ?_
  refine sg_iln (pc := 12) C d_S_out_12 rfl ?_
  refine sg_iald (pc := 13) (n := 240) C (by omega) rfl (by omega) (by decide) d_S_out_13 ?_
  exact sg_iret (pc := 14) C I rfl rfl d_S_out_14 ⟨rfl, rfl, rfl⟩

set_option maxHeartbeats 4000000 in
set_option maxRecDepth 100000 in
theorem x_S_out (l : Launch) (hl : l.stackTraces = false) (Ω : sm_Ω) {X : sm_X} {w : Nat → Nat → Nat} {x : Int32} (hx : x < 0 ∨ nI (X 0 8) ≤ x) : sm_thr l Ω y_S_out b_S_out 2 (some .int) 7 [.ref (Ω.2.1 + 0), .int x] X (sm_rf w) eIO := by
  refine sm_introX (own := RX6) (L := [some (.ref (Ω.2.1 + 0)), some (.int x)]) (by decide) rfl (by simp [Value.category]) (Nat.le_of_ble_eq_true rfl) rfl ?_
  intro Γ C J
  refine sg_iln (pc := 0) C d_S_out_0 rfl ?_
  refine sg_aln (pc := 1) C d_S_out_1 rfl ?_
  refine sg_geti (pc := 2) C fw_S_52 (by omega) rfl rfl d_S_out_2 ?_
  exact sm_callSX (pc := 5) (As := [.int x, .int (nI (X 0 8))]) C J (x_S_checkIndex l hl Ω hx) cw_S_63 sw_S_checkIndex rfl (by decide) rfl (Nat.le_of_ble_eq_true rfl) d_S_out_5

set_option maxHeartbeats 4000000 in
set_option maxRecDepth 100000 in
theorem c_S_object (l : Launch) (Ω : sm_Ω) {X : sm_X} {w : Nat → Nat → Nat} (hf : swf X w) {o q : Nat} (ho : o < 12) (hq : q < 3) : sm_met l Ω y_S_object b_S_object 4 (some .int) 2 723 [.ref (Ω.2.1 + 0), .int (nI o), .int (nI q)] X (sm_rf w) (sm_det (some (.int (nI (if q = 0 then X (691 + o) 0 else if q = 1 then X (691 + o) 1 else X (691 + o) 4)))) X (sm_rf w)) := by
  refine sm_intro (own := RX6) (L := [some (.ref (Ω.2.1 + 0)), some (.int (nI o)), some (.int (nI q)), none]) (by decide) rfl (by simp [Value.category]) (Nat.le_of_ble_eq_true rfl) rfl ?_
  intro Γ C I
  have gi := hf.2.2.1 o ho
  refine sg_iln (pc := 0) C d_S_object_0 rfl ?_
  refine sg_bi (pc := 1) (v := 12) C d_S_object_1 (by decide) ?_
  refine sm_callS (pc := 3) (As := [.int (nI o), .int (nI 12)]) C I (c_S_checkIndex l Ω (by omega) (by decide)) cw_S_63 sw_S_checkIndex rfl (by decide) ⟨by decide, by decide⟩ rfl (Nat.le_of_ble_eq_true rfl) d_S_object_3 (sm_det_v ?_)
  refine sg_iln (pc := 6) C d_S_object_6 rfl ?_
  refine sg_ic (pc := 7) (v := 3) C d_S_object_7 (by decide) ?_
  refine sm_callS (pc := 8) (As := [.int (nI q), .int (nI 3)]) C I (c_S_checkIndex l Ω (by omega) (by decide)) cw_S_63 sw_S_checkIndex rfl (by decide) ⟨by decide, by decide⟩ rfl (Nat.le_of_ble_eq_true rfl) d_S_object_8 (sm_det_v ?_)
  refine sg_aln (pc := 11) C d_S_object_11 rfl ?_
  refine sg_getr (pc := 12) C fw_S_31 (by omega) rfl rfl rfl d_S_object_12 ?_
  refine sg_iln (pc := 15) C d_S_object_15 rfl ?_
  refine sg_aald (pc := 16) (n := 12) (t := 5) C (by omega) rfl (by decide) rfl rfl (by omega) (by decide) (rf_items (by omega)) d_S_object_16 ?_
  refine sg_as3 (pc := 17) C d_S_object_17 ?_
  refine sg_iln (pc := 18) C d_S_object_18 rfl ?_
  refine sg_ifne (pc := 19) (tgt := 27) C d_S_object_19 (by decide) (by omega) (fun h19 => ?_) (fun h19 => ?_)
  · refine sg_iln (pc := 27) C d_S_object_27 rfl ?_
    refine sg_ic (pc := 28) (v := 1) C d_S_object_28 (by decide) ?_
    refine sg_icne (pc := 29) (tgt := 37) C d_S_object_29 (by decide) (by omega) (by omega) (fun h29 => ?_) (fun h29 => ?_)
    · refine sg_aln (pc := 37) C d_S_object_37 rfl ?_
      refine sg_geti (pc := 38) C fw_S_100 (by omega) (sh_I (by omega)) rfl d_S_object_38 ?_
      refine sg_ifeq (pc := 41) (tgt := 48) C d_S_object_41 (by decide) (by omega) (fun h41 => ?_) (fun h41 => ?_)
      · refine sg_ic (pc := 48) (v := 0) C d_S_object_48 (by decide) ?_
        exact sg_iret (pc := 49) C I rfl rfl d_S_object_49 ⟨by rw [if_neg h19, if_neg h29, h41], rfl, rfl⟩
      · refine sg_ic (pc := 44) (v := 1) C d_S_object_44 (by decide) ?_
        refine sg_goto (pc := 45) (tgt := 49) C d_S_object_45 (by decide) ?_
        exact sg_iret (pc := 49) C I rfl rfl d_S_object_49 ⟨by rw [if_neg h19, if_neg h29, show X (691 + o) 4 = 1 by omega], rfl, rfl⟩
    · refine sg_aln (pc := 32) C d_S_object_32 rfl ?_
      refine sg_geti (pc := 33) C fw_S_117 (by omega) (sh_I (by omega)) rfl d_S_object_33 ?_
      exact sg_iret (pc := 36) C I rfl rfl d_S_object_36 ⟨by rw [if_neg h19, if_pos h29], rfl, rfl⟩
  · refine sg_aln (pc := 22) C d_S_object_22 rfl ?_
    refine sg_geti (pc := 23) C fw_S_143 (by omega) (sh_I (by omega)) rfl d_S_object_23 ?_
    exact sg_iret (pc := 26) C I rfl rfl d_S_object_26 ⟨by rw [if_pos h19], rfl, rfl⟩

set_option maxHeartbeats 4000000 in
set_option maxRecDepth 100000 in
theorem x_S_object1 (l : Launch) (hl : l.stackTraces = false) (Ω : sm_Ω) {X : sm_X} {w : Nat → Nat → Nat} {x z : Int32} (hx : x < 0 ∨ nI 12 ≤ x) : sm_thr l Ω y_S_object b_S_object 4 (some .int) 7 [.ref (Ω.2.1 + 0), .int x, .int z] X (sm_rf w) eIO := by
  refine sm_introX (own := RX6) (L := [some (.ref (Ω.2.1 + 0)), some (.int x), some (.int z), none]) (by decide) rfl (by simp [Value.category]) (Nat.le_of_ble_eq_true rfl) rfl ?_
  intro Γ C J
  refine sg_iln (pc := 0) C d_S_object_0 rfl ?_
  refine sg_bi (pc := 1) (v := 12) C d_S_object_1 (by decide) ?_
  exact sm_callSX (pc := 3) (As := [.int x, .int (nI 12)]) C J (x_S_checkIndex l hl Ω hx) cw_S_63 sw_S_checkIndex rfl (by decide) rfl (Nat.le_of_ble_eq_true rfl) d_S_object_3

set_option maxHeartbeats 4000000 in
set_option maxRecDepth 100000 in
theorem x_S_object2 (l : Launch) (hl : l.stackTraces = false) (Ω : sm_Ω) {X : sm_X} {w : Nat → Nat → Nat} {o : Nat} {x : Int32} (ho : o < 12) (hx : x < 0 ∨ nI 3 ≤ x) : sm_thr l Ω y_S_object b_S_object 4 (some .int) 7 [.ref (Ω.2.1 + 0), .int (nI o), .int x] X (sm_rf w) eIO := by
  refine sm_introX (own := RX6) (L := [some (.ref (Ω.2.1 + 0)), some (.int (nI o)), some (.int x), none]) (by decide) rfl (by simp [Value.category]) (Nat.le_of_ble_eq_true rfl) rfl ?_
  intro Γ C J
  refine sg_iln (pc := 0) C d_S_object_0 rfl ?_
  refine sg_bi (pc := 1) (v := 12) C d_S_object_1 (by decide) ?_
  refine sm_callS (pc := 3) (As := [.int (nI o), .int (nI 12)]) C J (c_S_checkIndex l Ω (by omega) (by decide)) cw_S_63 sw_S_checkIndex rfl (by decide) ⟨by decide, by decide⟩ rfl (Nat.le_of_ble_eq_true rfl) d_S_object_3 (sm_det_v ?_)
  refine sg_iln (pc := 6) C d_S_object_6 rfl ?_
  refine sg_ic (pc := 7) (v := 3) C d_S_object_7 (by decide) ?_
  exact sm_callSX (pc := 8) (As := [.int x, .int (nI 3)]) C J (x_S_checkIndex l hl Ω hx) cw_S_63 sw_S_checkIndex rfl (by decide) rfl (Nat.le_of_ble_eq_true rfl) d_S_object_8

set_option maxHeartbeats 4000000 in
set_option maxRecDepth 100000 in
theorem c_S_fail (l : Launch) (Ω : sm_Ω) {X : sm_X} {w : Nat → Nat → Nat} (hf : swf X w) {n : Nat} (hn : n < 12) (hs : X (79 + 51 * n) 3 ≠ 0) : sm_met l Ω y_S_fail b_S_fail 2 none 2 723 [.ref (Ω.2.1 + 0), .int (nI n)] X (sm_rf w) (sm_det none (sm_up X (79 + 51 * n) 3 0) (sm_rf w)) := by
  refine sm_intro (own := RX6) (L := [some (.ref (Ω.2.1 + 0)), some (.int (nI n))]) (by decide) rfl (by simp [Value.category]) (Nat.le_of_ble_eq_true rfl) rfl ?_
  intro Γ C I
  refine sg_iln (pc := 0) C d_S_fail_0 rfl ?_
  refine sg_bi (pc := 1) (v := 12) C d_S_fail_1 (by decide) ?_
  refine sm_callS (pc := 3) (As := [.int (nI n), .int (nI 12)]) C I (c_S_checkIndex l Ω (by omega) (by decide)) cw_S_63 sw_S_checkIndex rfl (by decide) ⟨by decide, by decide⟩ rfl (Nat.le_of_ble_eq_true rfl) d_S_fail_3 (sm_det_v ?_)
  refine sg_aln (pc := 6) C d_S_fail_6 rfl ?_
  refine sg_iln (pc := 7) C d_S_fail_7 rfl ?_
  refine sm_callV (pc := 8) (As := [.int (nI n)]) C I (c_S_checkLive l Ω hf hn hs) cw_S_146 iw_S_checkLive (C.1.2.2.2.2 _ (List.mem_cons_of_mem _ se_S_checkLive)) (by omega) rfl rfl rfl rfl (by decide) ⟨by decide, by decide⟩ rfl (Nat.le_of_ble_eq_true rfl) d_S_fail_8 (sm_det_v ?_)
  refine sg_aln (pc := 11) C d_S_fail_11 rfl ?_
  refine sg_getr (pc := 12) C fw_S_25 (by omega) rfl rfl rfl d_S_fail_12 ?_
  refine sg_iln (pc := 15) C d_S_fail_15 rfl ?_
  refine sg_aald (pc := 16) (n := 12) (t := 4) C (by omega) rfl (by decide) rfl rfl (by omega) (by decide) (rf_nodes (by omega)) d_S_fail_16 ?_
  refine sg_ic (pc := 17) (v := 0) C d_S_fail_17 (by decide) ?_
  refine sg_puti (pc := 18) C pw_S_149 (by omega) (sh_N (by omega)) rfl (sn_b (by omega)) (sn_bf (by omega)) d_S_fail_18 ?_
  exact sg_vret (pc := 21) C I rfl d_S_fail_21 ⟨rfl, rfl, rfl⟩

set_option maxHeartbeats 4000000 in
set_option maxRecDepth 100000 in
theorem x_S_fail1 (l : Launch) (hl : l.stackTraces = false) (Ω : sm_Ω) {X : sm_X} {w : Nat → Nat → Nat} {x : Int32} (hx : x < 0 ∨ nI 12 ≤ x) : sm_thr l Ω y_S_fail b_S_fail 2 none 7 [.ref (Ω.2.1 + 0), .int x] X (sm_rf w) eIO := by
  refine sm_introX (own := RX6) (L := [some (.ref (Ω.2.1 + 0)), some (.int x)]) (by decide) rfl (by simp [Value.category]) (Nat.le_of_ble_eq_true rfl) rfl ?_
  intro Γ C J
  refine sg_iln (pc := 0) C d_S_fail_0 rfl ?_
  refine sg_bi (pc := 1) (v := 12) C d_S_fail_1 (by decide) ?_
  exact sm_callSX (pc := 3) (As := [.int x, .int (nI 12)]) C J (x_S_checkIndex l hl Ω hx) cw_S_63 sw_S_checkIndex rfl (by decide) rfl (Nat.le_of_ble_eq_true rfl) d_S_fail_3

set_option maxHeartbeats 4000000 in
set_option maxRecDepth 100000 in
theorem x_S_fail2 (l : Launch) (hl : l.stackTraces = false) (Ω : sm_Ω) {X : sm_X} {w : Nat → Nat → Nat} (hf : swf X w) {n : Nat} (hn : n < 12) (hs : X (79 + 51 * n) 3 = 0) : sm_thr l Ω y_S_fail b_S_fail 2 none 7 [.ref (Ω.2.1 + 0), .int (nI n)] X (sm_rf w) eIS := by
  refine sm_introX (own := RX6) (L := [some (.ref (Ω.2.1 + 0)), some (.int (nI n))]) (by decide) rfl (by simp [Value.category]) (Nat.le_of_ble_eq_true rfl) rfl ?_
  intro Γ C J
  refine sg_iln (pc := 0) C d_S_fail_0 rfl ?_
  refine sg_bi (pc := 1) (v := 12) C d_S_fail_1 (by decide) ?_
  refine sm_callS (pc := 3) (As := [.int (nI n), .int (nI 12)]) C J (c_S_checkIndex l Ω (by omega) (by decide)) cw_S_63 sw_S_checkIndex rfl (by decide) ⟨by decide, by decide⟩ rfl (Nat.le_of_ble_eq_true rfl) d_S_fail_3 (sm_det_v ?_)
  refine sg_aln (pc := 6) C d_S_fail_6 rfl ?_
  refine sg_iln (pc := 7) C d_S_fail_7 rfl ?_
  exact sm_callVX (pc := 8) (As := [.int (nI n)]) C J (x_S_checkLive l hl Ω hf hn hs) cw_S_146 iw_S_checkLive (C.1.2.2.2.2 _ (List.mem_cons_of_mem _ se_S_checkLive)) (by omega) rfl rfl rfl rfl (by decide) rfl (Nat.le_of_ble_eq_true rfl) d_S_fail_8

set_option maxHeartbeats 4000000 in
set_option maxRecDepth 100000 in
theorem c_S_back0 (l : Launch) (Ω : sm_Ω) {X : sm_X} {w : Nat → Nat → Nat} (hf : swf X w) {n : Nat} (hn : n < 12) (hs : X (79 + 51 * n) 3 = 0) : sm_met l Ω y_S_back b_S_back 3 none 3 723 [.ref (Ω.2.1 + 0), .int (nI n), .int (nI 0)] X (sm_rf w) (sm_det none (nb X w n 0 12) (sm_rf w)) := by
  refine sm_intro (own := RX6) (L := [some (.ref (Ω.2.1 + 0)), some (.int (nI n)), some (.int (nI 0))]) (by decide) rfl (by simp [Value.category]) (Nat.le_of_ble_eq_true rfl) rfl ?_
  intro Γ C I
  refine sg_iln (pc := 0) C d_S_back_0 rfl ?_
  refine sg_bi (pc := 1) (v := 12) C d_S_back_1 (by decide) ?_
  refine sm_callS (pc := 3) (As := [.int (nI n), .int (nI 12)]) C I (c_S_checkIndex l Ω (by omega) (by decide)) cw_S_63 sw_S_checkIndex rfl (by decide) ⟨by decide, by decide⟩ rfl (Nat.le_of_ble_eq_true rfl) d_S_back_3 (sm_det_v ?_)
  refine sg_aln (pc := 6) C d_S_back_6 rfl ?_
  refine sg_getr (pc := 7) C fw_S_25 (by omega) rfl rfl rfl d_S_back_7 ?_
  refine sg_iln (pc := 10) C d_S_back_10 rfl ?_
  refine sg_aald (pc := 11) (n := 12) (t := 4) C (by omega) rfl (by decide) rfl rfl (by omega) (by decide) (rf_nodes (by omega)) d_S_back_11 ?_
  refine sg_geti (pc := 12) C fw_S_149 (by omega) (sh_N (by omega)) rfl d_S_back_12 ?_
  refine sg_ifeq (pc := 15) (tgt := 26) C d_S_back_15 (by decide) (by omega) (fun h15 => ?_) (fun h15 => absurd hs h15)
  refine sg_aln (pc := 26) C d_S_back_26 rfl ?_
  refine sg_getr (pc := 27) C fw_S_25 (by omega) rfl rfl rfl d_S_back_27 ?_
  refine sg_iln (pc := 30) C d_S_back_30 rfl ?_
  refine sg_aald (pc := 31) (n := 12) (t := 4) C (by omega) rfl (by decide) rfl rfl (by omega) (by decide) (rf_nodes (by omega)) d_S_back_31 ?_
  refine sg_iln (pc := 32) C d_S_back_32 rfl ?_
  refine sm_callV (pc := 33) (As := [.int (nI 0)]) C I (c_N_comeBack0 l Ω hf.1 hn) cw_S_152 iw_N_comeBack (C.1.2.2.2.2 _ (List.mem_cons_of_mem _ se_N_comeBack)) (by omega) (sh_N (by omega)) rfl rfl rfl (by decide) ⟨by decide, by decide⟩ rfl (Nat.le_of_ble_eq_true rfl) d_S_back_33 (sm_det_v ?_)
  exact sg_vret (pc := 36) C I rfl d_S_back_36 ⟨rfl, rfl, rfl⟩

set_option maxHeartbeats 4000000 in
set_option maxRecDepth 100000 in
theorem c_S_back1 (l : Launch) (Ω : sm_Ω) {X : sm_X} {w : Nat → Nat → Nat} (hf : swf X w) {n : Nat} (hn : n < 12) (hs : X (79 + 51 * n) 3 = 0) : sm_met l Ω y_S_back b_S_back 3 none 3 723 [.ref (Ω.2.1 + 0), .int (nI n), .int (nI 1)] X (sm_rf w) (sm_det none (nb X w n 1 12) (sm_rf w)) := by
  refine sm_intro (own := RX6) (L := [some (.ref (Ω.2.1 + 0)), some (.int (nI n)), some (.int (nI 1))]) (by decide) rfl (by simp [Value.category]) (Nat.le_of_ble_eq_true rfl) rfl ?_
  intro Γ C I
  refine sg_iln (pc := 0) C d_S_back_0 rfl ?_
  refine sg_bi (pc := 1) (v := 12) C d_S_back_1 (by decide) ?_
  refine sm_callS (pc := 3) (As := [.int (nI n), .int (nI 12)]) C I (c_S_checkIndex l Ω (by omega) (by decide)) cw_S_63 sw_S_checkIndex rfl (by decide) ⟨by decide, by decide⟩ rfl (Nat.le_of_ble_eq_true rfl) d_S_back_3 (sm_det_v ?_)
  refine sg_aln (pc := 6) C d_S_back_6 rfl ?_
  refine sg_getr (pc := 7) C fw_S_25 (by omega) rfl rfl rfl d_S_back_7 ?_
  refine sg_iln (pc := 10) C d_S_back_10 rfl ?_
  refine sg_aald (pc := 11) (n := 12) (t := 4) C (by omega) rfl (by decide) rfl rfl (by omega) (by decide) (rf_nodes (by omega)) d_S_back_11 ?_
  refine sg_geti (pc := 12) C fw_S_149 (by omega) (sh_N (by omega)) rfl d_S_back_12 ?_
  refine sg_ifeq (pc := 15) (tgt := 26) C d_S_back_15 (by decide) (by omega) (fun h15 => ?_) (fun h15 => absurd hs h15)
  refine sg_aln (pc := 26) C d_S_back_26 rfl ?_
  refine sg_getr (pc := 27) C fw_S_25 (by omega) rfl rfl rfl d_S_back_27 ?_
  refine sg_iln (pc := 30) C d_S_back_30 rfl ?_
  refine sg_aald (pc := 31) (n := 12) (t := 4) C (by omega) rfl (by decide) rfl rfl (by omega) (by decide) (rf_nodes (by omega)) d_S_back_31 ?_
  refine sg_iln (pc := 32) C d_S_back_32 rfl ?_
  refine sm_callV (pc := 33) (As := [.int (nI 1)]) C I (c_N_comeBack1 l Ω hf.1 hn) cw_S_152 iw_N_comeBack (C.1.2.2.2.2 _ (List.mem_cons_of_mem _ se_N_comeBack)) (by omega) (sh_N (by omega)) rfl rfl rfl (by decide) ⟨by decide, by decide⟩ rfl (Nat.le_of_ble_eq_true rfl) d_S_back_33 (sm_det_v ?_)
  exact sg_vret (pc := 36) C I rfl d_S_back_36 ⟨rfl, rfl, rfl⟩

set_option maxHeartbeats 4000000 in
set_option maxRecDepth 100000 in
theorem x_S_back1 (l : Launch) (hl : l.stackTraces = false) (Ω : sm_Ω) {X : sm_X} {w : Nat → Nat → Nat} {x z : Int32} (hx : x < 0 ∨ nI 12 ≤ x) : sm_thr l Ω y_S_back b_S_back 3 none 7 [.ref (Ω.2.1 + 0), .int x, .int z] X (sm_rf w) eIO := by
  refine sm_introX (own := RX6) (L := [some (.ref (Ω.2.1 + 0)), some (.int x), some (.int z)]) (by decide) rfl (by simp [Value.category]) (Nat.le_of_ble_eq_true rfl) rfl ?_
  intro Γ C J
  refine sg_iln (pc := 0) C d_S_back_0 rfl ?_
  refine sg_bi (pc := 1) (v := 12) C d_S_back_1 (by decide) ?_
  exact sm_callSX (pc := 3) (As := [.int x, .int (nI 12)]) C J (x_S_checkIndex l hl Ω hx) cw_S_63 sw_S_checkIndex rfl (by decide) rfl (Nat.le_of_ble_eq_true rfl) d_S_back_3

set_option maxHeartbeats 4000000 in
set_option maxRecDepth 100000 in
theorem x_S_back2 (l : Launch) (hl : l.stackTraces = false) (Ω : sm_Ω) {X : sm_X} {w : Nat → Nat → Nat} (hf : swf X w) {n : Nat} {z : Int32} (hn : n < 12) (hs : X (79 + 51 * n) 3 ≠ 0) : sm_thr l Ω y_S_back b_S_back 3 none 7 [.ref (Ω.2.1 + 0), .int (nI n), .int z] X (sm_rf w) eIS := by
  refine sm_introX (own := RX6) (L := [some (.ref (Ω.2.1 + 0)), some (.int (nI n)), some (.int z)]) (by decide) rfl (by simp [Value.category]) (Nat.le_of_ble_eq_true rfl) rfl ?_
  intro Γ C J
  have gi := hf.2.1 n hn
  refine sg_iln (pc := 0) C d_S_back_0 rfl ?_
  refine sg_bi (pc := 1) (v := 12) C d_S_back_1 (by decide) ?_
  refine sm_callS (pc := 3) (As := [.int (nI n), .int (nI 12)]) C J (c_S_checkIndex l Ω (by omega) (by decide)) cw_S_63 sw_S_checkIndex rfl (by decide) ⟨by decide, by decide⟩ rfl (Nat.le_of_ble_eq_true rfl) d_S_back_3 (sm_det_v ?_)
  refine sg_aln (pc := 6) C d_S_back_6 rfl ?_
  refine sg_getr (pc := 7) C fw_S_25 (by omega) rfl rfl rfl d_S_back_7 ?_
  refine sg_iln (pc := 10) C d_S_back_10 rfl ?_
  refine sg_aald (pc := 11) (n := 12) (t := 4) C (by omega) rfl (by decide) rfl rfl (by omega) (by decide) (rf_nodes (by omega)) d_S_back_11 ?_
  refine sg_geti (pc := 12) C fw_S_149 (by omega) (sh_N (by omega)) rfl d_S_back_12 ?_
  refine sg_ifeq (pc := 15) (tgt := 26) C d_S_back_15 (by decide) (by omega) (fun h15 => absurd h15 hs) (fun h15 => ?_)
  exact sg_throw (pc := 18) C J hl tw_S_104 d_S_back_18 d_S_back_21 d_S_back_22 d_S_back_25 (by decide) rfl (Nat.le_of_ble_eq_true rfl)

set_option maxHeartbeats 4000000 in
set_option maxRecDepth 100000 in
theorem c_S_node (l : Launch) (Ω : sm_Ω) {X : sm_X} {w : Nat → Nat → Nat} (hf : swf X w) {n q : Nat} (hn : n < 12) (hq : q < 4) : sm_met l Ω y_S_node b_S_node 3 (some .int) 3 723 [.ref (Ω.2.1 + 0), .int (nI n), .int (nI q)] X (sm_rf w) (sm_det (some (.int (nI (if q = 0 then X (79 + 51 * n) 3 else if q = 1 then X (79 + 51 * n) 4 else if q = 2 then sm_n (fun k => sfr X w n k) 12 else sm_n (fun k => decide (X (82 + 51 * n + 4 * k + 2 * (1 - w n k)) 0 ≠ 0)) 12)))) X (sm_rf w)) := by
  refine sm_intro (own := RX6) (L := [some (.ref (Ω.2.1 + 0)), some (.int (nI n)), some (.int (nI q))]) (by decide) rfl (by simp [Value.category]) (Nat.le_of_ble_eq_true rfl) rfl ?_
  intro Γ C I
  have gi := hf.2.1 n hn
  refine sg_iln (pc := 0) C d_S_node_0 rfl ?_
  refine sg_bi (pc := 1) (v := 12) C d_S_node_1 (by decide) ?_
  refine sm_callS (pc := 3) (As := [.int (nI n), .int (nI 12)]) C I (c_S_checkIndex l Ω (by omega) (by decide)) cw_S_63 sw_S_checkIndex rfl (by decide) ⟨by decide, by decide⟩ rfl (Nat.le_of_ble_eq_true rfl) d_S_node_3 (sm_det_v ?_)
  refine sg_iln (pc := 6) C d_S_node_6 rfl ?_
  refine sg_ic (pc := 7) (v := 4) C d_S_node_7 (by decide) ?_
  refine sm_callS (pc := 8) (As := [.int (nI q), .int (nI 4)]) C I (c_S_checkIndex l Ω (by omega) (by decide)) cw_S_63 sw_S_checkIndex rfl (by decide) ⟨by decide, by decide⟩ rfl (Nat.le_of_ble_eq_true rfl) d_S_node_8 (sm_det_v ?_)
  refine sg_iln (pc := 11) C d_S_node_11 rfl ?_
  refine sg_ifne (pc := 12) (tgt := 33) C d_S_node_12 (by decide) (by omega) (fun h12 => ?_) (fun h12 => ?_)
  · refine sg_iln (pc := 33) C d_S_node_33 rfl ?_
    refine sg_ic (pc := 34) (v := 1) C d_S_node_34 (by decide) ?_
    refine sg_icne (pc := 35) (tgt := 48) C d_S_node_35 (by decide) (by omega) (by omega) (fun h35 => ?_) (fun h35 => ?_)
    · refine sg_iln (pc := 48) C d_S_node_48 rfl ?_
      refine sg_ic (pc := 49) (v := 2) C d_S_node_49 (by decide) ?_
      refine sg_icne (pc := 50) (tgt := 61) C d_S_node_50 (by decide) (by omega) (by omega) (fun h50 => ?_) (fun h50 => ?_)
      · refine sg_aln (pc := 61) C d_S_node_61 rfl ?_
        refine sg_getr (pc := 62) C fw_S_25 (by omega) rfl rfl rfl d_S_node_62 ?_
        refine sg_iln (pc := 65) C d_S_node_65 rfl ?_
        refine sg_aald (pc := 66) (n := 12) (t := 4) C (by omega) rfl (by decide) rfl rfl (by omega) (by decide) (rf_nodes (by omega)) d_S_node_66 ?_
        refine sm_callV (pc := 67) (As := []) C I (c_N_countShadows l Ω hf.1 hn (fun k hk => by have := hf.2.2.2 n k (1 - w n k) hn hk (by omega); omega)) cw_S_171 iw_N_countShadows (C.1.2.2.2.2 _ (List.mem_cons_of_mem _ se_N_countShadows)) (by omega) (sh_N (by omega)) rfl rfl rfl (by decide) ⟨by decide, by decide⟩ rfl (Nat.le_of_ble_eq_true rfl) d_S_node_67 (sm_det_i ?_)
        exact sg_iret (pc := 70) C I rfl rfl d_S_node_70 ⟨by rw [if_neg h12, if_neg h35, if_neg h50], rfl, rfl⟩
      · refine sg_aln (pc := 53) C d_S_node_53 rfl ?_
        refine sg_iln (pc := 54) C d_S_node_54 rfl ?_
        refine sm_callV (pc := 55) (As := [.int (nI n)]) C I (c_S_countFresh l Ω hf hn) cw_S_168 iw_S_countFresh (C.1.2.2.2.2 _ (List.mem_cons_of_mem _ se_S_countFresh)) (by omega) rfl rfl rfl rfl (by decide) ⟨by decide, by decide⟩ rfl (Nat.le_of_ble_eq_true rfl) d_S_node_55 (sm_det_i ?_)
        refine sg_goto (pc := 58) (tgt := 70) C d_S_node_58 (by decide) ?_
        exact sg_iret (pc := 70) C I rfl rfl d_S_node_70 ⟨by rw [if_neg h12, if_neg h35, if_pos h50], rfl, rfl⟩
    · refine sg_aln (pc := 38) C d_S_node_38 rfl ?_
      refine sg_getr (pc := 39) C fw_S_25 (by omega) rfl rfl rfl d_S_node_39 ?_
      refine sg_iln (pc := 42) C d_S_node_42 rfl ?_
      refine sg_aald (pc := 43) (n := 12) (t := 4) C (by omega) rfl (by decide) rfl rfl (by omega) (by decide) (rf_nodes (by omega)) d_S_node_43 ?_
      refine sg_geti (pc := 44) C fw_S_165 (by omega) (sh_N (by omega)) rfl d_S_node_44 ?_
      exact sg_iret (pc := 47) C I rfl rfl d_S_node_47 ⟨by rw [if_neg h12, if_pos h35], rfl, rfl⟩
  · refine sg_aln (pc := 15) C d_S_node_15 rfl ?_
    refine sg_getr (pc := 16) C fw_S_25 (by omega) rfl rfl rfl d_S_node_16 ?_
    refine sg_iln (pc := 19) C d_S_node_19 rfl ?_
    refine sg_aald (pc := 20) (n := 12) (t := 4) C (by omega) rfl (by decide) rfl rfl (by omega) (by decide) (rf_nodes (by omega)) d_S_node_20 ?_
    refine sg_geti (pc := 21) C fw_S_149 (by omega) (sh_N (by omega)) rfl d_S_node_21 ?_
    refine sg_ifeq (pc := 24) (tgt := 31) C d_S_node_24 (by decide) (by omega) (fun h24 => ?_) (fun h24 => ?_)
    · refine sg_ic (pc := 31) (v := 0) C d_S_node_31 (by decide) ?_
      exact sg_iret (pc := 32) C I rfl rfl d_S_node_32 ⟨by rw [if_pos h12, h24], rfl, rfl⟩
    · refine sg_ic (pc := 27) (v := 1) C d_S_node_27 (by decide) ?_
      refine sg_goto (pc := 28) (tgt := 32) C d_S_node_28 (by decide) ?_
      exact sg_iret (pc := 32) C I rfl rfl d_S_node_32 ⟨by rw [if_pos h12, show X (79 + 51 * n) 3 = 1 by omega], rfl, rfl⟩

set_option maxHeartbeats 4000000 in
set_option maxRecDepth 100000 in
theorem x_S_node1 (l : Launch) (hl : l.stackTraces = false) (Ω : sm_Ω) {X : sm_X} {w : Nat → Nat → Nat} {x z : Int32} (hx : x < 0 ∨ nI 12 ≤ x) : sm_thr l Ω y_S_node b_S_node 3 (some .int) 7 [.ref (Ω.2.1 + 0), .int x, .int z] X (sm_rf w) eIO := by
  refine sm_introX (own := RX6) (L := [some (.ref (Ω.2.1 + 0)), some (.int x), some (.int z)]) (by decide) rfl (by simp [Value.category]) (Nat.le_of_ble_eq_true rfl) rfl ?_
  intro Γ C J
  refine sg_iln (pc := 0) C d_S_node_0 rfl ?_
  refine sg_bi (pc := 1) (v := 12) C d_S_node_1 (by decide) ?_
  exact sm_callSX (pc := 3) (As := [.int x, .int (nI 12)]) C J (x_S_checkIndex l hl Ω hx) cw_S_63 sw_S_checkIndex rfl (by decide) rfl (Nat.le_of_ble_eq_true rfl) d_S_node_3

set_option maxHeartbeats 4000000 in
set_option maxRecDepth 100000 in
theorem x_S_node2 (l : Launch) (hl : l.stackTraces = false) (Ω : sm_Ω) {X : sm_X} {w : Nat → Nat → Nat} {n : Nat} {x : Int32} (hn : n < 12) (hx : x < 0 ∨ nI 4 ≤ x) : sm_thr l Ω y_S_node b_S_node 3 (some .int) 7 [.ref (Ω.2.1 + 0), .int (nI n), .int x] X (sm_rf w) eIO := by
  refine sm_introX (own := RX6) (L := [some (.ref (Ω.2.1 + 0)), some (.int (nI n)), some (.int x)]) (by decide) rfl (by simp [Value.category]) (Nat.le_of_ble_eq_true rfl) rfl ?_
  intro Γ C J
  refine sg_iln (pc := 0) C d_S_node_0 rfl ?_
  refine sg_bi (pc := 1) (v := 12) C d_S_node_1 (by decide) ?_
  refine sm_callS (pc := 3) (As := [.int (nI n), .int (nI 12)]) C J (c_S_checkIndex l Ω (by omega) (by decide)) cw_S_63 sw_S_checkIndex rfl (by decide) ⟨by decide, by decide⟩ rfl (Nat.le_of_ble_eq_true rfl) d_S_node_3 (sm_det_v ?_)
  refine sg_iln (pc := 6) C d_S_node_6 rfl ?_
  refine sg_ic (pc := 7) (v := 4) C d_S_node_7 (by decide) ?_
  exact sm_callSX (pc := 8) (As := [.int x, .int (nI 4)]) C J (x_S_checkIndex l hl Ω hx) cw_S_63 sw_S_checkIndex rfl (by decide) rfl (Nat.le_of_ble_eq_true rfl) d_S_node_8

set_option maxHeartbeats 4000000 in
set_option maxRecDepth 100000 in
theorem c_S_share (l : Launch) (Ω : sm_Ω) {X : sm_X} {w : Nat → Nat → Nat} (hf : swf X w) {n o q : Nat} (hn : n < 12) (ho : o < 12) (hq : q < 2) : sm_met l Ω y_S_share b_S_share 5 (some .int) 2 723 [.ref (Ω.2.1 + 0), .int (nI n), .int (nI o), .int (nI q)] X (sm_rf w) (sm_det (some (.int (nI (if q = 0 then X (82 + 51 * n + 4 * o + 2 * w n o) 0 else X (82 + 51 * n + 4 * o + 2 * w n o) 1)))) X (sm_rf w)) := by
  refine sm_intro (own := RX6) (L := [some (.ref (Ω.2.1 + 0)), some (.int (nI n)), some (.int (nI o)), some (.int (nI q)), none]) (by decide) rfl (by simp [Value.category]) (Nat.le_of_ble_eq_true rfl) rfl ?_
  intro Γ C I
  have hw := hf.1
  have hwn := hw n o
  refine sg_iln (pc := 0) C d_S_share_0 rfl ?_
  refine sg_bi (pc := 1) (v := 12) C d_S_share_1 (by decide) ?_
  refine sm_callS (pc := 3) (As := [.int (nI n), .int (nI 12)]) C I (c_S_checkIndex l Ω (by omega) (by decide)) cw_S_63 sw_S_checkIndex rfl (by decide) ⟨by decide, by decide⟩ rfl (Nat.le_of_ble_eq_true rfl) d_S_share_3 (sm_det_v ?_)
  refine sg_iln (pc := 6) C d_S_share_6 rfl ?_
  refine sg_bi (pc := 7) (v := 12) C d_S_share_7 (by decide) ?_
  refine sm_callS (pc := 9) (As := [.int (nI o), .int (nI 12)]) C I (c_S_checkIndex l Ω (by omega) (by decide)) cw_S_63 sw_S_checkIndex rfl (by decide) ⟨by decide, by decide⟩ rfl (Nat.le_of_ble_eq_true rfl) d_S_share_9 (sm_det_v ?_)
  refine sg_iln (pc := 12) C d_S_share_12 rfl ?_
  refine sg_ic (pc := 13) (v := 2) C d_S_share_13 (by decide) ?_
  refine sm_callS (pc := 14) (As := [.int (nI q), .int (nI 2)]) C I (c_S_checkIndex l Ω (by omega) (by decide)) cw_S_63 sw_S_checkIndex rfl (by decide) ⟨by decide, by decide⟩ rfl (Nat.le_of_ble_eq_true rfl) d_S_share_14 (sm_det_v ?_)
  refine sg_aln (pc := 17) C d_S_share_17 rfl ?_
  refine sg_getr (pc := 18) C fw_S_25 (by omega) rfl rfl rfl d_S_share_18 ?_
  refine sg_iln (pc := 21) C d_S_share_21 rfl ?_
  refine sg_aald (pc := 22) (n := 12) (t := 4) C (by omega) rfl (by decide) rfl rfl (by omega) (by decide) (rf_nodes (by omega)) d_S_share_22 ?_
  refine sg_getr (pc := 23) C fw_S_174 (by omega) (sh_N (by omega)) rfl (rf_N1 (by omega)) d_S_share_23 ?_
  refine sg_iln (pc := 26) C d_S_share_26 rfl ?_
  refine sg_aald (pc := 27) (n := 12) (t := 6) C (by omega) (sh_Ns (by omega)) (by decide) rfl rfl (by omega) (by decide) (rf_Ns (by omega) (by omega)) d_S_share_27 ?_
  refine sg_as4 (pc := 28) C d_S_share_28 ?_
  refine sg_iln (pc := 30) C d_S_share_30 rfl ?_
  refine sg_ifne (pc := 31) (tgt := 42) C d_S_share_31 (by decide) (by omega) (fun h31 => ?_) (fun h31 => ?_)
  · refine sg_al (pc := 42) C d_S_share_42 rfl ?_
    refine sg_geti (pc := 44) C fw_S_183 (by omega) (sh_S (by omega) (by omega) (hw _ _)) rfl d_S_share_44 ?_
    exact sg_iret (pc := 47) C I rfl rfl d_S_share_47 ⟨by rw [if_neg h31], rfl, rfl⟩
  · refine sg_al (pc := 34) C d_S_share_34 rfl ?_
    refine sg_geti (pc := 36) C fw_S_178 (by omega) (sh_S (by omega) (by omega) (hw _ _)) rfl d_S_share_36 ?_
    refine sg_goto (pc := 39) (tgt := 47) C d_S_share_39 (by decide) ?_
    exact sg_iret (pc := 47) C I rfl rfl d_S_share_47 ⟨by rw [if_pos h31], rfl, rfl⟩

set_option maxHeartbeats 4000000 in
set_option maxRecDepth 100000 in
theorem x_S_share1 (l : Launch) (hl : l.stackTraces = false) (Ω : sm_Ω) {X : sm_X} {w : Nat → Nat → Nat} {x z u : Int32} (hx : x < 0 ∨ nI 12 ≤ x) : sm_thr l Ω y_S_share b_S_share 5 (some .int) 7 [.ref (Ω.2.1 + 0), .int x, .int z, .int u] X (sm_rf w) eIO := by
  refine sm_introX (own := RX6) (L := [some (.ref (Ω.2.1 + 0)), some (.int x), some (.int z), some (.int u), none]) (by decide) rfl (by simp [Value.category]) (Nat.le_of_ble_eq_true rfl) rfl ?_
  intro Γ C J
  refine sg_iln (pc := 0) C d_S_share_0 rfl ?_
  refine sg_bi (pc := 1) (v := 12) C d_S_share_1 (by decide) ?_
  exact sm_callSX (pc := 3) (As := [.int x, .int (nI 12)]) C J (x_S_checkIndex l hl Ω hx) cw_S_63 sw_S_checkIndex rfl (by decide) rfl (Nat.le_of_ble_eq_true rfl) d_S_share_3

set_option maxHeartbeats 4000000 in
set_option maxRecDepth 100000 in
theorem x_S_share2 (l : Launch) (hl : l.stackTraces = false) (Ω : sm_Ω) {X : sm_X} {w : Nat → Nat → Nat} {n : Nat} {x u : Int32} (hn : n < 12) (hx : x < 0 ∨ nI 12 ≤ x) : sm_thr l Ω y_S_share b_S_share 5 (some .int) 7 [.ref (Ω.2.1 + 0), .int (nI n), .int x, .int u] X (sm_rf w) eIO := by
  refine sm_introX (own := RX6) (L := [some (.ref (Ω.2.1 + 0)), some (.int (nI n)), some (.int x), some (.int u), none]) (by decide) rfl (by simp [Value.category]) (Nat.le_of_ble_eq_true rfl) rfl ?_
  intro Γ C J
  refine sg_iln (pc := 0) C d_S_share_0 rfl ?_
  refine sg_bi (pc := 1) (v := 12) C d_S_share_1 (by decide) ?_
  refine sm_callS (pc := 3) (As := [.int (nI n), .int (nI 12)]) C J (c_S_checkIndex l Ω (by omega) (by decide)) cw_S_63 sw_S_checkIndex rfl (by decide) ⟨by decide, by decide⟩ rfl (Nat.le_of_ble_eq_true rfl) d_S_share_3 (sm_det_v ?_)
  refine sg_iln (pc := 6) C d_S_share_6 rfl ?_
  refine sg_bi (pc := 7) (v := 12) C d_S_share_7 (by decide) ?_
  exact sm_callSX (pc := 9) (As := [.int x, .int (nI 12)]) C J (x_S_checkIndex l hl Ω hx) cw_S_63 sw_S_checkIndex rfl (by decide) rfl (Nat.le_of_ble_eq_true rfl) d_S_share_9

set_option maxHeartbeats 4000000 in
set_option maxRecDepth 100000 in
theorem x_S_share3 (l : Launch) (hl : l.stackTraces = false) (Ω : sm_Ω) {X : sm_X} {w : Nat → Nat → Nat} {n o : Nat} {x : Int32} (hn : n < 12) (ho : o < 12) (hx : x < 0 ∨ nI 2 ≤ x) : sm_thr l Ω y_S_share b_S_share 5 (some .int) 7 [.ref (Ω.2.1 + 0), .int (nI n), .int (nI o), .int x] X (sm_rf w) eIO := by
  refine sm_introX (own := RX6) (L := [some (.ref (Ω.2.1 + 0)), some (.int (nI n)), some (.int (nI o)), some (.int x), none]) (by decide) rfl (by simp [Value.category]) (Nat.le_of_ble_eq_true rfl) rfl ?_
  intro Γ C J
  refine sg_iln (pc := 0) C d_S_share_0 rfl ?_
  refine sg_bi (pc := 1) (v := 12) C d_S_share_1 (by decide) ?_
  refine sm_callS (pc := 3) (As := [.int (nI n), .int (nI 12)]) C J (c_S_checkIndex l Ω (by omega) (by decide)) cw_S_63 sw_S_checkIndex rfl (by decide) ⟨by decide, by decide⟩ rfl (Nat.le_of_ble_eq_true rfl) d_S_share_3 (sm_det_v ?_)
  refine sg_iln (pc := 6) C d_S_share_6 rfl ?_
  refine sg_bi (pc := 7) (v := 12) C d_S_share_7 (by decide) ?_
  refine sm_callS (pc := 9) (As := [.int (nI o), .int (nI 12)]) C J (c_S_checkIndex l Ω (by omega) (by decide)) cw_S_63 sw_S_checkIndex rfl (by decide) ⟨by decide, by decide⟩ rfl (Nat.le_of_ble_eq_true rfl) d_S_share_9 (sm_det_v ?_)
  refine sg_iln (pc := 12) C d_S_share_12 rfl ?_
  refine sg_ic (pc := 13) (v := 2) C d_S_share_13 (by decide) ?_
  exact sm_callSX (pc := 14) (As := [.int x, .int (nI 2)]) C J (x_S_checkIndex l hl Ω hx) cw_S_63 sw_S_checkIndex rfl (by decide) rfl (Nat.le_of_ble_eq_true rfl) d_S_share_14

set_option maxHeartbeats 4000000 in
set_option maxRecDepth 100000 in
theorem c_S_byteAt (l : Launch) (Ω : sm_Ω) {X : sm_X} {w : Nat → Nat → Nat} (hf : swf X w) {n o i : Nat} (hn : n < 12) (ho : o < 12) (hi : i < (8 * ((X (82 + 51 * n + 4 * o + 2 * w n o) 1 + 29) / 30))) : sm_met l Ω y_S_byteAt b_S_byteAt 5 (some .int) 2 723 [.ref (Ω.2.1 + 0), .int (nI n), .int (nI o), .int (nI i)] X (sm_rf w) (sm_det (some (.int (nI (X (83 + 51 * n + 4 * o + 2 * w n o) i)))) X (sm_rf w)) := by
  refine sm_intro (own := RX6) (L := [some (.ref (Ω.2.1 + 0)), some (.int (nI n)), some (.int (nI o)), some (.int (nI i)), none]) (by decide) rfl (by simp [Value.category]) (Nat.le_of_ble_eq_true rfl) rfl ?_
  intro Γ C I
  have hw := hf.1
  have hwn := hw n o
  have g1 := hf.2.2.2 n o (w n o) hn ho hwn
  refine sg_iln (pc := 0) C d_S_byteAt_0 rfl ?_
  refine sg_bi (pc := 1) (v := 12) C d_S_byteAt_1 (by decide) ?_
  refine sm_callS (pc := 3) (As := [.int (nI n), .int (nI 12)]) C I (c_S_checkIndex l Ω (by omega) (by decide)) cw_S_63 sw_S_checkIndex rfl (by decide) ⟨by decide, by decide⟩ rfl (Nat.le_of_ble_eq_true rfl) d_S_byteAt_3 (sm_det_v ?_)
  refine sg_iln (pc := 6) C d_S_byteAt_6 rfl ?_
  refine sg_bi (pc := 7) (v := 12) C d_S_byteAt_7 (by decide) ?_
  refine sm_callS (pc := 9) (As := [.int (nI o), .int (nI 12)]) C I (c_S_checkIndex l Ω (by omega) (by decide)) cw_S_63 sw_S_checkIndex rfl (by decide) ⟨by decide, by decide⟩ rfl (Nat.le_of_ble_eq_true rfl) d_S_byteAt_9 (sm_det_v ?_)
  refine sg_aln (pc := 12) C d_S_byteAt_12 rfl ?_
  refine sg_getr (pc := 13) C fw_S_25 (by omega) rfl rfl rfl d_S_byteAt_13 ?_
  refine sg_iln (pc := 16) C d_S_byteAt_16 rfl ?_
  refine sg_aald (pc := 17) (n := 12) (t := 4) C (by omega) rfl (by decide) rfl rfl (by omega) (by decide) (rf_nodes (by omega)) d_S_byteAt_17 ?_
  refine sg_getr (pc := 18) C fw_S_174 (by omega) (sh_N (by omega)) rfl (rf_N1 (by omega)) d_S_byteAt_18 ?_
  refine sg_iln (pc := 21) C d_S_byteAt_21 rfl ?_
  refine sg_aald (pc := 22) (n := 12) (t := 6) C (by omega) (sh_Ns (by omega)) (by decide) rfl rfl (by omega) (by decide) (rf_Ns (by omega) (by omega)) d_S_byteAt_22 ?_
  refine sg_as4 (pc := 23) C d_S_byteAt_23 ?_
  refine sg_iln (pc := 25) C d_S_byteAt_25 rfl ?_
  refine sg_bi (pc := 26) (v := 8) C d_S_byteAt_26 (by decide) ?_
  refine sg_al (pc := 28) C d_S_byteAt_28 rfl ?_
  refine sg_geti (pc := 30) C fw_S_183 (by omega) (sh_S (by omega) (by omega) (hw _ _)) rfl d_S_byteAt_30 ?_
  refine sm_callS (pc := 33) (As := [.int (nI (X (82 + 51 * n + 4 * o + 2 * w n o) 1))]) C I (c_S_stripesOf l Ω (by omega)) cw_S_184 sw_S_stripesOf rfl (by decide) ⟨by decide, by decide⟩ rfl (Nat.le_of_ble_eq_true rfl) d_S_byteAt_33 (sm_det_i ?_)
  refine sg_mul (pc := 36) C d_S_byteAt_36 ?_
  refine sm_callS (pc := 37) (As := [.int (nI i), .int (nI (8 * ((X (82 + 51 * n + 4 * o + 2 * w n o) 1 + 29) / 30)))]) C I (c_S_checkIndex l Ω hi (by omega)) cw_S_63 sw_S_checkIndex rfl (by decide) ⟨by decide, by decide⟩ rfl (Nat.le_of_ble_eq_true rfl) d_S_byteAt_37 (sm_det_v ?_)
  refine sg_al (pc := 40) C d_S_byteAt_40 rfl ?_
  refine sg_getr (pc := 42) C fw_S_187 (by omega) (sh_S (by omega) (by omega) (hw _ _)) rfl (rf_S2 (by omega) (by omega) (hw _ _)) d_S_byteAt_42 ?_
  refine sg_iln (pc := 45) C d_S_byteAt_45 rfl ?_
  refine sg_iald (pc := 46) (n := 64) C (by omega) (sh_Sb (by omega) (by omega) (hw _ _)) (by omega) (by decide) d_S_byteAt_46 ?_
  exact sg_iret (pc := 47) C I rfl rfl d_S_byteAt_47 ⟨rfl, rfl, rfl⟩

set_option maxHeartbeats 4000000 in
set_option maxRecDepth 100000 in
theorem x_S_byteAt1 (l : Launch) (hl : l.stackTraces = false) (Ω : sm_Ω) {X : sm_X} {w : Nat → Nat → Nat} {x z u : Int32} (hx : x < 0 ∨ nI 12 ≤ x) : sm_thr l Ω y_S_byteAt b_S_byteAt 5 (some .int) 7 [.ref (Ω.2.1 + 0), .int x, .int z, .int u] X (sm_rf w) eIO := by
  refine sm_introX (own := RX6) (L := [some (.ref (Ω.2.1 + 0)), some (.int x), some (.int z), some (.int u), none]) (by decide) rfl (by simp [Value.category]) (Nat.le_of_ble_eq_true rfl) rfl ?_
  intro Γ C J
  refine sg_iln (pc := 0) C d_S_byteAt_0 rfl ?_
  refine sg_bi (pc := 1) (v := 12) C d_S_byteAt_1 (by decide) ?_
  exact sm_callSX (pc := 3) (As := [.int x, .int (nI 12)]) C J (x_S_checkIndex l hl Ω hx) cw_S_63 sw_S_checkIndex rfl (by decide) rfl (Nat.le_of_ble_eq_true rfl) d_S_byteAt_3

set_option maxHeartbeats 4000000 in
set_option maxRecDepth 100000 in
theorem x_S_byteAt2 (l : Launch) (hl : l.stackTraces = false) (Ω : sm_Ω) {X : sm_X} {w : Nat → Nat → Nat} {n : Nat} {x u : Int32} (hn : n < 12) (hx : x < 0 ∨ nI 12 ≤ x) : sm_thr l Ω y_S_byteAt b_S_byteAt 5 (some .int) 7 [.ref (Ω.2.1 + 0), .int (nI n), .int x, .int u] X (sm_rf w) eIO := by
  refine sm_introX (own := RX6) (L := [some (.ref (Ω.2.1 + 0)), some (.int (nI n)), some (.int x), some (.int u), none]) (by decide) rfl (by simp [Value.category]) (Nat.le_of_ble_eq_true rfl) rfl ?_
  intro Γ C J
  refine sg_iln (pc := 0) C d_S_byteAt_0 rfl ?_
  refine sg_bi (pc := 1) (v := 12) C d_S_byteAt_1 (by decide) ?_
  refine sm_callS (pc := 3) (As := [.int (nI n), .int (nI 12)]) C J (c_S_checkIndex l Ω (by omega) (by decide)) cw_S_63 sw_S_checkIndex rfl (by decide) ⟨by decide, by decide⟩ rfl (Nat.le_of_ble_eq_true rfl) d_S_byteAt_3 (sm_det_v ?_)
  refine sg_iln (pc := 6) C d_S_byteAt_6 rfl ?_
  refine sg_bi (pc := 7) (v := 12) C d_S_byteAt_7 (by decide) ?_
  exact sm_callSX (pc := 9) (As := [.int x, .int (nI 12)]) C J (x_S_checkIndex l hl Ω hx) cw_S_63 sw_S_checkIndex rfl (by decide) rfl (Nat.le_of_ble_eq_true rfl) d_S_byteAt_9

set_option maxHeartbeats 4000000 in
set_option maxRecDepth 100000 in
theorem x_S_byteAt3 (l : Launch) (hl : l.stackTraces = false) (Ω : sm_Ω) {X : sm_X} {w : Nat → Nat → Nat} (hf : swf X w) {n o : Nat} {x : Int32} (hn : n < 12) (ho : o < 12) (hx : x < 0 ∨ nI (8 * ((X (82 + 51 * n + 4 * o + 2 * w n o) 1 + 29) / 30)) ≤ x) : sm_thr l Ω y_S_byteAt b_S_byteAt 5 (some .int) 7 [.ref (Ω.2.1 + 0), .int (nI n), .int (nI o), .int x] X (sm_rf w) eIO := by
  refine sm_introX (own := RX6) (L := [some (.ref (Ω.2.1 + 0)), some (.int (nI n)), some (.int (nI o)), some (.int x), none]) (by decide) rfl (by simp [Value.category]) (Nat.le_of_ble_eq_true rfl) rfl ?_
  intro Γ C J
  have hw := hf.1
  have hwn := hw n o
  have g1 := hf.2.2.2 n o (w n o) hn ho hwn
  refine sg_iln (pc := 0) C d_S_byteAt_0 rfl ?_
  refine sg_bi (pc := 1) (v := 12) C d_S_byteAt_1 (by decide) ?_
  refine sm_callS (pc := 3) (As := [.int (nI n), .int (nI 12)]) C J (c_S_checkIndex l Ω (by omega) (by decide)) cw_S_63 sw_S_checkIndex rfl (by decide) ⟨by decide, by decide⟩ rfl (Nat.le_of_ble_eq_true rfl) d_S_byteAt_3 (sm_det_v ?_)
  refine sg_iln (pc := 6) C d_S_byteAt_6 rfl ?_
  refine sg_bi (pc := 7) (v := 12) C d_S_byteAt_7 (by decide) ?_
  refine sm_callS (pc := 9) (As := [.int (nI o), .int (nI 12)]) C J (c_S_checkIndex l Ω (by omega) (by decide)) cw_S_63 sw_S_checkIndex rfl (by decide) ⟨by decide, by decide⟩ rfl (Nat.le_of_ble_eq_true rfl) d_S_byteAt_9 (sm_det_v ?_)
  refine sg_aln (pc := 12) C d_S_byteAt_12 rfl ?_
  refine sg_getr (pc := 13) C fw_S_25 (by omega) rfl rfl rfl d_S_byteAt_13 ?_
  refine sg_iln (pc := 16) C d_S_byteAt_16 rfl ?_
  refine sg_aald (pc := 17) (n := 12) (t := 4) C (by omega) rfl (by decide) rfl rfl (by omega) (by decide) (rf_nodes (by omega)) d_S_byteAt_17 ?_
  refine sg_getr (pc := 18) C fw_S_174 (by omega) (sh_N (by omega)) rfl (rf_N1 (by omega)) d_S_byteAt_18 ?_
  refine sg_iln (pc := 21) C d_S_byteAt_21 rfl ?_
  refine sg_aald (pc := 22) (n := 12) (t := 6) C (by omega) (sh_Ns (by omega)) (by decide) rfl rfl (by omega) (by decide) (rf_Ns (by omega) (by omega)) d_S_byteAt_22 ?_
  refine sg_as4 (pc := 23) C d_S_byteAt_23 ?_
  refine sg_iln (pc := 25) C d_S_byteAt_25 rfl ?_
  refine sg_bi (pc := 26) (v := 8) C d_S_byteAt_26 (by decide) ?_
  refine sg_al (pc := 28) C d_S_byteAt_28 rfl ?_
  refine sg_geti (pc := 30) C fw_S_183 (by omega) (sh_S (by omega) (by omega) (hw _ _)) rfl d_S_byteAt_30 ?_
  refine sm_callS (pc := 33) (As := [.int (nI (X (82 + 51 * n + 4 * o + 2 * w n o) 1))]) C J (c_S_stripesOf l Ω (by omega)) cw_S_184 sw_S_stripesOf rfl (by decide) ⟨by decide, by decide⟩ rfl (Nat.le_of_ble_eq_true rfl) d_S_byteAt_33 (sm_det_i ?_)
  refine sg_mul (pc := 36) C d_S_byteAt_36 ?_
  exact sm_callSX (pc := 37) (As := [.int x, .int (nI (8 * ((X (82 + 51 * n + 4 * o + 2 * w n o) 1 + 29) / 30)))]) C J (x_S_checkIndex l hl Ω hx) cw_S_63 sw_S_checkIndex rfl (by decide) rfl (Nat.le_of_ble_eq_true rfl) d_S_byteAt_37

set_option maxHeartbeats 4000000 in
set_option maxRecDepth 100000 in
theorem c_S_field0 (l : Launch) (Ω : sm_Ω) {X : sm_X} {w : Nat → Nat → Nat} {a b : Nat} (hG : gal X) (ha : a < 256) (hb : b < 256) : sm_met l Ω y_S_field b_S_field 4 (some .int) 2 723 [.ref (Ω.2.1 + 0), .int (nI a), .int (nI b), .int (nI 0)] X (sm_rf w) (sm_det (some (.int (nI (gf_t a b)))) X (sm_rf w)) := by
  refine sm_intro (own := RX6) (L := [some (.ref (Ω.2.1 + 0)), some (.int (nI a)), some (.int (nI b)), some (.int (nI 0))]) (by decide) rfl (by simp [Value.category]) (Nat.le_of_ble_eq_true rfl) rfl ?_
  intro Γ C I
  refine sg_iln (pc := 0) C d_S_field_0 rfl ?_
  refine sg_ic (pc := 1) (v := 2) C d_S_field_1 (by decide) ?_
  refine sm_callS (pc := 2) (As := [.int (nI 0), .int (nI 2)]) C I (c_S_checkIndex l Ω (by decide) (by decide)) cw_S_63 sw_S_checkIndex rfl (by decide) ⟨by decide, by decide⟩ rfl (Nat.le_of_ble_eq_true rfl) d_S_field_2 (sm_det_v ?_)
  refine sg_iln (pc := 5) C d_S_field_5 rfl ?_
  refine sm_callS (pc := 6) (As := [.int (nI a)]) C I (c_S_isByte1 l Ω ha) cw_S_190 sw_S_isByte rfl (by decide) ⟨by decide, by decide⟩ rfl (Nat.le_of_ble_eq_true rfl) d_S_field_6 (sm_det_i ?_)
  refine sg_ifeq (pc := 9) (tgt := 28) C d_S_field_9 (by decide) (by omega) (fun h9 => absurd h9 (by decide)) (fun h9 => ?_)
  refine sg_iln (pc := 12) C d_S_field_12 rfl ?_
  refine sm_callS (pc := 13) (As := [.int (nI b)]) C I (c_S_isByte1 l Ω hb) cw_S_190 sw_S_isByte rfl (by decide) ⟨by decide, by decide⟩ rfl (Nat.le_of_ble_eq_true rfl) d_S_field_13 (sm_det_i ?_)
  refine sg_ifeq (pc := 16) (tgt := 28) C d_S_field_16 (by decide) (by omega) (fun h16 => absurd h16 (by decide)) (fun h16 => ?_)
  refine sg_iln (pc := 19) C d_S_field_19 rfl ?_
  refine sg_ic (pc := 20) (v := 1) C d_S_field_20 (by decide) ?_
  refine sg_icne (pc := 21) (tgt := 36) C d_S_field_21 (by decide) (by omega) (by omega) (fun h21 => ?_) (fun h21 => absurd h21 (by decide))
  refine sg_iln (pc := 36) C d_S_field_36 rfl ?_
  refine sg_ifne (pc := 37) (tgt := 52) C d_S_field_37 (by decide) (by omega) (fun h37 => absurd rfl h37) (fun h37 => ?_)
  refine sg_aln (pc := 40) C d_S_field_40 rfl ?_
  refine sg_getr (pc := 41) C fw_S_12 (by omega) rfl rfl rfl d_S_field_41 ?_
  refine sg_iln (pc := 44) C d_S_field_44 rfl ?_
  refine sg_iln (pc := 45) C d_S_field_45 rfl ?_
  refine sm_callV (pc := 46) (As := [.int (nI a), .int (nI b)]) C I (c_G_times l Ω hG ha hb) cw_S_194 iw_G_times (C.1.2.2.2.2 _ (List.mem_cons_of_mem _ se_G_times)) (by omega) rfl rfl rfl rfl (by decide) ⟨by decide, by decide⟩ rfl (Nat.le_of_ble_eq_true rfl) d_S_field_46 (sm_det_i ?_)
  refine sg_goto (pc := 49) (tgt := 61) C d_S_field_49 (by decide) ?_
  exact sg_iret (pc := 61) C I rfl rfl d_S_field_61 ⟨rfl, rfl, rfl⟩

set_option maxHeartbeats 4000000 in
set_option maxRecDepth 100000 in
theorem c_S_field1 (l : Launch) (Ω : sm_Ω) {X : sm_X} {w : Nat → Nat → Nat} {a b : Nat} (hG : gal X) (ha : a < 256) (hb : b < 256) (h0 : a ≠ 0) : sm_met l Ω y_S_field b_S_field 4 (some .int) 2 723 [.ref (Ω.2.1 + 0), .int (nI a), .int (nI b), .int (nI 1)] X (sm_rf w) (sm_det (some (.int (nI (gf_d b a)))) X (sm_rf w)) := by
  refine sm_intro (own := RX6) (L := [some (.ref (Ω.2.1 + 0)), some (.int (nI a)), some (.int (nI b)), some (.int (nI 1))]) (by decide) rfl (by simp [Value.category]) (Nat.le_of_ble_eq_true rfl) rfl ?_
  intro Γ C I
  refine sg_iln (pc := 0) C d_S_field_0 rfl ?_
  refine sg_ic (pc := 1) (v := 2) C d_S_field_1 (by decide) ?_
  refine sm_callS (pc := 2) (As := [.int (nI 1), .int (nI 2)]) C I (c_S_checkIndex l Ω (by decide) (by decide)) cw_S_63 sw_S_checkIndex rfl (by decide) ⟨by decide, by decide⟩ rfl (Nat.le_of_ble_eq_true rfl) d_S_field_2 (sm_det_v ?_)
  refine sg_iln (pc := 5) C d_S_field_5 rfl ?_
  refine sm_callS (pc := 6) (As := [.int (nI a)]) C I (c_S_isByte1 l Ω ha) cw_S_190 sw_S_isByte rfl (by decide) ⟨by decide, by decide⟩ rfl (Nat.le_of_ble_eq_true rfl) d_S_field_6 (sm_det_i ?_)
  refine sg_ifeq (pc := 9) (tgt := 28) C d_S_field_9 (by decide) (by omega) (fun h9 => absurd h9 (by decide)) (fun h9 => ?_)
  refine sg_iln (pc := 12) C d_S_field_12 rfl ?_
  refine sm_callS (pc := 13) (As := [.int (nI b)]) C I (c_S_isByte1 l Ω hb) cw_S_190 sw_S_isByte rfl (by decide) ⟨by decide, by decide⟩ rfl (Nat.le_of_ble_eq_true rfl) d_S_field_13 (sm_det_i ?_)
  refine sg_ifeq (pc := 16) (tgt := 28) C d_S_field_16 (by decide) (by omega) (fun h16 => absurd h16 (by decide)) (fun h16 => ?_)
  refine sg_iln (pc := 19) C d_S_field_19 rfl ?_
  refine sg_ic (pc := 20) (v := 1) C d_S_field_20 (by decide) ?_
  refine sg_icne (pc := 21) (tgt := 36) C d_S_field_21 (by decide) (by omega) (by omega) (fun h21 => absurd rfl h21) (fun h21 => ?_)
  refine sg_iln (pc := 24) C d_S_field_24 rfl ?_
  refine sg_ifne (pc := 25) (tgt := 36) C d_S_field_25 (by decide) (by omega) (fun h25 => ?_) (fun h25 => absurd h25 h0)
  refine sg_iln (pc := 36) C d_S_field_36 rfl ?_
  refine sg_ifne (pc := 37) (tgt := 52) C d_S_field_37 (by decide) (by omega) (fun h37 => ?_) (fun h37 => absurd h37 (by decide))
  refine sg_aln (pc := 52) C d_S_field_52 rfl ?_
  refine sg_getr (pc := 53) C fw_S_12 (by omega) rfl rfl rfl d_S_field_53 ?_
  refine sg_iln (pc := 56) C d_S_field_56 rfl ?_
  refine sg_iln (pc := 57) C d_S_field_57 rfl ?_
  refine sm_callV (pc := 58) (As := [.int (nI b), .int (nI a)]) C I (c_G_over l Ω hG ha hb) cw_S_197 iw_G_over (C.1.2.2.2.2 _ (List.mem_cons_of_mem _ se_G_over)) (by omega) rfl rfl rfl rfl (by decide) ⟨by decide, by decide⟩ rfl (Nat.le_of_ble_eq_true rfl) d_S_field_58 (sm_det_i ?_)
  exact sg_iret (pc := 61) C I rfl rfl d_S_field_61 ⟨rfl, rfl, rfl⟩

set_option maxHeartbeats 4000000 in
set_option maxRecDepth 100000 in
theorem x_S_field1 (l : Launch) (hl : l.stackTraces = false) (Ω : sm_Ω) {X : sm_X} {w : Nat → Nat → Nat} {x z u : Int32} (hx : x < 0 ∨ nI 2 ≤ x) : sm_thr l Ω y_S_field b_S_field 4 (some .int) 7 [.ref (Ω.2.1 + 0), .int z, .int u, .int x] X (sm_rf w) eIO := by
  refine sm_introX (own := RX6) (L := [some (.ref (Ω.2.1 + 0)), some (.int z), some (.int u), some (.int x)]) (by decide) rfl (by simp [Value.category]) (Nat.le_of_ble_eq_true rfl) rfl ?_
  intro Γ C J
  refine sg_iln (pc := 0) C d_S_field_0 rfl ?_
  refine sg_ic (pc := 1) (v := 2) C d_S_field_1 (by decide) ?_
  exact sm_callSX (pc := 2) (As := [.int x, .int (nI 2)]) C J (x_S_checkIndex l hl Ω hx) cw_S_63 sw_S_checkIndex rfl (by decide) rfl (Nat.le_of_ble_eq_true rfl) d_S_field_2

set_option maxHeartbeats 4000000 in
set_option maxRecDepth 100000 in
theorem x_S_field2 (l : Launch) (hl : l.stackTraces = false) (Ω : sm_Ω) {X : sm_X} {w : Nat → Nat → Nat} {x u : Int32} {q : Nat} (hq : q < 2) (hx : x < 0 ∨ nI 255 < x) : sm_thr l Ω y_S_field b_S_field 4 (some .int) 7 [.ref (Ω.2.1 + 0), .int x, .int u, .int (nI q)] X (sm_rf w) eIA := by
  refine sm_introX (own := RX6) (L := [some (.ref (Ω.2.1 + 0)), some (.int x), some (.int u), some (.int (nI q))]) (by decide) rfl (by simp [Value.category]) (Nat.le_of_ble_eq_true rfl) rfl ?_
  intro Γ C J
  refine sg_iln (pc := 0) C d_S_field_0 rfl ?_
  refine sg_ic (pc := 1) (v := 2) C d_S_field_1 (by decide) ?_
  refine sm_callS (pc := 2) (As := [.int (nI q), .int (nI 2)]) C J (c_S_checkIndex l Ω (by omega) (by decide)) cw_S_63 sw_S_checkIndex rfl (by decide) ⟨by decide, by decide⟩ rfl (Nat.le_of_ble_eq_true rfl) d_S_field_2 (sm_det_v ?_)
  refine sg_iln (pc := 5) C d_S_field_5 rfl ?_
  refine sm_callS (pc := 6) (As := [.int x]) C J (c_S_isByte0 l Ω hx) cw_S_190 sw_S_isByte rfl (by decide) ⟨by decide, by decide⟩ rfl (Nat.le_of_ble_eq_true rfl) d_S_field_6 (sm_det_i ?_)
  refine sg_ifeq (pc := 9) (tgt := 28) C d_S_field_9 (by decide) (by omega) (fun h9 => ?_) (fun h9 => absurd rfl h9)
  exact sg_throw (pc := 28) C J hl tw_S_67 d_S_field_28 d_S_field_31 d_S_field_32 d_S_field_35 (by decide) rfl (Nat.le_of_ble_eq_true rfl)

set_option maxHeartbeats 4000000 in
set_option maxRecDepth 100000 in
theorem x_S_field3 (l : Launch) (hl : l.stackTraces = false) (Ω : sm_Ω) {X : sm_X} {w : Nat → Nat → Nat} {x : Int32} {a q : Nat} (hq : q < 2) (ha : a < 256) (hx : x < 0 ∨ nI 255 < x) : sm_thr l Ω y_S_field b_S_field 4 (some .int) 7 [.ref (Ω.2.1 + 0), .int (nI a), .int x, .int (nI q)] X (sm_rf w) eIA := by
  refine sm_introX (own := RX6) (L := [some (.ref (Ω.2.1 + 0)), some (.int (nI a)), some (.int x), some (.int (nI q))]) (by decide) rfl (by simp [Value.category]) (Nat.le_of_ble_eq_true rfl) rfl ?_
  intro Γ C J
  refine sg_iln (pc := 0) C d_S_field_0 rfl ?_
  refine sg_ic (pc := 1) (v := 2) C d_S_field_1 (by decide) ?_
  refine sm_callS (pc := 2) (As := [.int (nI q), .int (nI 2)]) C J (c_S_checkIndex l Ω (by omega) (by decide)) cw_S_63 sw_S_checkIndex rfl (by decide) ⟨by decide, by decide⟩ rfl (Nat.le_of_ble_eq_true rfl) d_S_field_2 (sm_det_v ?_)
  refine sg_iln (pc := 5) C d_S_field_5 rfl ?_
  refine sm_callS (pc := 6) (As := [.int (nI a)]) C J (c_S_isByte1 l Ω ha) cw_S_190 sw_S_isByte rfl (by decide) ⟨by decide, by decide⟩ rfl (Nat.le_of_ble_eq_true rfl) d_S_field_6 (sm_det_i ?_)
  refine sg_ifeq (pc := 9) (tgt := 28) C d_S_field_9 (by decide) (by omega) (fun h9 => absurd h9 (by decide)) (fun h9 => ?_)
  refine sg_iln (pc := 12) C d_S_field_12 rfl ?_
  refine sm_callS (pc := 13) (As := [.int x]) C J (c_S_isByte0 l Ω hx) cw_S_190 sw_S_isByte rfl (by decide) ⟨by decide, by decide⟩ rfl (Nat.le_of_ble_eq_true rfl) d_S_field_13 (sm_det_i ?_)
  refine sg_ifeq (pc := 16) (tgt := 28) C d_S_field_16 (by decide) (by omega) (fun h16 => ?_) (fun h16 => absurd rfl h16)
  exact sg_throw (pc := 28) C J hl tw_S_67 d_S_field_28 d_S_field_31 d_S_field_32 d_S_field_35 (by decide) rfl (Nat.le_of_ble_eq_true rfl)

set_option maxHeartbeats 4000000 in
set_option maxRecDepth 100000 in
theorem x_S_field4 (l : Launch) (hl : l.stackTraces = false) (Ω : sm_Ω) {X : sm_X} {w : Nat → Nat → Nat} {b : Nat} (hb : b < 256) : sm_thr l Ω y_S_field b_S_field 4 (some .int) 7 [.ref (Ω.2.1 + 0), .int (nI 0), .int (nI b), .int (nI 1)] X (sm_rf w) eIA := by
  refine sm_introX (own := RX6) (L := [some (.ref (Ω.2.1 + 0)), some (.int (nI 0)), some (.int (nI b)), some (.int (nI 1))]) (by decide) rfl (by simp [Value.category]) (Nat.le_of_ble_eq_true rfl) rfl ?_
  intro Γ C J
  refine sg_iln (pc := 0) C d_S_field_0 rfl ?_
  refine sg_ic (pc := 1) (v := 2) C d_S_field_1 (by decide) ?_
  refine sm_callS (pc := 2) (As := [.int (nI 1), .int (nI 2)]) C J (c_S_checkIndex l Ω (by decide) (by decide)) cw_S_63 sw_S_checkIndex rfl (by decide) ⟨by decide, by decide⟩ rfl (Nat.le_of_ble_eq_true rfl) d_S_field_2 (sm_det_v ?_)
  refine sg_iln (pc := 5) C d_S_field_5 rfl ?_
  refine sm_callS (pc := 6) (As := [.int (nI 0)]) C J (c_S_isByte1 l Ω (by decide)) cw_S_190 sw_S_isByte rfl (by decide) ⟨by decide, by decide⟩ rfl (Nat.le_of_ble_eq_true rfl) d_S_field_6 (sm_det_i ?_)
  refine sg_ifeq (pc := 9) (tgt := 28) C d_S_field_9 (by decide) (by omega) (fun h9 => absurd h9 (by decide)) (fun h9 => ?_)
  refine sg_iln (pc := 12) C d_S_field_12 rfl ?_
  refine sm_callS (pc := 13) (As := [.int (nI b)]) C J (c_S_isByte1 l Ω hb) cw_S_190 sw_S_isByte rfl (by decide) ⟨by decide, by decide⟩ rfl (Nat.le_of_ble_eq_true rfl) d_S_field_13 (sm_det_i ?_)
  refine sg_ifeq (pc := 16) (tgt := 28) C d_S_field_16 (by decide) (by omega) (fun h16 => absurd h16 (by decide)) (fun h16 => ?_)
  refine sg_iln (pc := 19) C d_S_field_19 rfl ?_
  refine sg_ic (pc := 20) (v := 1) C d_S_field_20 (by decide) ?_
  refine sg_icne (pc := 21) (tgt := 36) C d_S_field_21 (by decide) (by omega) (by omega) (fun h21 => absurd rfl h21) (fun h21 => ?_)
  refine sg_iln (pc := 24) C d_S_field_24 rfl ?_
  refine sg_ifne (pc := 25) (tgt := 36) C d_S_field_25 (by decide) (by omega) (fun h25 => absurd rfl h25) (fun h25 => ?_)
  exact sg_throw (pc := 28) C J hl tw_S_67 d_S_field_28 d_S_field_31 d_S_field_32 d_S_field_35 (by decide) rfl (Nat.le_of_ble_eq_true rfl)
end
section
/-! put, settle, get -/
/-- well-formed still, where only shares have changed -/
theorem swf_mk {X Z : sm_X} {w w2 : Nat → Nat → Nat} (hf : swf X w) (hw2 : ∀ n o, w2 n o < 2) (h1 : ∀ n, n < 12 → ∀ j, j < 5 → Z (79 + 51 * n) j = X (79 + 51 * n) j) (h2 : ∀ o, o < 12 → ∀ j, j < 5 → Z (691 + o) j = X (691 + o) j)
    (h3 : ∀ n o b, n < 12 → o < 12 → b < 2 → (Z (82 + 51 * n + 4 * o + 2 * b) 0 = X (82 + 51 * n + 4 * o + 2 * b) 0 ∨ Z (82 + 51 * n + 4 * o + 2 * b) 0 < 2 ^ 30) ∧ (Z (82 + 51 * n + 4 * o + 2 * b) 1 = X (82 + 51 * n + 4 * o + 2 * b) 1 ∨ Z (82 + 51 * n + 4 * o + 2 * b) 1 ≤ 240)) : swf Z w2 := by
  refine ⟨hw2, fun n hn => ?_, fun o ho => ?_, fun n o b hn ho hb => ?_⟩
  · rw [h1 n hn 0 (by decide), h1 n hn 3 (by decide), h1 n hn 4 (by decide)]
    exact hf.2.1 n hn
  · rw [h2 o ho 4 (by decide), h2 o ho 1 (by decide), h2 o ho 3 (by decide)]
    refine ⟨fun j hj => ?_, (hf.2.2.1 o ho).2⟩
    rw [h2 o ho j (by omega)]
    exact (hf.2.2.1 o ho).1 j hj
  · have h4 := hf.2.2.2 n o b hn ho hb
    have h5 := h3 n o b hn ho hb
    refine ⟨?_, ?_⟩
    · rcases h5.1 with e | e
      · rw [e]; exact h4.1
      · exact e
    · rcases h5.2 with e | e
      · rw [e]; exact h4.2
      · exact e
theorem swf_st {T : Nat → Bool} {X : sm_X} {w : Nat → Nat → Nat} {o k : Nat} (hf : swf X w) (hk : k ≤ 12) : swf (stX T X w o k) (stW T w o k) := by
  refine swf_mk hf (stW_lt hf.1) (fun n hn j hj => stX_o (by omega)) (fun p hp j hj => stX_o (by omega)) (fun n p b hn hp hb => ?_)
  have h4 := hf.2.2.2 n p b hn hp hb
  unfold stX
  constructor
  · split
    · exact Or.inr (by decide)
    · exact Or.inl rfl
  · split
    · exact Or.inr (by decide)
    · exact Or.inl rfl
theorem swf_ds {X : sm_X} {w : Nat → Nat → Nat} {o k : Nat} (hf : swf X w) (hk : k ≤ 12) : swf (sds X w o k) w := by
  refine swf_mk hf hf.1 (fun n hn j hj => sds_o (by omega)) (fun p hp j hj => sds_o (by omega)) (fun n p b hn hp hb => ?_)
  unfold sds
  constructor
  · split
    · exact Or.inr (by decide)
    · exact Or.inl rfl
  · split
    · exact Or.inr (by decide)
    · exact Or.inl rfl
theorem swf_ss {T : Nat → Bool} {X : sm_X} {w : Nat → Nat → Nat} {o m n k : Nat} (hf : swf X w) (ho : o < 12) (hm : m < 2 ^ 30) (hn : n ≤ 240) (h3 : X (691 + o) 3 ≤ 240) (hk : k ≤ 12) : swf (ssX T (ssZ X o) w o m n k) w := by
  have zo : ∀ a b, (a < 6 ∨ 70 ≤ a) → ssZ X o a b = X a b := fun a b h => mf_o h _ (by omega)
  refine swf_mk hf hf.1 (fun n hn j hj => (ssX_o (by omega) (by omega)).trans (zo _ _ (by omega))) (fun p hp j hj => (ssX_o (by omega) (by omega)).trans (zo _ _ (by omega))) (fun q p b hq hp hb => ?_)
  have e2 : ∀ j, j < 2 → ¬ ((82 + 51 * q + 4 * p + 2 * b - 79) / 51 < k ∧ T ((82 + 51 * q + 4 * p + 2 * b - 79) / 51) = true ∧ 82 + 51 * q + 4 * p + 2 * b = 83 + 51 * ((82 + 51 * q + 4 * p + 2 * b - 79) / 51) + 4 * o + 2 * (1 - w ((82 + 51 * q + 4 * p + 2 * b - 79) / 51) o) ∧ j < 8 * ((n + 29) / 30)) := fun j _ => by
    rw [show (82 + 51 * q + 4 * p + 2 * b - 79) / 51 = q by omega]
    omega
  unfold ssX
  constructor
  · split
    · exact Or.inr (by rw [if_pos rfl]; exact hm)
    · rw [if_neg (e2 0 (by decide))]
      exact Or.inl (zo _ _ (by omega))
  · split
    · exact Or.inr (by rw [if_neg (by decide)]; exact hn)
    · rw [if_neg (e2 1 (by decide))]
      exact Or.inl (zo _ _ (by omega))
def tkm (X : sm_X) (a m : Nat) : Prop := (X 0 9 = 4294967295 ∧ m = a) ∨ ∃ q, q < 2 ^ 31 ∧ X 0 9 = q ∧ m = if q ≤ a then q else a
theorem c_S_takeMessages (l : Launch) (Ω : sm_Ω) {X : sm_X} {w : Nat → Nat → Nat} {a m : Nat} (ha : a < 2 ^ 31) (h : tkm X a m) : sm_met l Ω y_S_takeMessages b_S_takeMessages 3 (some .int) 1 723 [.ref (Ω.2.1 + 0), .int (nI a)] X (sm_rf w) (sm_det (some (.int (nI m))) (sm_up X 0 9 4294967295) (sm_rf w)) := by
  rcases h with ⟨h1, rfl⟩ | ⟨q, hq, h1, rfl⟩
  · exact c_S_takeMessages0 l Ω ha h1
  · exact c_S_takeMessages1 l Ω ha h1 hq

def puB (X : sm_X) (o n : Nat) : sm_X := sm_up (sm_up (sm_up X (691 + o) 2 (X (691 + o) 2 + 1)) (691 + o) 3 n) (691 + o) 4 1
def pu2 (X : sm_X) (o n : Nat) : sm_X := sm_up (puB X o n) 0 9 4294967295
def pu3 (X : sm_X) (w : Nat → Nat → Nat) (o n m : Nat) : sm_X := ssX (ssT (pu2 X o n) m) (ssZ (pu2 X o n) o) w o (X (691 + o) 2 + 1) n 12
theorem pu2_i {X : sm_X} {o n : Nat} : pu2 X o n (691 + o) 0 = X (691 + o) 0 ∧ pu2 X o n (691 + o) 1 = X (691 + o) 1 ∧ pu2 X o n (691 + o) 2 = X (691 + o) 2 + 1 ∧ pu2 X o n (691 + o) 3 = n ∧ pu2 X o n (691 + o) 4 = 1 := by
  unfold pu2 puB
  refine ⟨?_, ?_, ?_, ?_, ?_⟩
  · rw [sm_up_x (Or.inl (by omega)), sm_up_x (Or.inr (by decide)), sm_up_x (Or.inr (by decide)), sm_up_x (Or.inr (by decide))]
  · rw [sm_up_x (Or.inl (by omega)), sm_up_x (Or.inr (by decide)), sm_up_x (Or.inr (by decide)), sm_up_x (Or.inr (by decide))]
  · rw [sm_up_x (Or.inl (by omega)), sm_up_x (Or.inr (by decide)), sm_up_x (Or.inr (by decide)), sm_up_s]
  · rw [sm_up_x (Or.inl (by omega)), sm_up_x (Or.inr (by decide)), sm_up_s]
  · rw [sm_up_x (Or.inl (by omega)), sm_up_s]
theorem pu2_o {X : sm_X} {o n a j : Nat} (h1 : a ≠ (691 + o)) (h2 : ¬ (a = 0 ∧ j = 9)) : pu2 X o n a j = X a j := by
  unfold pu2 puB
  rw [sm_up_x (by omega), sm_up_x (Or.inl h1), sm_up_x (Or.inl h1), sm_up_x (Or.inl h1)]
theorem swf_pu2 {X : sm_X} {w : Nat → Nat → Nat} {o n : Nat} (hf : swf X w) (ho : o < 12) (hn : n ≤ 240) (hm : X (691 + o) 2 + 1 < 2 ^ 30) : swf (pu2 X o n) w := by
  refine ⟨hf.1, fun k hk => ?_, fun p hp => ?_, fun k p b hk hp hb => ?_⟩
  · rw [pu2_o (by omega) (by omega), pu2_o (by omega) (by omega), pu2_o (by omega) (by omega)]
    exact hf.2.1 k hk
  · by_cases e : p = o
    · subst e
      have hi := pu2_i (X := X) (o := p) (n := n)
      have h0 := hf.2.2.1 p hp
      refine ⟨fun j hj => ?_, by rw [hi.2.2.2.2]; decide, by rw [hi.2.1]; exact h0.2.2.1, by rw [hi.2.2.2.1]; exact hn⟩
      rcases (by omega : j = 0 ∨ j = 1 ∨ j = 2 ∨ j = 3) with rfl | rfl | rfl | rfl
      · rw [hi.1]; exact h0.1 0 (by decide)
      · rw [hi.2.1]; exact h0.1 1 (by decide)
      · rw [hi.2.2.1]; exact hm
      · rw [hi.2.2.2.1]; omega
    · rw [pu2_o (by omega) (by omega), pu2_o (by omega) (by omega), pu2_o (by omega) (by omega)]
      refine ⟨fun j hj => ?_, (hf.2.2.1 p hp).2⟩
      rw [pu2_o (by omega) (by omega)]
      exact (hf.2.2.1 p hp).1 j hj
  · rw [pu2_o (by omega) (by omega), pu2_o (by omega) (by omega)]
    exact hf.2.2.2 k p b hk hp hb
theorem swf_pu3 {X : sm_X} {w : Nat → Nat → Nat} {o n m : Nat} (hf : swf X w) (ho : o < 12) (hn : n ≤ 240) (hm : X (691 + o) 2 + 1 < 2 ^ 30) : swf (pu3 X w o n m) w := swf_ss (swf_pu2 hf ho hn hm) ho hm hn (by rw [pu2_i.2.2.2.1]; exact hn) (Nat.le_refl 12)
theorem pu3_i {X : sm_X} {w : Nat → Nat → Nat} {o n m j : Nat} (hn : n ≤ 240) : pu3 X w o n m (691 + o) j = pu2 X o n (691 + o) j := (ssX_o (by omega) (by omega)).trans (mf_o (by omega) _ (by rw [pu2_i.2.2.2.1]; omega))
def puF (X : sm_X) (o : Nat) : sm_X := sm_up (sm_up (sm_up X (691 + o) 0 (X (691 + o) 2)) (691 + o) 1 (X (691 + o) 3)) (691 + o) 4 0

set_option maxHeartbeats 4000000 in
set_option maxRecDepth 100000 in
theorem c_S_putA (l : Launch) (Ω : sm_Ω) {X : sm_X} {w : Nat → Nat → Nat} (hf : swf X w) {o n m : Nat} (ho : o < 12) (hn : n ≤ 240) (hmd : X (691 + o) 2 + 1 < 2 ^ 30) (hst : X (691 + o) 4 = 0) (h9 : 9 ≤ (sm_n (slv X) 12)) (hG : gal X) (hl : ∀ q, q < 240 → X 77 q < 256) (hr : ∀ r, r < 64 → ∀ j, j < 8 → X (6 + r) j < 256) (ht : tkm (puB X o n) (2 * (sm_n (slv X) 12)) m) (hm : m = 2 * (sm_n (slv X) 12)) : sm_met l Ω y_S_put b_S_put 6 (some .int) 5 723 [.ref (Ω.2.1 + 0), .int (nI o), .int (nI n)] X (sm_rf w) (sm_det (some (.int (nI (X (691 + o) 2 + 1)))) (puF (stX (stT (pu3 X w o n (sm_n (slv X) 12)) w o (m - (sm_n (slv X) 12))) (pu3 X w o n (sm_n (slv X) 12)) w o 12) o) (sm_rf (stW (stT (pu3 X w o n (sm_n (slv X) 12)) w o (m - (sm_n (slv X) 12))) w o 12))) := by
  refine sm_intro (own := RX6) (L := [some (.ref (Ω.2.1 + 0)), some (.int (nI o)), some (.int (nI n)), none, none, none]) (by decide) rfl (by simp [Value.category]) (Nat.le_of_ble_eq_true rfl) rfl ?_
  intro Γ C I
  have gi := hf.2.2.1 o ho
  have hll := sm_n_le (slv X) 12
  have hs2 := swf_pu2 (X := X) hf ho hn hmd
  have hs3 : ∀ q, swf (pu3 X w o n q) w := fun q => swf_pu3 hf ho hn hmd
  have i2 := pu2_i (X := X) (o := o) (n := n)
  have g2 : gal (pu2 X o n) := gal_of hG (fun k => pu2_o (by omega) (by omega)) (fun k => pu2_o (by omega) (by omega))
  have l2 : ∀ q, q < 240 → pu2 X o n 77 q < 256 := fun q hq => by rw [pu2_o (by omega) (by omega)]; exact hl q hq
  have r2 : ∀ r, r < 64 → ∀ j, j < 8 → pu2 X o n (6 + r) j < 256 := fun r h1 j h2 => by rw [pu2_o (by omega) (by omega)]; exact hr r h1 j h2
  refine sg_iln (pc := 0) C d_S_put_0 rfl ?_
  refine sg_bi (pc := 1) (v := 12) C d_S_put_1 (by decide) ?_
  refine sm_callS (pc := 3) (As := [.int (nI o), .int (nI 12)]) C I (c_S_checkIndex l Ω (by omega) (by decide)) cw_S_63 sw_S_checkIndex rfl (by decide) ⟨by decide, by decide⟩ rfl (Nat.le_of_ble_eq_true rfl) d_S_put_3 (sm_det_v ?_)
  refine sg_iln (pc := 6) C d_S_put_6 rfl ?_
  refine sr_iflt (pc := 7) (tgt := 17) C d_S_put_7 (by decide) (fun h7 => absurd h7 (nI_pos (by omega))) (fun h7 => ?_)
  refine sg_iln (pc := 10) C d_S_put_10 rfl ?_
  refine sg_si (pc := 11) (v := 240) C d_S_put_11 (by decide) ?_
  refine sg_icle (pc := 14) (tgt := 25) C d_S_put_14 (by decide) (by omega) (by omega) (fun h14 => ?_) (fun h14 => absurd h14 (by omega))
  refine sg_aln (pc := 25) C d_S_put_25 rfl ?_
  refine sg_iln (pc := 26) C d_S_put_26 rfl ?_
  refine sm_callV (pc := 27) (As := [.int (nI o)]) C I (c_S_checkNotStopped l Ω hf ho hst) cw_S_70 iw_S_checkNotStopped (C.1.2.2.2.2 _ (List.mem_cons_of_mem _ se_S_checkNotStopped)) (by omega) rfl rfl rfl rfl (by decide) ⟨by decide, by decide⟩ rfl (Nat.le_of_ble_eq_true rfl) d_S_put_27 (sm_det_v ?_)
  refine sg_aln (pc := 30) C d_S_put_30 rfl ?_
  refine sm_callV (pc := 31) (As := []) C I (c_S_countLive l Ω hf) cw_S_73 iw_S_countLive (C.1.2.2.2.2 _ (List.mem_cons_of_mem _ se_S_countLive)) (by omega) rfl rfl rfl rfl (by decide) ⟨by decide, by decide⟩ rfl (Nat.le_of_ble_eq_true rfl) d_S_put_31 (sm_det_i ?_)
  refine sg_is3 (pc := 34) C d_S_put_34 ?_
  refine sg_iln (pc := 35) C d_S_put_35 rfl ?_
  refine sg_bi (pc := 36) (v := 9) C d_S_put_36 (by decide) ?_
  refine sg_icge (pc := 38) (tgt := 49) C d_S_put_38 (by decide) (by omega) (by omega) (fun h38 => ?_) (fun h38 => absurd h38 (by omega))
  refine sg_aln (pc := 49) C d_S_put_49 rfl ?_
  refine sg_getr (pc := 50) C fw_S_31 (by omega) rfl rfl rfl d_S_put_50 ?_
  refine sg_iln (pc := 53) C d_S_put_53 rfl ?_
  refine sg_aald (pc := 54) (n := 12) (t := 5) C (by omega) rfl (by decide) rfl rfl (by omega) (by decide) (rf_items (by omega)) d_S_put_54 ?_
  refine sg_as4 (pc := 55) C d_S_put_55 ?_
  refine sg_al (pc := 57) C d_S_put_57 rfl ?_
  refine sg_iln (pc := 59) C d_S_put_59 rfl ?_
  refine sm_callV (pc := 60) (As := [.int (nI n)]) C I (c_I_begin l Ω (by omega) (sh_I ho)) cw_S_80 iw_I_begin (C.1.2.2.2.2 _ (List.mem_cons_of_mem _ se_I_begin)) (by omega) (sh_I (by omega)) rfl rfl rfl (by decide) ⟨by decide, by decide⟩ rfl (Nat.le_of_ble_eq_true rfl) d_S_put_60 (sm_det_v ?_)
  change sm_G Γ Ω 723 0 0 (60 + 3) _ _ (puB X o n) (sm_rf w)
  refine sg_aln (pc := 63) C d_S_put_63 rfl ?_
  refine sg_ic (pc := 64) (v := 2) C d_S_put_64 (by decide) ?_
  refine sg_iln (pc := 65) C d_S_put_65 rfl ?_
  refine sg_mul (pc := 66) C d_S_put_66 ?_
  refine sm_callV (pc := 67) (As := [.int (nI (2 * (sm_n (slv X) 12)))]) C I (c_S_takeMessages l Ω (by omega) ht) cw_S_83 iw_S_takeMessages (C.1.2.2.2.2 _ (List.mem_cons_of_mem _ se_S_takeMessages)) (by omega) rfl rfl rfl rfl (by decide) ⟨by decide, by decide⟩ rfl (Nat.le_of_ble_eq_true rfl) d_S_put_67 (sm_det_i ?_)
  change sm_G Γ Ω 723 0 0 (67 + 3) _ _ (pu2 X o n) (sm_rf w)
  refine sg_is5 (pc := 70) C d_S_put_70 ?_
  refine sg_aln (pc := 72) C d_S_put_72 rfl ?_
  refine sg_iln (pc := 73) C d_S_put_73 rfl ?_
  refine sg_il (pc := 74) C d_S_put_74 rfl ?_
  refine sg_iln (pc := 76) C d_S_put_76 rfl ?_
  refine sg_icge (pc := 77) (tgt := 85) C d_S_put_77 (by decide) (by omega) (by omega) (fun h77 => ?_) (fun h77 => absurd h77 (by omega))
  refine sg_iln (pc := 85) C d_S_put_85 rfl ?_
  refine sm_callV (pc := 86) (As := [.int (nI o), .int (nI (sm_n (slv X) 12))]) C I (c_S_sendShadows l Ω hs2 ho (by omega) g2 l2 r2) cw_S_87 iw_S_sendShadows (C.1.2.2.2.2 _ (List.mem_cons_of_mem _ se_S_sendShadows)) (by omega) rfl rfl rfl rfl (by decide) ⟨by decide, by decide⟩ rfl (Nat.le_of_ble_eq_true rfl) d_S_put_86 (sm_det_v ?_)
  rw [i2.2.2.1, i2.2.2.2.1]
  change sm_G Γ Ω 723 0 0 (86 + 3) _ _ (pu3 X w o n (sm_n (slv X) 12)) (sm_rf w)
  refine sg_aln (pc := 89) C d_S_put_89 rfl ?_
  refine sg_iln (pc := 90) C d_S_put_90 rfl ?_
  refine sg_il (pc := 91) C d_S_put_91 rfl ?_
  refine sg_iln (pc := 93) C d_S_put_93 rfl ?_
  refine sg_sub (pc := 94) C d_S_put_94 (by omega) ?_
  refine sm_callV (pc := 95) (As := [.int (nI o), .int (nI (m - (sm_n (slv X) 12)))]) C I (c_S_turnShadows l Ω (hs3 (sm_n (slv X) 12)) ho (by omega)) cw_S_90 iw_S_turnShadows (C.1.2.2.2.2 _ (List.mem_cons_of_mem _ se_S_turnShadows)) (by omega) rfl rfl rfl rfl (by decide) ⟨by decide, by decide⟩ rfl (Nat.le_of_ble_eq_true rfl) d_S_put_95 (sm_det_v ?_)
  refine sg_il (pc := 98) C d_S_put_98 rfl ?_
  refine sg_ic (pc := 100) (v := 2) C d_S_put_100 (by decide) ?_
  refine sg_iln (pc := 101) C d_S_put_101 rfl ?_
  refine sg_mul (pc := 102) C d_S_put_102 ?_
  refine sg_icne (pc := 103) (tgt := 112) C d_S_put_103 (by decide) (by omega) (by omega) (fun h103 => absurd hm h103) (fun h103 => ?_)
  refine sg_al (pc := 106) C d_S_put_106 rfl ?_
  refine sg_ic (pc := 108) (v := 1) C d_S_put_108 (by decide) ?_
  refine sm_callV (pc := 109) (As := [.int (nI 1)]) C I (c_I_finish1 l Ω (by omega) (sh_I ho)) cw_S_93 iw_I_finish (C.1.2.2.2.2 _ (List.mem_cons_of_mem _ se_I_finish)) (by omega) (sh_I (by omega)) rfl rfl rfl (by decide) ⟨by decide, by decide⟩ rfl (Nat.le_of_ble_eq_true rfl) d_S_put_109 (sm_det_v ?_)
  change sm_G Γ Ω 723 0 0 (109 + 3) _ _ (puF (stX (stT (pu3 X w o n (sm_n (slv X) 12)) w o (m - (sm_n (slv X) 12))) (pu3 X w o n (sm_n (slv X) 12)) w o 12) o) _
  refine sg_al (pc := 112) C d_S_put_112 rfl ?_
  refine sg_geti (pc := 114) C fw_S_97 (by omega) (sh_I (by omega)) rfl d_S_put_114 ?_
  rw [show puF (stX (stT (pu3 X w o n (sm_n (slv X) 12)) w o (m - (sm_n (slv X) 12))) (pu3 X w o n (sm_n (slv X) 12)) w o 12) o (691 + o) 2 = X (691 + o) 2 + 1 from (sm_up_x (Or.inr (by decide))).trans ((sm_up_x (Or.inr (by decide))).trans ((sm_up_x (Or.inr (by decide))).trans ((stX_o (by omega)).trans ((pu3_i hn).trans i2.2.2.1))))]
  exact sg_iret (pc := 117) C I rfl rfl d_S_put_117 ⟨rfl, rfl, rfl⟩

set_option maxHeartbeats 4000000 in
set_option maxRecDepth 100000 in
theorem c_S_putB (l : Launch) (Ω : sm_Ω) {X : sm_X} {w : Nat → Nat → Nat} (hf : swf X w) {o n m : Nat} (ho : o < 12) (hn : n ≤ 240) (hmd : X (691 + o) 2 + 1 < 2 ^ 30) (hst : X (691 + o) 4 = 0) (h9 : 9 ≤ (sm_n (slv X) 12)) (hG : gal X) (hl : ∀ q, q < 240 → X 77 q < 256) (hr : ∀ r, r < 64 → ∀ j, j < 8 → X (6 + r) j < 256) (ht : tkm (puB X o n) (2 * (sm_n (slv X) 12)) m) (hm : (sm_n (slv X) 12) ≤ m) (hm2 : m < 2 * (sm_n (slv X) 12)) : sm_met l Ω y_S_put b_S_put 6 (some .int) 5 723 [.ref (Ω.2.1 + 0), .int (nI o), .int (nI n)] X (sm_rf w) (sm_det (some (.int (nI (X (691 + o) 2 + 1)))) (stX (stT (pu3 X w o n (sm_n (slv X) 12)) w o (m - (sm_n (slv X) 12))) (pu3 X w o n (sm_n (slv X) 12)) w o 12) (sm_rf (stW (stT (pu3 X w o n (sm_n (slv X) 12)) w o (m - (sm_n (slv X) 12))) w o 12))) := by
  refine sm_intro (own := RX6) (L := [some (.ref (Ω.2.1 + 0)), some (.int (nI o)), some (.int (nI n)), none, none, none]) (by decide) rfl (by simp [Value.category]) (Nat.le_of_ble_eq_true rfl) rfl ?_
  intro Γ C I
  have gi := hf.2.2.1 o ho
  have hll := sm_n_le (slv X) 12
  have hs2 := swf_pu2 (X := X) hf ho hn hmd
  have hs3 : ∀ q, swf (pu3 X w o n q) w := fun q => swf_pu3 hf ho hn hmd
  have i2 := pu2_i (X := X) (o := o) (n := n)
  have g2 : gal (pu2 X o n) := gal_of hG (fun k => pu2_o (by omega) (by omega)) (fun k => pu2_o (by omega) (by omega))
  have l2 : ∀ q, q < 240 → pu2 X o n 77 q < 256 := fun q hq => by rw [pu2_o (by omega) (by omega)]; exact hl q hq
  have r2 : ∀ r, r < 64 → ∀ j, j < 8 → pu2 X o n (6 + r) j < 256 := fun r h1 j h2 => by rw [pu2_o (by omega) (by omega)]; exact hr r h1 j h2
  refine sg_iln (pc := 0) C d_S_put_0 rfl ?_
  refine sg_bi (pc := 1) (v := 12) C d_S_put_1 (by decide) ?_
  refine sm_callS (pc := 3) (As := [.int (nI o), .int (nI 12)]) C I (c_S_checkIndex l Ω (by omega) (by decide)) cw_S_63 sw_S_checkIndex rfl (by decide) ⟨by decide, by decide⟩ rfl (Nat.le_of_ble_eq_true rfl) d_S_put_3 (sm_det_v ?_)
  refine sg_iln (pc := 6) C d_S_put_6 rfl ?_
  refine sr_iflt (pc := 7) (tgt := 17) C d_S_put_7 (by decide) (fun h7 => absurd h7 (nI_pos (by omega))) (fun h7 => ?_)
  refine sg_iln (pc := 10) C d_S_put_10 rfl ?_
  refine sg_si (pc := 11) (v := 240) C d_S_put_11 (by decide) ?_
  refine sg_icle (pc := 14) (tgt := 25) C d_S_put_14 (by decide) (by omega) (by omega) (fun h14 => ?_) (fun h14 => absurd h14 (by omega))
  refine sg_aln (pc := 25) C d_S_put_25 rfl ?_
  refine sg_iln (pc := 26) C d_S_put_26 rfl ?_
  refine sm_callV (pc := 27) (As := [.int (nI o)]) C I (c_S_checkNotStopped l Ω hf ho hst) cw_S_70 iw_S_checkNotStopped (C.1.2.2.2.2 _ (List.mem_cons_of_mem _ se_S_checkNotStopped)) (by omega) rfl rfl rfl rfl (by decide) ⟨by decide, by decide⟩ rfl (Nat.le_of_ble_eq_true rfl) d_S_put_27 (sm_det_v ?_)
  refine sg_aln (pc := 30) C d_S_put_30 rfl ?_
  refine sm_callV (pc := 31) (As := []) C I (c_S_countLive l Ω hf) cw_S_73 iw_S_countLive (C.1.2.2.2.2 _ (List.mem_cons_of_mem _ se_S_countLive)) (by omega) rfl rfl rfl rfl (by decide) ⟨by decide, by decide⟩ rfl (Nat.le_of_ble_eq_true rfl) d_S_put_31 (sm_det_i ?_)
  refine sg_is3 (pc := 34) C d_S_put_34 ?_
  refine sg_iln (pc := 35) C d_S_put_35 rfl ?_
  refine sg_bi (pc := 36) (v := 9) C d_S_put_36 (by decide) ?_
  refine sg_icge (pc := 38) (tgt := 49) C d_S_put_38 (by decide) (by omega) (by omega) (fun h38 => ?_) (fun h38 => absurd h38 (by omega))
  refine sg_aln (pc := 49) C d_S_put_49 rfl ?_
  refine sg_getr (pc := 50) C fw_S_31 (by omega) rfl rfl rfl d_S_put_50 ?_
  refine sg_iln (pc := 53) C d_S_put_53 rfl ?_
  refine sg_aald (pc := 54) (n := 12) (t := 5) C (by omega) rfl (by decide) rfl rfl (by omega) (by decide) (rf_items (by omega)) d_S_put_54 ?_
  refine sg_as4 (pc := 55) C d_S_put_55 ?_
  refine sg_al (pc := 57) C d_S_put_57 rfl ?_
  refine sg_iln (pc := 59) C d_S_put_59 rfl ?_
  refine sm_callV (pc := 60) (As := [.int (nI n)]) C I (c_I_begin l Ω (by omega) (sh_I ho)) cw_S_80 iw_I_begin (C.1.2.2.2.2 _ (List.mem_cons_of_mem _ se_I_begin)) (by omega) (sh_I (by omega)) rfl rfl rfl (by decide) ⟨by decide, by decide⟩ rfl (Nat.le_of_ble_eq_true rfl) d_S_put_60 (sm_det_v ?_)
  change sm_G Γ Ω 723 0 0 (60 + 3) _ _ (puB X o n) (sm_rf w)
  refine sg_aln (pc := 63) C d_S_put_63 rfl ?_
  refine sg_ic (pc := 64) (v := 2) C d_S_put_64 (by decide) ?_
  refine sg_iln (pc := 65) C d_S_put_65 rfl ?_
  refine sg_mul (pc := 66) C d_S_put_66 ?_
  refine sm_callV (pc := 67) (As := [.int (nI (2 * (sm_n (slv X) 12)))]) C I (c_S_takeMessages l Ω (by omega) ht) cw_S_83 iw_S_takeMessages (C.1.2.2.2.2 _ (List.mem_cons_of_mem _ se_S_takeMessages)) (by omega) rfl rfl rfl rfl (by decide) ⟨by decide, by decide⟩ rfl (Nat.le_of_ble_eq_true rfl) d_S_put_67 (sm_det_i ?_)
  change sm_G Γ Ω 723 0 0 (67 + 3) _ _ (pu2 X o n) (sm_rf w)
  refine sg_is5 (pc := 70) C d_S_put_70 ?_
  refine sg_aln (pc := 72) C d_S_put_72 rfl ?_
  refine sg_iln (pc := 73) C d_S_put_73 rfl ?_
  refine sg_il (pc := 74) C d_S_put_74 rfl ?_
  refine sg_iln (pc := 76) C d_S_put_76 rfl ?_
  refine sg_icge (pc := 77) (tgt := 85) C d_S_put_77 (by decide) (by omega) (by omega) (fun h77 => ?_) (fun h77 => absurd h77 (by omega))
  refine sg_iln (pc := 85) C d_S_put_85 rfl ?_
  refine sm_callV (pc := 86) (As := [.int (nI o), .int (nI (sm_n (slv X) 12))]) C I (c_S_sendShadows l Ω hs2 ho (by omega) g2 l2 r2) cw_S_87 iw_S_sendShadows (C.1.2.2.2.2 _ (List.mem_cons_of_mem _ se_S_sendShadows)) (by omega) rfl rfl rfl rfl (by decide) ⟨by decide, by decide⟩ rfl (Nat.le_of_ble_eq_true rfl) d_S_put_86 (sm_det_v ?_)
  rw [i2.2.2.1, i2.2.2.2.1]
  change sm_G Γ Ω 723 0 0 (86 + 3) _ _ (pu3 X w o n (sm_n (slv X) 12)) (sm_rf w)
  refine sg_aln (pc := 89) C d_S_put_89 rfl ?_
  refine sg_iln (pc := 90) C d_S_put_90 rfl ?_
  refine sg_il (pc := 91) C d_S_put_91 rfl ?_
  refine sg_iln (pc := 93) C d_S_put_93 rfl ?_
  refine sg_sub (pc := 94) C d_S_put_94 (by omega) ?_
  refine sm_callV (pc := 95) (As := [.int (nI o), .int (nI (m - (sm_n (slv X) 12)))]) C I (c_S_turnShadows l Ω (hs3 (sm_n (slv X) 12)) ho (by omega)) cw_S_90 iw_S_turnShadows (C.1.2.2.2.2 _ (List.mem_cons_of_mem _ se_S_turnShadows)) (by omega) rfl rfl rfl rfl (by decide) ⟨by decide, by decide⟩ rfl (Nat.le_of_ble_eq_true rfl) d_S_put_95 (sm_det_v ?_)
  refine sg_il (pc := 98) C d_S_put_98 rfl ?_
  refine sg_ic (pc := 100) (v := 2) C d_S_put_100 (by decide) ?_
  refine sg_iln (pc := 101) C d_S_put_101 rfl ?_
  refine sg_mul (pc := 102) C d_S_put_102 ?_
  refine sg_icne (pc := 103) (tgt := 112) C d_S_put_103 (by decide) (by omega) (by omega) (fun h103 => ?_) (fun h103 => absurd h103 (by omega))
  refine sg_al (pc := 112) C d_S_put_112 rfl ?_
  refine sg_geti (pc := 114) C fw_S_97 (by omega) (sh_I (by omega)) rfl d_S_put_114 ?_
  rw [show (stX (stT (pu3 X w o n (sm_n (slv X) 12)) w o (m - (sm_n (slv X) 12))) (pu3 X w o n (sm_n (slv X) 12)) w o 12) (691 + o) 2 = X (691 + o) 2 + 1 from (stX_o (by omega)).trans ((pu3_i hn).trans i2.2.2.1)]
  exact sg_iret (pc := 117) C I rfl rfl d_S_put_117 ⟨rfl, rfl, rfl⟩

set_option maxHeartbeats 4000000 in
set_option maxRecDepth 100000 in
theorem c_S_putC (l : Launch) (Ω : sm_Ω) {X : sm_X} {w : Nat → Nat → Nat} (hf : swf X w) {o n m : Nat} (ho : o < 12) (hn : n ≤ 240) (hmd : X (691 + o) 2 + 1 < 2 ^ 30) (hst : X (691 + o) 4 = 0) (h9 : 9 ≤ (sm_n (slv X) 12)) (hG : gal X) (hl : ∀ q, q < 240 → X 77 q < 256) (hr : ∀ r, r < 64 → ∀ j, j < 8 → X (6 + r) j < 256) (ht : tkm (puB X o n) (2 * (sm_n (slv X) 12)) m) (hm : m < (sm_n (slv X) 12)) : sm_met l Ω y_S_put b_S_put 6 (some .int) 5 723 [.ref (Ω.2.1 + 0), .int (nI o), .int (nI n)] X (sm_rf w) (sm_det (some (.int (nI (X (691 + o) 2 + 1)))) (pu3 X w o n m) (sm_rf w)) := by
  refine sm_intro (own := RX6) (L := [some (.ref (Ω.2.1 + 0)), some (.int (nI o)), some (.int (nI n)), none, none, none]) (by decide) rfl (by simp [Value.category]) (Nat.le_of_ble_eq_true rfl) rfl ?_
  intro Γ C I
  have gi := hf.2.2.1 o ho
  have hll := sm_n_le (slv X) 12
  have hs2 := swf_pu2 (X := X) hf ho hn hmd
  have hs3 : ∀ q, swf (pu3 X w o n q) w := fun q => swf_pu3 hf ho hn hmd
  have i2 := pu2_i (X := X) (o := o) (n := n)
  have g2 : gal (pu2 X o n) := gal_of hG (fun k => pu2_o (by omega) (by omega)) (fun k => pu2_o (by omega) (by omega))
  have l2 : ∀ q, q < 240 → pu2 X o n 77 q < 256 := fun q hq => by rw [pu2_o (by omega) (by omega)]; exact hl q hq
  have r2 : ∀ r, r < 64 → ∀ j, j < 8 → pu2 X o n (6 + r) j < 256 := fun r h1 j h2 => by rw [pu2_o (by omega) (by omega)]; exact hr r h1 j h2
  refine sg_iln (pc := 0) C d_S_put_0 rfl ?_
  refine sg_bi (pc := 1) (v := 12) C d_S_put_1 (by decide) ?_
  refine sm_callS (pc := 3) (As := [.int (nI o), .int (nI 12)]) C I (c_S_checkIndex l Ω (by omega) (by decide)) cw_S_63 sw_S_checkIndex rfl (by decide) ⟨by decide, by decide⟩ rfl (Nat.le_of_ble_eq_true rfl) d_S_put_3 (sm_det_v ?_)
  refine sg_iln (pc := 6) C d_S_put_6 rfl ?_
  refine sr_iflt (pc := 7) (tgt := 17) C d_S_put_7 (by decide) (fun h7 => absurd h7 (nI_pos (by omega))) (fun h7 => ?_)
  refine sg_iln (pc := 10) C d_S_put_10 rfl ?_
  refine sg_si (pc := 11) (v := 240) C d_S_put_11 (by decide) ?_
  refine sg_icle (pc := 14) (tgt := 25) C d_S_put_14 (by decide) (by omega) (by omega) (fun h14 => ?_) (fun h14 => absurd h14 (by omega))
  refine sg_aln (pc := 25) C d_S_put_25 rfl ?_
  refine sg_iln (pc := 26) C d_S_put_26 rfl ?_
  refine sm_callV (pc := 27) (As := [.int (nI o)]) C I (c_S_checkNotStopped l Ω hf ho hst) cw_S_70 iw_S_checkNotStopped (C.1.2.2.2.2 _ (List.mem_cons_of_mem _ se_S_checkNotStopped)) (by omega) rfl rfl rfl rfl (by decide) ⟨by decide, by decide⟩ rfl (Nat.le_of_ble_eq_true rfl) d_S_put_27 (sm_det_v ?_)
  refine sg_aln (pc := 30) C d_S_put_30 rfl ?_
  refine sm_callV (pc := 31) (As := []) C I (c_S_countLive l Ω hf) cw_S_73 iw_S_countLive (C.1.2.2.2.2 _ (List.mem_cons_of_mem _ se_S_countLive)) (by omega) rfl rfl rfl rfl (by decide) ⟨by decide, by decide⟩ rfl (Nat.le_of_ble_eq_true rfl) d_S_put_31 (sm_det_i ?_)
  refine sg_is3 (pc := 34) C d_S_put_34 ?_
  refine sg_iln (pc := 35) C d_S_put_35 rfl ?_
  refine sg_bi (pc := 36) (v := 9) C d_S_put_36 (by decide) ?_
  refine sg_icge (pc := 38) (tgt := 49) C d_S_put_38 (by decide) (by omega) (by omega) (fun h38 => ?_) (fun h38 => absurd h38 (by omega))
  refine sg_aln (pc := 49) C d_S_put_49 rfl ?_
  refine sg_getr (pc := 50) C fw_S_31 (by omega) rfl rfl rfl d_S_put_50 ?_
  refine sg_iln (pc := 53) C d_S_put_53 rfl ?_
  refine sg_aald (pc := 54) (n := 12) (t := 5) C (by omega) rfl (by decide) rfl rfl (by omega) (by decide) (rf_items (by omega)) d_S_put_54 ?_
  refine sg_as4 (pc := 55) C d_S_put_55 ?_
  refine sg_al (pc := 57) C d_S_put_57 rfl ?_
  refine sg_iln (pc := 59) C d_S_put_59 rfl ?_
  refine sm_callV (pc := 60) (As := [.int (nI n)]) C I (c_I_begin l Ω (by omega) (sh_I ho)) cw_S_80 iw_I_begin (C.1.2.2.2.2 _ (List.mem_cons_of_mem _ se_I_begin)) (by omega) (sh_I (by omega)) rfl rfl rfl (by decide) ⟨by decide, by decide⟩ rfl (Nat.le_of_ble_eq_true rfl) d_S_put_60 (sm_det_v ?_)
  change sm_G Γ Ω 723 0 0 (60 + 3) _ _ (puB X o n) (sm_rf w)
  refine sg_aln (pc := 63) C d_S_put_63 rfl ?_
  refine sg_ic (pc := 64) (v := 2) C d_S_put_64 (by decide) ?_
  refine sg_iln (pc := 65) C d_S_put_65 rfl ?_
  refine sg_mul (pc := 66) C d_S_put_66 ?_
  refine sm_callV (pc := 67) (As := [.int (nI (2 * (sm_n (slv X) 12)))]) C I (c_S_takeMessages l Ω (by omega) ht) cw_S_83 iw_S_takeMessages (C.1.2.2.2.2 _ (List.mem_cons_of_mem _ se_S_takeMessages)) (by omega) rfl rfl rfl rfl (by decide) ⟨by decide, by decide⟩ rfl (Nat.le_of_ble_eq_true rfl) d_S_put_67 (sm_det_i ?_)
  change sm_G Γ Ω 723 0 0 (67 + 3) _ _ (pu2 X o n) (sm_rf w)
  refine sg_is5 (pc := 70) C d_S_put_70 ?_
  refine sg_aln (pc := 72) C d_S_put_72 rfl ?_
  refine sg_iln (pc := 73) C d_S_put_73 rfl ?_
  refine sg_il (pc := 74) C d_S_put_74 rfl ?_
  refine sg_iln (pc := 76) C d_S_put_76 rfl ?_
  refine sg_icge (pc := 77) (tgt := 85) C d_S_put_77 (by decide) (by omega) (by omega) (fun h77 => absurd h77 (by omega)) (fun h77 => ?_)
  refine sg_il (pc := 80) C d_S_put_80 rfl ?_
  refine sg_goto (pc := 82) (tgt := 86) C d_S_put_82 (by decide) ?_
  refine sm_callV (pc := 86) (As := [.int (nI o), .int (nI m)]) C I (c_S_sendShadows l Ω hs2 ho (by omega) g2 l2 r2) cw_S_87 iw_S_sendShadows (C.1.2.2.2.2 _ (List.mem_cons_of_mem _ se_S_sendShadows)) (by omega) rfl rfl rfl rfl (by decide) ⟨by decide, by decide⟩ rfl (Nat.le_of_ble_eq_true rfl) d_S_put_86 (sm_det_v ?_)
  rw [i2.2.2.1, i2.2.2.2.1]
  change sm_G Γ Ω 723 0 0 (86 + 3) _ _ (pu3 X w o n m) (sm_rf w)
  refine sg_aln (pc := 89) C d_S_put_89 rfl ?_
  refine sg_iln (pc := 90) C d_S_put_90 rfl ?_
  refine sg_il (pc := 91) C d_S_put_91 rfl ?_
  refine sg_iln (pc := 93) C d_S_put_93 rfl ?_
  refine sr_isub (pc := 94) C d_S_put_94 rfl ?_
  refine sm_callV (pc := 95) (As := [.int (nI o), .int (nI m - nI (sm_n (slv X) 12))]) C I (c_S_turnShadowsN l Ω (x := nI m - nI (sm_n (slv X) 12)) (Int32.le_of_lt (pk_sneg (by omega) (by omega)))) cw_S_90 iw_S_turnShadows (C.1.2.2.2.2 _ (List.mem_cons_of_mem _ se_S_turnShadows)) (by omega) rfl rfl rfl rfl (by decide) ⟨by decide, by decide⟩ rfl (Nat.le_of_ble_eq_true rfl) d_S_put_95 (sm_det_v ?_)
  refine sg_il (pc := 98) C d_S_put_98 rfl ?_
  refine sg_ic (pc := 100) (v := 2) C d_S_put_100 (by decide) ?_
  refine sg_iln (pc := 101) C d_S_put_101 rfl ?_
  refine sg_mul (pc := 102) C d_S_put_102 ?_
  refine sg_icne (pc := 103) (tgt := 112) C d_S_put_103 (by decide) (by omega) (by omega) (fun h103 => ?_) (fun h103 => absurd h103 (by omega))
  refine sg_al (pc := 112) C d_S_put_112 rfl ?_
  refine sg_geti (pc := 114) C fw_S_97 (by omega) (sh_I (by omega)) rfl d_S_put_114 ?_
  rw [show pu3 X w o n m (691 + o) 2 = X (691 + o) 2 + 1 from (pu3_i hn).trans i2.2.2.1]
  exact sg_iret (pc := 117) C I rfl rfl d_S_put_117 ⟨rfl, rfl, rfl⟩

set_option maxHeartbeats 4000000 in
set_option maxRecDepth 100000 in
theorem x_S_put1 (l : Launch) (hl : l.stackTraces = false) (Ω : sm_Ω) {X : sm_X} {w : Nat → Nat → Nat} {x z : Int32} (hx : x < 0 ∨ nI 12 ≤ x) : sm_thr l Ω y_S_put b_S_put 6 (some .int) 7 [.ref (Ω.2.1 + 0), .int x, .int z] X (sm_rf w) eIO := by
  refine sm_introX (own := RX6) (L := [some (.ref (Ω.2.1 + 0)), some (.int x), some (.int z), none, none, none]) (by decide) rfl (by simp [Value.category]) (Nat.le_of_ble_eq_true rfl) rfl ?_
  intro Γ C J
  refine sg_iln (pc := 0) C d_S_put_0 rfl ?_
  refine sg_bi (pc := 1) (v := 12) C d_S_put_1 (by decide) ?_
  exact sm_callSX (pc := 3) (As := [.int x, .int (nI 12)]) C J (x_S_checkIndex l hl Ω hx) cw_S_63 sw_S_checkIndex rfl (by decide) rfl (Nat.le_of_ble_eq_true rfl) d_S_put_3

set_option maxHeartbeats 4000000 in
set_option maxRecDepth 100000 in
theorem x_S_put2 (l : Launch) (hl : l.stackTraces = false) (Ω : sm_Ω) {X : sm_X} {w : Nat → Nat → Nat} {o : Nat} {x : Int32} (ho : o < 12) (hx : x < 0 ∨ nI 240 < x) : sm_thr l Ω y_S_put b_S_put 6 (some .int) 7 [.ref (Ω.2.1 + 0), .int (nI o), .int x] X (sm_rf w) eIA := by
  refine sm_introX (own := RX6) (L := [some (.ref (Ω.2.1 + 0)), some (.int (nI o)), some (.int x), none, none, none]) (by decide) rfl (by simp [Value.category]) (Nat.le_of_ble_eq_true rfl) rfl ?_
  intro Γ C J
  refine sg_iln (pc := 0) C d_S_put_0 rfl ?_
  refine sg_bi (pc := 1) (v := 12) C d_S_put_1 (by decide) ?_
  refine sm_callS (pc := 3) (As := [.int (nI o), .int (nI 12)]) C J (c_S_checkIndex l Ω (by omega) (by decide)) cw_S_63 sw_S_checkIndex rfl (by decide) ⟨by decide, by decide⟩ rfl (Nat.le_of_ble_eq_true rfl) d_S_put_3 (sm_det_v ?_)
  refine sg_iln (pc := 6) C d_S_put_6 rfl ?_
  refine sr_iflt (pc := 7) (tgt := 17) C d_S_put_7 (by decide) (fun h7 => ?_) (fun h7 => ?_)
  · exact sg_throw (pc := 17) C J hl tw_S_67 d_S_put_17 d_S_put_20 d_S_put_21 d_S_put_24 (by decide) rfl (Nat.le_of_ble_eq_true rfl)
  · refine sg_iln (pc := 10) C d_S_put_10 rfl ?_
    refine sg_si (pc := 11) (v := 240) C d_S_put_11 (by decide) ?_
    refine sr_icle (pc := 14) (tgt := 25) C d_S_put_14 (by decide) (fun h14 => hx.elim (fun q => absurd q h7) (fun q => absurd h14 (Int32.not_le.mpr q))) (fun h14 => ?_)
    exact sg_throw (pc := 17) C J hl tw_S_67 d_S_put_17 d_S_put_20 d_S_put_21 d_S_put_24 (by decide) rfl (Nat.le_of_ble_eq_true rfl)

set_option maxHeartbeats 4000000 in
set_option maxRecDepth 100000 in
theorem x_S_put3 (l : Launch) (hl : l.stackTraces = false) (Ω : sm_Ω) {X : sm_X} {w : Nat → Nat → Nat} (hf : swf X w) {o n : Nat} (ho : o < 12) (hn : n ≤ 240) (hst : X (691 + o) 4 ≠ 0) : sm_thr l Ω y_S_put b_S_put 6 (some .int) 7 [.ref (Ω.2.1 + 0), .int (nI o), .int (nI n)] X (sm_rf w) eIS := by
  refine sm_introX (own := RX6) (L := [some (.ref (Ω.2.1 + 0)), some (.int (nI o)), some (.int (nI n)), none, none, none]) (by decide) rfl (by simp [Value.category]) (Nat.le_of_ble_eq_true rfl) rfl ?_
  intro Γ C J
  refine sg_iln (pc := 0) C d_S_put_0 rfl ?_
  refine sg_bi (pc := 1) (v := 12) C d_S_put_1 (by decide) ?_
  refine sm_callS (pc := 3) (As := [.int (nI o), .int (nI 12)]) C J (c_S_checkIndex l Ω (by omega) (by decide)) cw_S_63 sw_S_checkIndex rfl (by decide) ⟨by decide, by decide⟩ rfl (Nat.le_of_ble_eq_true rfl) d_S_put_3 (sm_det_v ?_)
  refine sg_iln (pc := 6) C d_S_put_6 rfl ?_
  refine sr_iflt (pc := 7) (tgt := 17) C d_S_put_7 (by decide) (fun h7 => absurd h7 (nI_pos (by omega))) (fun h7 => ?_)
  refine sg_iln (pc := 10) C d_S_put_10 rfl ?_
  refine sg_si (pc := 11) (v := 240) C d_S_put_11 (by decide) ?_
  refine sg_icle (pc := 14) (tgt := 25) C d_S_put_14 (by decide) (by omega) (by omega) (fun h14 => ?_) (fun h14 => absurd h14 (by omega))
  refine sg_aln (pc := 25) C d_S_put_25 rfl ?_
  refine sg_iln (pc := 26) C d_S_put_26 rfl ?_
  exact sm_callVX (pc := 27) (As := [.int (nI o)]) C J (x_S_checkNotStopped l hl Ω hf ho hst) cw_S_70 iw_S_checkNotStopped (C.1.2.2.2.2 _ (List.mem_cons_of_mem _ se_S_checkNotStopped)) (by omega) rfl rfl rfl rfl (by decide) rfl (Nat.le_of_ble_eq_true rfl) d_S_put_27

set_option maxHeartbeats 4000000 in
set_option maxRecDepth 100000 in
theorem x_S_put4 (l : Launch) (hl : l.stackTraces = false) (Ω : sm_Ω) {X : sm_X} {w : Nat → Nat → Nat} (hf : swf X w) {o n : Nat} (ho : o < 12) (hn : n ≤ 240) (hst : X (691 + o) 4 = 0) (h9 : (sm_n (slv X) 12) < 9) : sm_thr l Ω y_S_put b_S_put 6 (some .int) 7 [.ref (Ω.2.1 + 0), .int (nI o), .int (nI n)] X (sm_rf w) eUO := by
  refine sm_introX (own := RX6) (L := [some (.ref (Ω.2.1 + 0)), some (.int (nI o)), some (.int (nI n)), none, none, none]) (by decide) rfl (by simp [Value.category]) (Nat.le_of_ble_eq_true rfl) rfl ?_
  intro Γ C J
  refine sg_iln (pc := 0) C d_S_put_0 rfl ?_
  refine sg_bi (pc := 1) (v := 12) C d_S_put_1 (by decide) ?_
  refine sm_callS (pc := 3) (As := [.int (nI o), .int (nI 12)]) C J (c_S_checkIndex l Ω (by omega) (by decide)) cw_S_63 sw_S_checkIndex rfl (by decide) ⟨by decide, by decide⟩ rfl (Nat.le_of_ble_eq_true rfl) d_S_put_3 (sm_det_v ?_)
  refine sg_iln (pc := 6) C d_S_put_6 rfl ?_
  refine sr_iflt (pc := 7) (tgt := 17) C d_S_put_7 (by decide) (fun h7 => absurd h7 (nI_pos (by omega))) (fun h7 => ?_)
  refine sg_iln (pc := 10) C d_S_put_10 rfl ?_
  refine sg_si (pc := 11) (v := 240) C d_S_put_11 (by decide) ?_
  refine sg_icle (pc := 14) (tgt := 25) C d_S_put_14 (by decide) (by omega) (by omega) (fun h14 => ?_) (fun h14 => absurd h14 (by omega))
  refine sg_aln (pc := 25) C d_S_put_25 rfl ?_
  refine sg_iln (pc := 26) C d_S_put_26 rfl ?_
  refine sm_callV (pc := 27) (As := [.int (nI o)]) C J (c_S_checkNotStopped l Ω hf ho hst) cw_S_70 iw_S_checkNotStopped (C.1.2.2.2.2 _ (List.mem_cons_of_mem _ se_S_checkNotStopped)) (by omega) rfl rfl rfl rfl (by decide) ⟨by decide, by decide⟩ rfl (Nat.le_of_ble_eq_true rfl) d_S_put_27 (sm_det_v ?_)
  refine sg_aln (pc := 30) C d_S_put_30 rfl ?_
  refine sm_callV (pc := 31) (As := []) C J (c_S_countLive l Ω hf) cw_S_73 iw_S_countLive (C.1.2.2.2.2 _ (List.mem_cons_of_mem _ se_S_countLive)) (by omega) rfl rfl rfl rfl (by decide) ⟨by decide, by decide⟩ rfl (Nat.le_of_ble_eq_true rfl) d_S_put_31 (sm_det_i ?_)
  refine sg_is3 (pc := 34) C d_S_put_34 ?_
  refine sg_iln (pc := 35) C d_S_put_35 rfl ?_
  refine sg_bi (pc := 36) (v := 9) C d_S_put_36 (by decide) ?_
  refine sg_icge (pc := 38) (tgt := 49) C d_S_put_38 (by decide) (by omega) (by omega) (fun h38 => absurd h38 (by omega)) (fun h38 => ?_)
  exact sg_throw (pc := 41) C J hl tw_S_77 d_S_put_41 d_S_put_44 d_S_put_45 d_S_put_48 (by decide) rfl (Nat.le_of_ble_eq_true rfl)

set_option maxHeartbeats 4000000 in
set_option maxRecDepth 100000 in
theorem c_S_settle1 (l : Launch) (Ω : sm_Ω) {X : sm_X} {w : Nat → Nat → Nat} (hf : swf X w) {o : Nat} (ho : o < 12) (hst : X (691 + o) 4 ≠ 0) (hv : (sm_any (shs X w o (X (691 + o) 2)) 12) = true) : sm_met l Ω y_S_settle b_S_settle 4 (some .boolean) 4 723 [.ref (Ω.2.1 + 0), .int (nI o)] X (sm_rf w) (sm_det (some (.int (nI 1))) (sm_up (sm_up (sm_up (sds (stX (stT X w o 12) X w o 12) (stW (stT X w o 12) w o 12) o 12) (691 + o) 0 ((sds (stX (stT X w o 12) X w o 12) (stW (stT X w o 12) w o 12) o 12) (691 + o) 2)) (691 + o) 1 ((sds (stX (stT X w o 12) X w o 12) (stW (stT X w o 12) w o 12) o 12) (691 + o) 3)) (691 + o) 4 0) (sm_rf (stW (stT X w o 12) w o 12))) := by
  refine sm_intro (own := RX6) (L := [some (.ref (Ω.2.1 + 0)), some (.int (nI o)), none, none]) (by decide) rfl (by simp [Value.category]) (Nat.le_of_ble_eq_true rfl) rfl ?_
  intro Γ C I
  have gi := hf.2.2.1 o ho
  have g2 := gi.1 2 (by decide)
  refine sg_iln (pc := 0) C d_S_settle_0 rfl ?_
  refine sg_bi (pc := 1) (v := 12) C d_S_settle_1 (by decide) ?_
  refine sm_callS (pc := 3) (As := [.int (nI o), .int (nI 12)]) C I (c_S_checkIndex l Ω (by omega) (by decide)) cw_S_63 sw_S_checkIndex rfl (by decide) ⟨by decide, by decide⟩ rfl (Nat.le_of_ble_eq_true rfl) d_S_settle_3 (sm_det_v ?_)
  refine sg_aln (pc := 6) C d_S_settle_6 rfl ?_
  refine sg_getr (pc := 7) C fw_S_31 (by omega) rfl rfl rfl d_S_settle_7 ?_
  refine sg_iln (pc := 10) C d_S_settle_10 rfl ?_
  refine sg_aald (pc := 11) (n := 12) (t := 5) C (by omega) rfl (by decide) rfl rfl (by omega) (by decide) (rf_items (by omega)) d_S_settle_11 ?_
  refine sg_as2 (pc := 12) C d_S_settle_12 ?_
  refine sg_aln (pc := 13) C d_S_settle_13 rfl ?_
  refine sg_geti (pc := 14) C fw_S_100 (by omega) (sh_I (by omega)) rfl d_S_settle_14 ?_
  refine sg_ifne (pc := 17) (tgt := 28) C d_S_settle_17 (by decide) (by omega) (fun h17 => ?_) (fun h17 => absurd h17 hst)
  refine sg_aln (pc := 28) C d_S_settle_28 rfl ?_
  refine sg_iln (pc := 29) C d_S_settle_29 rfl ?_
  refine sg_aln (pc := 30) C d_S_settle_30 rfl ?_
  refine sg_geti (pc := 31) C fw_S_97 (by omega) (sh_I (by omega)) rfl d_S_settle_31 ?_
  refine sm_callV (pc := 34) (As := [.int (nI o), .int (nI (X (691 + o) 2))]) C I (c_S_someNodeHasShare l Ω hf ho (by omega)) cw_S_107 iw_S_someNodeHasShare (C.1.2.2.2.2 _ (List.mem_cons_of_mem _ se_S_someNodeHasShare)) (by omega) rfl rfl rfl rfl (by decide) ⟨by decide, by decide⟩ rfl (Nat.le_of_ble_eq_true rfl) d_S_settle_34 (sm_det_i ?_)
  rw [hv]
  change sm_G Γ Ω 723 0 0 (34 + 3) _ (.int (nI 1) :: _) _ _
  refine sg_is3 (pc := 37) C d_S_settle_37 ?_
  refine sg_iln (pc := 38) C d_S_settle_38 rfl ?_
  refine sg_ifeq (pc := 39) (tgt := 49) C d_S_settle_39 (by decide) (by omega) (fun h39 => absurd h39 (by decide)) (fun h39 => ?_)
  refine sg_aln (pc := 42) C d_S_settle_42 rfl ?_
  refine sg_iln (pc := 43) C d_S_settle_43 rfl ?_
  refine sg_bi (pc := 44) (v := 12) C d_S_settle_44 (by decide) ?_
  refine sm_callV (pc := 46) (As := [.int (nI o), .int (nI 12)]) C I (c_S_turnShadows l Ω hf ho (by decide)) cw_S_90 iw_S_turnShadows (C.1.2.2.2.2 _ (List.mem_cons_of_mem _ se_S_turnShadows)) (by omega) rfl rfl rfl rfl (by decide) ⟨by decide, by decide⟩ rfl (Nat.le_of_ble_eq_true rfl) d_S_settle_46 (sm_det_v ?_)
  refine sg_aln (pc := 49) C d_S_settle_49 rfl ?_
  refine sg_iln (pc := 50) C d_S_settle_50 rfl ?_
  refine sm_callV (pc := 51) (As := [.int (nI o)]) C I (c_S_dropShadows l Ω (swf_st hf (Nat.le_refl 12)) ho) cw_S_111 iw_S_dropShadows (C.1.2.2.2.2 _ (List.mem_cons_of_mem _ se_S_dropShadows)) (by omega) rfl rfl rfl rfl (by decide) ⟨by decide, by decide⟩ rfl (Nat.le_of_ble_eq_true rfl) d_S_settle_51 (sm_det_v ?_)
  refine sg_aln (pc := 54) C d_S_settle_54 rfl ?_
  refine sg_iln (pc := 55) C d_S_settle_55 rfl ?_
  refine sm_callV (pc := 56) (As := [.int (nI 1)]) C I (c_I_finish1 l Ω (by omega) (sh_I ho)) cw_S_93 iw_I_finish (C.1.2.2.2.2 _ (List.mem_cons_of_mem _ se_I_finish)) (by omega) (sh_I (by omega)) rfl rfl rfl (by decide) ⟨by decide, by decide⟩ rfl (Nat.le_of_ble_eq_true rfl) d_S_settle_56 (sm_det_v ?_)
  refine sg_iln (pc := 59) C d_S_settle_59 rfl ?_
  exact sg_iret (pc := 60) C I rfl (sn_b (by decide)) d_S_settle_60 ⟨rfl, rfl, rfl⟩

set_option maxHeartbeats 4000000 in
set_option maxRecDepth 100000 in
theorem c_S_settle0 (l : Launch) (Ω : sm_Ω) {X : sm_X} {w : Nat → Nat → Nat} (hf : swf X w) {o : Nat} (ho : o < 12) (hst : X (691 + o) 4 ≠ 0) (hv : (sm_any (shs X w o (X (691 + o) 2)) 12) = false) : sm_met l Ω y_S_settle b_S_settle 4 (some .boolean) 4 723 [.ref (Ω.2.1 + 0), .int (nI o)] X (sm_rf w) (sm_det (some (.int (nI 0))) (sm_up (sds X w o 12) (691 + o) 4 0) (sm_rf w)) := by
  refine sm_intro (own := RX6) (L := [some (.ref (Ω.2.1 + 0)), some (.int (nI o)), none, none]) (by decide) rfl (by simp [Value.category]) (Nat.le_of_ble_eq_true rfl) rfl ?_
  intro Γ C I
  have gi := hf.2.2.1 o ho
  have g2 := gi.1 2 (by decide)
  refine sg_iln (pc := 0) C d_S_settle_0 rfl ?_
  refine sg_bi (pc := 1) (v := 12) C d_S_settle_1 (by decide) ?_
  refine sm_callS (pc := 3) (As := [.int (nI o), .int (nI 12)]) C I (c_S_checkIndex l Ω (by omega) (by decide)) cw_S_63 sw_S_checkIndex rfl (by decide) ⟨by decide, by decide⟩ rfl (Nat.le_of_ble_eq_true rfl) d_S_settle_3 (sm_det_v ?_)
  refine sg_aln (pc := 6) C d_S_settle_6 rfl ?_
  refine sg_getr (pc := 7) C fw_S_31 (by omega) rfl rfl rfl d_S_settle_7 ?_
  refine sg_iln (pc := 10) C d_S_settle_10 rfl ?_
  refine sg_aald (pc := 11) (n := 12) (t := 5) C (by omega) rfl (by decide) rfl rfl (by omega) (by decide) (rf_items (by omega)) d_S_settle_11 ?_
  refine sg_as2 (pc := 12) C d_S_settle_12 ?_
  refine sg_aln (pc := 13) C d_S_settle_13 rfl ?_
  refine sg_geti (pc := 14) C fw_S_100 (by omega) (sh_I (by omega)) rfl d_S_settle_14 ?_
  refine sg_ifne (pc := 17) (tgt := 28) C d_S_settle_17 (by decide) (by omega) (fun h17 => ?_) (fun h17 => absurd h17 hst)
  refine sg_aln (pc := 28) C d_S_settle_28 rfl ?_
  refine sg_iln (pc := 29) C d_S_settle_29 rfl ?_
  refine sg_aln (pc := 30) C d_S_settle_30 rfl ?_
  refine sg_geti (pc := 31) C fw_S_97 (by omega) (sh_I (by omega)) rfl d_S_settle_31 ?_
  refine sm_callV (pc := 34) (As := [.int (nI o), .int (nI (X (691 + o) 2))]) C I (c_S_someNodeHasShare l Ω hf ho (by omega)) cw_S_107 iw_S_someNodeHasShare (C.1.2.2.2.2 _ (List.mem_cons_of_mem _ se_S_someNodeHasShare)) (by omega) rfl rfl rfl rfl (by decide) ⟨by decide, by decide⟩ rfl (Nat.le_of_ble_eq_true rfl) d_S_settle_34 (sm_det_i ?_)
  rw [hv]
  change sm_G Γ Ω 723 0 0 (34 + 3) _ (.int (nI 0) :: _) _ _
  refine sg_is3 (pc := 37) C d_S_settle_37 ?_
  refine sg_iln (pc := 38) C d_S_settle_38 rfl ?_
  refine sg_ifeq (pc := 39) (tgt := 49) C d_S_settle_39 (by decide) (by omega) (fun h39 => ?_) (fun h39 => absurd rfl h39)
  refine sg_aln (pc := 49) C d_S_settle_49 rfl ?_
  refine sg_iln (pc := 50) C d_S_settle_50 rfl ?_
  refine sm_callV (pc := 51) (As := [.int (nI o)]) C I (c_S_dropShadows l Ω hf ho) cw_S_111 iw_S_dropShadows (C.1.2.2.2.2 _ (List.mem_cons_of_mem _ se_S_dropShadows)) (by omega) rfl rfl rfl rfl (by decide) ⟨by decide, by decide⟩ rfl (Nat.le_of_ble_eq_true rfl) d_S_settle_51 (sm_det_v ?_)
  refine sg_aln (pc := 54) C d_S_settle_54 rfl ?_
  refine sg_iln (pc := 55) C d_S_settle_55 rfl ?_
  refine sm_callV (pc := 56) (As := [.int (nI 0)]) C I (c_I_finish0 l Ω (by omega) (sh_I ho)) cw_S_93 iw_I_finish (C.1.2.2.2.2 _ (List.mem_cons_of_mem _ se_I_finish)) (by omega) (sh_I (by omega)) rfl rfl rfl (by decide) ⟨by decide, by decide⟩ rfl (Nat.le_of_ble_eq_true rfl) d_S_settle_56 (sm_det_v ?_)
  refine sg_iln (pc := 59) C d_S_settle_59 rfl ?_
  exact sg_iret (pc := 60) C I rfl (sn_b (by decide)) d_S_settle_60 ⟨rfl, rfl, rfl⟩

set_option maxHeartbeats 4000000 in
set_option maxRecDepth 100000 in
theorem x_S_settle1 (l : Launch) (hl : l.stackTraces = false) (Ω : sm_Ω) {X : sm_X} {w : Nat → Nat → Nat} {x : Int32} (hx : x < 0 ∨ nI 12 ≤ x) : sm_thr l Ω y_S_settle b_S_settle 4 (some .boolean) 7 [.ref (Ω.2.1 + 0), .int x] X (sm_rf w) eIO := by
  refine sm_introX (own := RX6) (L := [some (.ref (Ω.2.1 + 0)), some (.int x), none, none]) (by decide) rfl (by simp [Value.category]) (Nat.le_of_ble_eq_true rfl) rfl ?_
  intro Γ C J
  refine sg_iln (pc := 0) C d_S_settle_0 rfl ?_
  refine sg_bi (pc := 1) (v := 12) C d_S_settle_1 (by decide) ?_
  exact sm_callSX (pc := 3) (As := [.int x, .int (nI 12)]) C J (x_S_checkIndex l hl Ω hx) cw_S_63 sw_S_checkIndex rfl (by decide) rfl (Nat.le_of_ble_eq_true rfl) d_S_settle_3

set_option maxHeartbeats 4000000 in
set_option maxRecDepth 100000 in
theorem x_S_settle2 (l : Launch) (hl : l.stackTraces = false) (Ω : sm_Ω) {X : sm_X} {w : Nat → Nat → Nat} (hf : swf X w) {o : Nat} (ho : o < 12) (hst : X (691 + o) 4 = 0) : sm_thr l Ω y_S_settle b_S_settle 4 (some .boolean) 7 [.ref (Ω.2.1 + 0), .int (nI o)] X (sm_rf w) eIS := by
  refine sm_introX (own := RX6) (L := [some (.ref (Ω.2.1 + 0)), some (.int (nI o)), none, none]) (by decide) rfl (by simp [Value.category]) (Nat.le_of_ble_eq_true rfl) rfl ?_
  intro Γ C J
  refine sg_iln (pc := 0) C d_S_settle_0 rfl ?_
  refine sg_bi (pc := 1) (v := 12) C d_S_settle_1 (by decide) ?_
  refine sm_callS (pc := 3) (As := [.int (nI o), .int (nI 12)]) C J (c_S_checkIndex l Ω (by omega) (by decide)) cw_S_63 sw_S_checkIndex rfl (by decide) ⟨by decide, by decide⟩ rfl (Nat.le_of_ble_eq_true rfl) d_S_settle_3 (sm_det_v ?_)
  refine sg_aln (pc := 6) C d_S_settle_6 rfl ?_
  refine sg_getr (pc := 7) C fw_S_31 (by omega) rfl rfl rfl d_S_settle_7 ?_
  refine sg_iln (pc := 10) C d_S_settle_10 rfl ?_
  refine sg_aald (pc := 11) (n := 12) (t := 5) C (by omega) rfl (by decide) rfl rfl (by omega) (by decide) (rf_items (by omega)) d_S_settle_11 ?_
  refine sg_as2 (pc := 12) C d_S_settle_12 ?_
  refine sg_aln (pc := 13) C d_S_settle_13 rfl ?_
  refine sg_geti (pc := 14) C fw_S_100 (by omega) (sh_I (by omega)) rfl d_S_settle_14 ?_
  refine sg_ifne (pc := 17) (tgt := 28) C d_S_settle_17 (by decide) (by omega) (fun h17 => absurd hst h17) (fun h17 => ?_)
  exact sg_throw (pc := 20) C J hl tw_S_104 d_S_settle_20 d_S_settle_23 d_S_settle_24 d_S_settle_27 (by decide) rfl (Nat.le_of_ble_eq_true rfl)
end
section
/-! get and rebuild -/
theorem mx_con {v : Nat → Nat} (i : Nat) : mx v (8 * (i / 30) + sm_row (i % 30)) (sm_col (i % 30)) = v i := by
  have hm := mx_rc (i % 30) (Nat.mod_lt _ (by decide))
  unfold mx
  rw [show (8 * (i / 30) + sm_row (i % 30)) % 8 = sm_row (i % 30) by omega, hm.2.2.2.1, if_pos (Nat.mod_lt _ (by decide)), show (8 * (i / 30) + sm_row (i % 30)) / 8 = i / 30 by omega]
  congr 1
  omega
def geP (X : sm_X) (v : Nat → Nat) (n : Nat) (Z : sm_X) : Prop := (∀ a j, (a < 6 ∨ 75 < a) → a ≠ 78 → ¬ (a = 0 ∧ j = 8) → Z a j = X a j) ∧ Z 0 8 = n ∧ (∀ i, i < n → Z 78 i = v i) ∧ (∀ r j, r < 64 → 5 ≤ r % 8 → 5 ≤ j → j < 8 → Z (6 + r) j = 0) ∧ ∀ r j, r < 64 → j < 8 → Z (6 + r) j < 256
theorem ge_end {X Z1 Z2 : sm_X} {p : Nat → Bool} {v : Nat → Nat} {n : Nat} (hn : n ≤ 240) (h1 : clP X p Z1) (h2 : dcI Z1 v (8 * ((n + 29) / 30)) 0 Z2) : geP X v n (sm_up (sm_uf Z2 78 (fun j => if j < n then Z2 (6 + (8 * (j / 30) + sm_row (j % 30))) (sm_col (j % 30)) else Z2 78 j)) 0 8 n) := by
  refine ⟨fun a j h3 h4 h5 => ?_, sm_up_s, fun i hi => ?_, fun r j h3 h4 h5 h6 => ?_, fun r j h3 h4 => ?_⟩
  · rw [sm_up_x (by omega), sm_uf_o h4, h2.1 a j (by omega)]
    exact h1.1 a j (by omega) (by omega) (by omega)
  · have hm := mx_rc (i % 30) (Nat.mod_lt _ (by decide))
    rw [sm_up_x (Or.inl (by decide)), sm_uf_s, if_pos hi, h2.2.1 _ _ (Nat.zero_le _) (by omega) hm.2.1]
    exact mx_con i
  · rw [sm_up_x (Or.inl (by omega)), sm_uf_o (by omega)]
    exact h2.2.2.2.1 r j h3 h4 h5 h6
  · rw [sm_up_x (Or.inl (by omega)), sm_uf_o (by omega)]
    exact h2.2.2.2.2 r j h3 h4

set_option maxHeartbeats 4000000 in
set_option maxRecDepth 100000 in
theorem c_S_get (l : Launch) (Ω : sm_Ω) {X : sm_X} {w : Nat → Nat → Nat} (hf : swf X w) {o m : Nat} (ho : o < 12) (hm : m < 4096) (hst : X (691 + o) 4 = 0) (hz0 : 0 < (X (691 + o) 1)) (hG : gal X) (h5 : 5 ≤ sm_n (saf X w o m) 12) {v : Nat → Nat} (hv : ∀ i, v i < 256) (hB : ∀ k, k < 12 → (saf X w o m) k = true → ∀ i, i < (8 * (((X (691 + o) 1) + 29) / 30)) → X (83 + 51 * k + 4 * o + 2 * w k o) i = mx_b v (k + 1) i)
    (hz : ∀ r j, r < 64 → 5 ≤ r % 8 → 5 ≤ j → j < 8 → X (6 + r) j = 0) (hr : ∀ r j, r < 64 → j < 8 → X (6 + r) j < 256) : sm_met l Ω y_S_get b_S_get 5 (some .int) 4 723 [.ref (Ω.2.1 + 0), .int (nI o), .int (nI m)] X (sm_rf w) (fun r Z Y2 => r = some (.int (nI (X (691 + o) 1))) ∧ geP X v (X (691 + o) 1) Z ∧ Y2 = sm_rf w) := by
  refine sm_intro (own := RX6) (L := [some (.ref (Ω.2.1 + 0)), some (.int (nI o)), some (.int (nI m)), none, none]) (by decide) rfl (by simp [Value.category]) (Nat.le_of_ble_eq_true rfl) rfl ?_
  intro Γ C I
  have gi := hf.2.2.1 o ho
  have hkl := sm_k_lt (saf X w o m) 12
  have hpk := pop_k (saf X w o m)
  have hpl := sm_n_le (saf X w o m) 12
  refine sg_iln (pc := 0) C d_S_get_0 rfl ?_
  refine sg_bi (pc := 1) (v := 12) C d_S_get_1 (by decide) ?_
  refine sm_callS (pc := 3) (As := [.int (nI o), .int (nI 12)]) C I (c_S_checkIndex l Ω (by omega) (by decide)) cw_S_63 sw_S_checkIndex rfl (by decide) ⟨by decide, by decide⟩ rfl (Nat.le_of_ble_eq_true rfl) d_S_get_3 (sm_det_v ?_)
  refine sg_iln (pc := 6) C d_S_get_6 rfl ?_
  refine sm_callS (pc := 7) (As := [.int (nI m)]) C I (c_S_checkMask l Ω hm) cw_S_114 sw_S_checkMask rfl (by decide) ⟨by decide, by decide⟩ rfl (Nat.le_of_ble_eq_true rfl) d_S_get_7 (sm_det_v ?_)
  refine sg_aln (pc := 10) C d_S_get_10 rfl ?_
  refine sg_iln (pc := 11) C d_S_get_11 rfl ?_
  refine sm_callV (pc := 12) (As := [.int (nI o)]) C I (c_S_checkNotStopped l Ω hf ho hst) cw_S_70 iw_S_checkNotStopped (C.1.2.2.2.2 _ (List.mem_cons_of_mem _ se_S_checkNotStopped)) (by omega) rfl rfl rfl rfl (by decide) ⟨by decide, by decide⟩ rfl (Nat.le_of_ble_eq_true rfl) d_S_get_12 (sm_det_v ?_)
  refine sg_aln (pc := 15) C d_S_get_15 rfl ?_
  refine sg_getr (pc := 16) C fw_S_31 (by omega) rfl rfl rfl d_S_get_16 ?_
  refine sg_iln (pc := 19) C d_S_get_19 rfl ?_
  refine sg_aald (pc := 20) (n := 12) (t := 5) C (by omega) rfl (by decide) rfl rfl (by omega) (by decide) (rf_items (by omega)) d_S_get_20 ?_
  refine sg_geti (pc := 21) C fw_S_117 (by omega) (sh_I (by omega)) rfl d_S_get_21 ?_
  refine sg_is3 (pc := 24) C d_S_get_24 ?_
  refine sg_iln (pc := 25) C d_S_get_25 rfl ?_
  refine sg_ifne (pc := 26) (tgt := 37) C d_S_get_26 (by decide) (by omega) (fun h26 => ?_) (fun h26 => absurd h26 (by omega))
  refine sg_aln (pc := 37) C d_S_get_37 rfl ?_
  refine sg_iln (pc := 38) C d_S_get_38 rfl ?_
  refine sg_iln (pc := 39) C d_S_get_39 rfl ?_
  refine sm_callV (pc := 40) (As := [.int (nI o), .int (nI m)]) C I (c_S_liveAndFresh l Ω hf ho hm) cw_S_123 iw_S_liveAndFresh (C.1.2.2.2.2 _ (List.mem_cons_of_mem _ se_S_liveAndFresh)) (by omega) rfl rfl rfl rfl (by decide) ⟨by decide, by decide⟩ rfl (Nat.le_of_ble_eq_true rfl) d_S_get_40 (sm_det_i ?_)
  refine sg_is4 (pc := 43) C d_S_get_43 ?_
  refine sg_il (pc := 45) C d_S_get_45 rfl ?_
  refine sm_callS (pc := 47) (As := [.int (nI (sm_k (saf X w o m) 12))]) C I (c_J_bitCount l Ω (by omega)) cw_S_127 sw_J_bitCount rfl (by decide) ⟨by decide, by decide⟩ rfl (Nat.le_of_ble_eq_true rfl) d_S_get_47 (sm_det_i ?_)
  rw [hpk]
  refine sg_ic (pc := 50) (v := 5) C d_S_get_50 (by decide) ?_
  refine sg_icge (pc := 51) (tgt := 62) C d_S_get_51 (by decide) (by omega) (by omega) (fun h51 => ?_) (fun h51 => absurd h51 (by omega))
  refine sg_aln (pc := 62) C d_S_get_62 rfl ?_
  refine sg_il (pc := 63) C d_S_get_63 rfl ?_
  refine sm_callV (pc := 65) (As := [.int (nI (sm_k (saf X w o m) 12))]) C I (c_S_chooseLowest l Ω h5) cw_S_132 iw_S_chooseLowest (C.1.2.2.2.2 _ (List.mem_cons_of_mem _ se_S_chooseLowest)) (by omega) rfl rfl rfl rfl (by decide) ⟨by decide, by decide⟩ rfl (Nat.le_of_ble_eq_true rfl) d_S_get_65 (fun v1 Z1 Y1 hp1 => ?_)
  obtain ⟨rfl, hc1, rfl⟩ := hp1
  change sm_G Γ Ω 723 0 0 (65 + 3) _ [] Z1 (sm_rf w)
  refine sg_aln (pc := 68) C d_S_get_68 rfl ?_
  refine sg_getr (pc := 69) C fw_S_19 (by omega) rfl rfl rfl d_S_get_69 ?_
  refine sg_aln (pc := 72) C d_S_get_72 rfl ?_
  refine sg_getr (pc := 73) C fw_S_12 (by omega) rfl rfl rfl d_S_get_73 ?_
  refine sg_aln (pc := 76) C d_S_get_76 rfl ?_
  refine sg_getr (pc := 77) C fw_S_25 (by omega) rfl rfl rfl d_S_get_77 ?_
  refine sg_iln (pc := 80) C d_S_get_80 rfl ?_
  refine sg_aln (pc := 81) C d_S_get_81 rfl ?_
  refine sg_getr (pc := 82) C fw_S_38 (by omega) rfl rfl rfl d_S_get_82 ?_
  refine sg_iln (pc := 85) C d_S_get_85 rfl ?_
  refine sm_callV (pc := 86) (As := [.ref (Ω.2.1 + 1), .ref (Ω.2.1 + 71), .int (nI o), .ref (Ω.2.1 + 73), .int (nI (X (691 + o) 1))]) C I (c_M_decode l Ω (X := Z1) hf.1 ho hz0 gi.2.2.1 (gal_of hG (fun k => hc1.1 2 k (by omega) (by decide) (by decide)) (fun k => hc1.1 3 k (by omega) (by decide) (by decide))) hv (fun k hk => ⟨(hc1.2.1 k hk).1, (hc1.2.1 k hk).2.2⟩) (fun a b ha hb he => (Nat.lt_trichotomy a b).elim (fun q => by have := hc1.2.2 a b q hb; omega) (fun q => q.elim id (fun q => by have := hc1.2.2 b a q ha; omega))) (fun k hk i hi => by have h9 := hc1.2.1 k hk; have hwk := hf.1 (Z1 74 k) o; rw [hc1.1 _ _ (by omega) (by omega) (by omega)]; exact hB _ h9.1 h9.2.1 i hi) (fun r j h1 h2 h3 h4 => by rw [hc1.1 _ _ (by omega) (by omega) (by omega)]; exact hz r j h1 h2 h3 h4) (fun r j h1 h2 => by rw [hc1.1 _ _ (by omega) (by omega) (by omega)]; exact hr r j h1 h2)) cw_S_135 iw_M_decode (C.1.2.2.2.2 _ (List.mem_cons_of_mem _ se_M_decode)) (by omega) rfl rfl rfl rfl (by decide) ⟨by decide, by decide⟩ rfl (Nat.le_of_ble_eq_true rfl) d_S_get_86 (fun v2 Z2 Y2 hp2 => ?_)
  obtain ⟨rfl, hd2, rfl⟩ := hp2
  change sm_G Γ Ω 723 0 0 (86 + 3) _ [] Z2 (sm_rf w)
  refine sg_aln (pc := 89) C d_S_get_89 rfl ?_
  refine sg_getr (pc := 90) C fw_S_19 (by omega) rfl rfl rfl d_S_get_90 ?_
  refine sg_aln (pc := 93) C d_S_get_93 rfl ?_
  refine sg_getr (pc := 94) C fw_S_49 (by omega) rfl rfl rfl d_S_get_94 ?_
  refine sg_iln (pc := 97) C d_S_get_97 rfl ?_
  refine sm_callV (pc := 98) (As := [.ref (Ω.2.1 + 78), .int (nI (X (691 + o) 1))]) C I (c_M_spill l Ω gi.2.2.1) cw_S_139 iw_M_spill (C.1.2.2.2.2 _ (List.mem_cons_of_mem _ se_M_spill)) (by omega) rfl rfl rfl rfl (by decide) ⟨by decide, by decide⟩ rfl (Nat.le_of_ble_eq_true rfl) d_S_get_98 (sm_det_v ?_)
  refine sg_aln (pc := 101) C d_S_get_101 rfl ?_
  refine sg_iln (pc := 102) C d_S_get_102 rfl ?_
  refine sg_puti (pc := 103) C pw_S_52 (by omega) rfl rfl rfl rfl d_S_get_103 ?_
  refine sg_iln (pc := 106) C d_S_get_106 rfl ?_
  exact sg_iret (pc := 107) C I rfl rfl d_S_get_107 ⟨rfl, ge_end gi.2.2.1 hc1 hd2, rfl⟩

set_option maxHeartbeats 4000000 in
set_option maxRecDepth 100000 in
theorem x_S_get1 (l : Launch) (hl : l.stackTraces = false) (Ω : sm_Ω) {X : sm_X} {w : Nat → Nat → Nat} {x z : Int32} (hx : x < 0 ∨ nI 12 ≤ x) : sm_thr l Ω y_S_get b_S_get 5 (some .int) 7 [.ref (Ω.2.1 + 0), .int x, .int z] X (sm_rf w) eIO := by
  refine sm_introX (own := RX6) (L := [some (.ref (Ω.2.1 + 0)), some (.int x), some (.int z), none, none]) (by decide) rfl (by simp [Value.category]) (Nat.le_of_ble_eq_true rfl) rfl ?_
  intro Γ C J
  refine sg_iln (pc := 0) C d_S_get_0 rfl ?_
  refine sg_bi (pc := 1) (v := 12) C d_S_get_1 (by decide) ?_
  exact sm_callSX (pc := 3) (As := [.int x, .int (nI 12)]) C J (x_S_checkIndex l hl Ω hx) cw_S_63 sw_S_checkIndex rfl (by decide) rfl (Nat.le_of_ble_eq_true rfl) d_S_get_3

set_option maxHeartbeats 4000000 in
set_option maxRecDepth 100000 in
theorem x_S_get2 (l : Launch) (hl : l.stackTraces = false) (Ω : sm_Ω) {X : sm_X} {w : Nat → Nat → Nat} {o : Nat} {x : Int32} (ho : o < 12) (hx : ¬ x &&& (-4096) = 0) : sm_thr l Ω y_S_get b_S_get 5 (some .int) 7 [.ref (Ω.2.1 + 0), .int (nI o), .int x] X (sm_rf w) eIA := by
  refine sm_introX (own := RX6) (L := [some (.ref (Ω.2.1 + 0)), some (.int (nI o)), some (.int x), none, none]) (by decide) rfl (by simp [Value.category]) (Nat.le_of_ble_eq_true rfl) rfl ?_
  intro Γ C J
  refine sg_iln (pc := 0) C d_S_get_0 rfl ?_
  refine sg_bi (pc := 1) (v := 12) C d_S_get_1 (by decide) ?_
  refine sm_callS (pc := 3) (As := [.int (nI o), .int (nI 12)]) C J (c_S_checkIndex l Ω (by omega) (by decide)) cw_S_63 sw_S_checkIndex rfl (by decide) ⟨by decide, by decide⟩ rfl (Nat.le_of_ble_eq_true rfl) d_S_get_3 (sm_det_v ?_)
  refine sg_iln (pc := 6) C d_S_get_6 rfl ?_
  exact sm_callSX (pc := 7) (As := [.int x]) C J (x_S_checkMask l hl Ω hx) cw_S_114 sw_S_checkMask rfl (by decide) rfl (Nat.le_of_ble_eq_true rfl) d_S_get_7

set_option maxHeartbeats 4000000 in
set_option maxRecDepth 100000 in
theorem x_S_get3 (l : Launch) (hl : l.stackTraces = false) (Ω : sm_Ω) {X : sm_X} {w : Nat → Nat → Nat} (hf : swf X w) {o m : Nat} (ho : o < 12) (hm : m < 4096) (hst : X (691 + o) 4 ≠ 0) : sm_thr l Ω y_S_get b_S_get 5 (some .int) 7 [.ref (Ω.2.1 + 0), .int (nI o), .int (nI m)] X (sm_rf w) eIS := by
  refine sm_introX (own := RX6) (L := [some (.ref (Ω.2.1 + 0)), some (.int (nI o)), some (.int (nI m)), none, none]) (by decide) rfl (by simp [Value.category]) (Nat.le_of_ble_eq_true rfl) rfl ?_
  intro Γ C J
  refine sg_iln (pc := 0) C d_S_get_0 rfl ?_
  refine sg_bi (pc := 1) (v := 12) C d_S_get_1 (by decide) ?_
  refine sm_callS (pc := 3) (As := [.int (nI o), .int (nI 12)]) C J (c_S_checkIndex l Ω (by omega) (by decide)) cw_S_63 sw_S_checkIndex rfl (by decide) ⟨by decide, by decide⟩ rfl (Nat.le_of_ble_eq_true rfl) d_S_get_3 (sm_det_v ?_)
  refine sg_iln (pc := 6) C d_S_get_6 rfl ?_
  refine sm_callS (pc := 7) (As := [.int (nI m)]) C J (c_S_checkMask l Ω hm) cw_S_114 sw_S_checkMask rfl (by decide) ⟨by decide, by decide⟩ rfl (Nat.le_of_ble_eq_true rfl) d_S_get_7 (sm_det_v ?_)
  refine sg_aln (pc := 10) C d_S_get_10 rfl ?_
  refine sg_iln (pc := 11) C d_S_get_11 rfl ?_
  exact sm_callVX (pc := 12) (As := [.int (nI o)]) C J (x_S_checkNotStopped l hl Ω hf ho hst) cw_S_70 iw_S_checkNotStopped (C.1.2.2.2.2 _ (List.mem_cons_of_mem _ se_S_checkNotStopped)) (by omega) rfl rfl rfl rfl (by decide) rfl (Nat.le_of_ble_eq_true rfl) d_S_get_12

set_option maxHeartbeats 4000000 in
set_option maxRecDepth 100000 in
theorem x_S_get4 (l : Launch) (hl : l.stackTraces = false) (Ω : sm_Ω) {X : sm_X} {w : Nat → Nat → Nat} (hf : swf X w) {o m : Nat} (ho : o < 12) (hm : m < 4096) (hst : X (691 + o) 4 = 0) (hz0 : (X (691 + o) 1) = 0) : sm_thr l Ω y_S_get b_S_get 5 (some .int) 7 [.ref (Ω.2.1 + 0), .int (nI o), .int (nI m)] X (sm_rf w) eNS := by
  refine sm_introX (own := RX6) (L := [some (.ref (Ω.2.1 + 0)), some (.int (nI o)), some (.int (nI m)), none, none]) (by decide) rfl (by simp [Value.category]) (Nat.le_of_ble_eq_true rfl) rfl ?_
  intro Γ C J
  refine sg_iln (pc := 0) C d_S_get_0 rfl ?_
  refine sg_bi (pc := 1) (v := 12) C d_S_get_1 (by decide) ?_
  refine sm_callS (pc := 3) (As := [.int (nI o), .int (nI 12)]) C J (c_S_checkIndex l Ω (by omega) (by decide)) cw_S_63 sw_S_checkIndex rfl (by decide) ⟨by decide, by decide⟩ rfl (Nat.le_of_ble_eq_true rfl) d_S_get_3 (sm_det_v ?_)
  refine sg_iln (pc := 6) C d_S_get_6 rfl ?_
  refine sm_callS (pc := 7) (As := [.int (nI m)]) C J (c_S_checkMask l Ω hm) cw_S_114 sw_S_checkMask rfl (by decide) ⟨by decide, by decide⟩ rfl (Nat.le_of_ble_eq_true rfl) d_S_get_7 (sm_det_v ?_)
  refine sg_aln (pc := 10) C d_S_get_10 rfl ?_
  refine sg_iln (pc := 11) C d_S_get_11 rfl ?_
  refine sm_callV (pc := 12) (As := [.int (nI o)]) C J (c_S_checkNotStopped l Ω hf ho hst) cw_S_70 iw_S_checkNotStopped (C.1.2.2.2.2 _ (List.mem_cons_of_mem _ se_S_checkNotStopped)) (by omega) rfl rfl rfl rfl (by decide) ⟨by decide, by decide⟩ rfl (Nat.le_of_ble_eq_true rfl) d_S_get_12 (sm_det_v ?_)
  refine sg_aln (pc := 15) C d_S_get_15 rfl ?_
  refine sg_getr (pc := 16) C fw_S_31 (by omega) rfl rfl rfl d_S_get_16 ?_
  refine sg_iln (pc := 19) C d_S_get_19 rfl ?_
  refine sg_aald (pc := 20) (n := 12) (t := 5) C (by omega) rfl (by decide) rfl rfl (by omega) (by decide) (rf_items (by omega)) d_S_get_20 ?_
  refine sg_geti (pc := 21) C fw_S_117 (by omega) (sh_I (by omega)) rfl d_S_get_21 ?_
  refine sg_is3 (pc := 24) C d_S_get_24 ?_
  refine sg_iln (pc := 25) C d_S_get_25 rfl ?_
  refine sg_ifne (pc := 26) (tgt := 37) C d_S_get_26 (by decide) (by omega) (fun h26 => absurd hz0 h26) (fun h26 => ?_)
  exact sg_throw (pc := 29) C J hl tw_S_120 d_S_get_29 d_S_get_32 d_S_get_33 d_S_get_36 (by decide) rfl (Nat.le_of_ble_eq_true rfl)

set_option maxHeartbeats 4000000 in
set_option maxRecDepth 100000 in
theorem x_S_get5 (l : Launch) (hl : l.stackTraces = false) (Ω : sm_Ω) {X : sm_X} {w : Nat → Nat → Nat} (hf : swf X w) {o m : Nat} (ho : o < 12) (hm : m < 4096) (hst : X (691 + o) 4 = 0) (hz0 : 0 < (X (691 + o) 1)) (h5 : sm_n (saf X w o m) 12 < 5) : sm_thr l Ω y_S_get b_S_get 5 (some .int) 7 [.ref (Ω.2.1 + 0), .int (nI o), .int (nI m)] X (sm_rf w) eUO := by
  refine sm_introX (own := RX6) (L := [some (.ref (Ω.2.1 + 0)), some (.int (nI o)), some (.int (nI m)), none, none]) (by decide) rfl (by simp [Value.category]) (Nat.le_of_ble_eq_true rfl) rfl ?_
  intro Γ C J
  have gi := hf.2.2.1 o ho
  have hkl := sm_k_lt (saf X w o m) 12
  have hpk := pop_k (saf X w o m)
  have hpl := sm_n_le (saf X w o m) 12
  refine sg_iln (pc := 0) C d_S_get_0 rfl ?_
  refine sg_bi (pc := 1) (v := 12) C d_S_get_1 (by decide) ?_
  refine sm_callS (pc := 3) (As := [.int (nI o), .int (nI 12)]) C J (c_S_checkIndex l Ω (by omega) (by decide)) cw_S_63 sw_S_checkIndex rfl (by decide) ⟨by decide, by decide⟩ rfl (Nat.le_of_ble_eq_true rfl) d_S_get_3 (sm_det_v ?_)
  refine sg_iln (pc := 6) C d_S_get_6 rfl ?_
  refine sm_callS (pc := 7) (As := [.int (nI m)]) C J (c_S_checkMask l Ω hm) cw_S_114 sw_S_checkMask rfl (by decide) ⟨by decide, by decide⟩ rfl (Nat.le_of_ble_eq_true rfl) d_S_get_7 (sm_det_v ?_)
  refine sg_aln (pc := 10) C d_S_get_10 rfl ?_
  refine sg_iln (pc := 11) C d_S_get_11 rfl ?_
  refine sm_callV (pc := 12) (As := [.int (nI o)]) C J (c_S_checkNotStopped l Ω hf ho hst) cw_S_70 iw_S_checkNotStopped (C.1.2.2.2.2 _ (List.mem_cons_of_mem _ se_S_checkNotStopped)) (by omega) rfl rfl rfl rfl (by decide) ⟨by decide, by decide⟩ rfl (Nat.le_of_ble_eq_true rfl) d_S_get_12 (sm_det_v ?_)
  refine sg_aln (pc := 15) C d_S_get_15 rfl ?_
  refine sg_getr (pc := 16) C fw_S_31 (by omega) rfl rfl rfl d_S_get_16 ?_
  refine sg_iln (pc := 19) C d_S_get_19 rfl ?_
  refine sg_aald (pc := 20) (n := 12) (t := 5) C (by omega) rfl (by decide) rfl rfl (by omega) (by decide) (rf_items (by omega)) d_S_get_20 ?_
  refine sg_geti (pc := 21) C fw_S_117 (by omega) (sh_I (by omega)) rfl d_S_get_21 ?_
  refine sg_is3 (pc := 24) C d_S_get_24 ?_
  refine sg_iln (pc := 25) C d_S_get_25 rfl ?_
  refine sg_ifne (pc := 26) (tgt := 37) C d_S_get_26 (by decide) (by omega) (fun h26 => ?_) (fun h26 => absurd h26 (by omega))
  refine sg_aln (pc := 37) C d_S_get_37 rfl ?_
  refine sg_iln (pc := 38) C d_S_get_38 rfl ?_
  refine sg_iln (pc := 39) C d_S_get_39 rfl ?_
  refine sm_callV (pc := 40) (As := [.int (nI o), .int (nI m)]) C J (c_S_liveAndFresh l Ω hf ho hm) cw_S_123 iw_S_liveAndFresh (C.1.2.2.2.2 _ (List.mem_cons_of_mem _ se_S_liveAndFresh)) (by omega) rfl rfl rfl rfl (by decide) ⟨by decide, by decide⟩ rfl (Nat.le_of_ble_eq_true rfl) d_S_get_40 (sm_det_i ?_)
  refine sg_is4 (pc := 43) C d_S_get_43 ?_
  refine sg_il (pc := 45) C d_S_get_45 rfl ?_
  refine sm_callS (pc := 47) (As := [.int (nI (sm_k (saf X w o m) 12))]) C J (c_J_bitCount l Ω (by omega)) cw_S_127 sw_J_bitCount rfl (by decide) ⟨by decide, by decide⟩ rfl (Nat.le_of_ble_eq_true rfl) d_S_get_47 (sm_det_i ?_)
  rw [hpk]
  refine sg_ic (pc := 50) (v := 5) C d_S_get_50 (by decide) ?_
  refine sg_icge (pc := 51) (tgt := 62) C d_S_get_51 (by decide) (by omega) (by omega) (fun h51 => absurd h51 (by omega)) (fun h51 => ?_)
  exact sg_throw (pc := 54) C J hl tw_S_77 d_S_get_54 d_S_get_57 d_S_get_58 d_S_get_61 (by decide) rfl (Nat.le_of_ble_eq_true rfl)

/-! rebuild: the same choices as functions of the counts of sent bytes -/
def bs (s : Nat → Nat) (p : Nat → Bool) : Nat → Nat
  | 0 => 0
  | k + 1 => if p k = true ∧ (bs s p k = 0 ∨ s k < s (bs s p k - 1)) then k + 1 else bs s p k
theorem bst_bs {X : sm_X} {p : Nat → Bool} : ∀ k, bst X p k = bs (fun n => X (79 + 51 * n) 4) p k
  | 0 => rfl
  | k + 1 => by
    show (if p k = true ∧ (bst X p k = 0 ∨ X (79 + 51 * k) 4 < X (79 + 51 * (bst X p k - 1)) 4) then k + 1 else bst X p k) = _
    rw [bst_bs k]
    rfl
def cQ (s : Nat → Nat) (p : Nat → Bool) : Nat → (Nat → Bool)
  | 0 => p
  | k + 1 => fun j => cQ s p k j && decide (j ≠ bs s (cQ s p k) 12 - 1)
def cN (s : Nat → Nat) (p : Nat → Bool) (k : Nat) : Nat := bs s (cQ s p k) 12 - 1
theorem cP_cQ {X : sm_X} {p : Nat → Bool} : ∀ k, cP X p k = cQ (fun n => X (79 + 51 * n) 4) p k
  | 0 => rfl
  | k + 1 => by
    show (fun j => cP X p k j && decide (j ≠ bst X (cP X p k) 12 - 1)) = _
    rw [cP_cQ k, bst_bs]
    rfl
theorem cM_cN {X : sm_X} {p : Nat → Bool} (k : Nat) : cM X p k = cN (fun n => X (79 + 51 * n) 4) p k := by
  unfold cM cN
  rw [cP_cQ, bst_bs]
theorem bs_le {s : Nat → Nat} {p : Nat → Bool} : ∀ k, bs s p k ≤ k
  | 0 => Nat.le_refl 0
  | k + 1 => by
    have ih := bs_le (s := s) (p := p) k
    show (if p k = true ∧ (bs s p k = 0 ∨ s k < s (bs s p k - 1)) then k + 1 else bs s p k) ≤ k + 1
    split <;> omega
theorem bs_congr {s t : Nat → Nat} {p : Nat → Bool} (h : ∀ n, n < 12 → s n = t n) : ∀ k, k ≤ 12 → bs s p k = bs t p k
  | 0, _ => rfl
  | k + 1, hk => by
    have hb := bs_le (s := t) (p := p) k
    show (if p k = true ∧ (bs s p k = 0 ∨ s k < s (bs s p k - 1)) then k + 1 else bs s p k) = (if p k = true ∧ (bs t p k = 0 ∨ t k < t (bs t p k - 1)) then k + 1 else bs t p k)
    rw [bs_congr h k (by omega), h k (by omega), h (bs t p k - 1) (by omega)]
theorem cQ_congr {s t : Nat → Nat} {p : Nat → Bool} (h : ∀ n, n < 12 → s n = t n) : ∀ k, cQ s p k = cQ t p k
  | 0 => rfl
  | k + 1 => by
    show (fun j => cQ s p k j && decide (j ≠ bs s (cQ s p k) 12 - 1)) = (fun j => cQ t p k j && decide (j ≠ bs t (cQ t p k) 12 - 1))
    rw [cQ_congr h k, bs_congr h 12 (Nat.le_refl 12)]
theorem cN_congr {s t : Nat → Nat} {p : Nat → Bool} (h : ∀ n, n < 12 → s n = t n) (k : Nat) : cN s p k = cN t p k := by
  unfold cN
  rw [cQ_congr h, bs_congr h 12 (Nat.le_refl 12)]
/-- is q among the eight chosen? -/
def chs (s : Nat → Nat) (p : Nat → Bool) (q : Nat) : Bool := sm_any (fun i => decide (cN s p i = q)) 8
/-- the nodes of a mask but one -/
def moff (m n : Nat) : Nat := sm_k (fun j => bitp m j && decide (j ≠ n)) 12
theorem moff_lt (m n : Nat) : moff m n < 4096 := sm_k_lt _ 12
theorem moff_b {m n j : Nat} (h : moff m n / 2 ^ j % 2 = 1) : j < 12 ∧ j ≠ n := by
  have h1 : (moff m n).testBit j = true := by rw [Nat.testBit_eq_decide_div_mod_eq]; exact decide_eq_true h
  unfold moff at h1
  rw [sm_k_tb] at h1
  simp at h1
  exact ⟨h1.1, h1.2.2⟩
def rbs (X : sm_X) (k : Nat) : Nat := (X (691 + k) 1 + 29) / 30
def rS (X : sm_X) (w : Nat → Nat → Nat) (n m : Nat) : Nat → Nat → Nat
  | 0, q => X (79 + 51 * q) 4
  | k + 1, q => rS X w n m k q + (if snr X w n k = true ∧ 0 < X (691 + k) 1 ∧ chs (rS X w n m k) (saf X w k (moff m n)) q = true then rbs X k else 0)
def rT (X : sm_X) (w : Nat → Nat → Nat) (n : Nat) : Nat → Nat
  | 0 => 0
  | k + 1 => rT X w n k + (if snr X w n k = true then 8 * rbs X k else 0)
/-- what rebuilding the objects below k has made of the store -/
def rI (X : sm_X) (w : Nat → Nat → Nat) (v : Nat → Nat → Nat) (n m k : Nat) (Z : sm_X) : Prop :=
  (∀ a j, a ≠ 74 → a ≠ 75 → a ≠ 76 → ¬ (a = 73 ∧ j = 2) → ¬ (j = 4 ∧ ∃ q, q < 12 ∧ a = 79 + 51 * q) → ¬ (∃ p, p < k ∧ snr X w n p = true ∧ (a = 82 + 51 * n + 4 * p + 2 * w n p ∧ j < 2 ∨ a = 83 + 51 * n + 4 * p + 2 * w n p)) → Z a j = X a j) ∧
  (∀ q, q < 12 → Z (79 + 51 * q) 4 = rS X w n m k q) ∧
  ∀ p, p < k → snr X w n p = true → Z (82 + 51 * n + 4 * p + 2 * w n p) 0 = X (691 + p) 0 ∧ Z (82 + 51 * n + 4 * p + 2 * w n p) 1 = X (691 + p) 1 ∧ ∀ i, i < 8 * rbs X p → Z (83 + 51 * n + 4 * p + 2 * w n p) i = mx_b (v p) (n + 1) i
section
variable {X Z : sm_X} {w : Nat → Nat → Nat} {v : Nat → Nat → Nat} {n m k : Nat}
theorem rI_it (hI : rI X w v n m k Z) (hn : n < 12) (hk : k ≤ 12) (hw : ∀ n o, w n o < 2) {p j : Nat} (hp : p < 12) (hj : j < 5) : Z (691 + p) j = X (691 + p) j := hI.1 _ _ (by omega) (by omega) (by omega) (by omega) (by rintro ⟨-, q, hq, e⟩; omega) (by rintro ⟨q, hq, -, e⟩; have := hw n q; omega)
theorem rI_nd (hI : rI X w v n m k Z) (hn : n < 12) (hk : k ≤ 12) (hw : ∀ n o, w n o < 2) {q j : Nat} (hq : q < 12) (hj : j ≠ 4) : Z (79 + 51 * q) j = X (79 + 51 * q) j := hI.1 _ _ (by omega) (by omega) (by omega) (by omega) (by rintro ⟨h, -⟩; exact hj h) (by rintro ⟨p, hp, -, e⟩; have := hw n p; omega)
theorem rI_sh (hI : rI X w v n m k Z) (hn : n < 12) (hk : k ≤ 12) (hw : ∀ n o, w n o < 2) {q p b j : Nat} (hq : q < 12) (hp : p < 12) (hb : b < 2) (h : q ≠ n ∨ k ≤ p ∨ b ≠ w n p) : Z (82 + 51 * q + 4 * p + 2 * b) j = X (82 + 51 * q + 4 * p + 2 * b) j ∧ Z (83 + 51 * q + 4 * p + 2 * b) j = X (83 + 51 * q + 4 * p + 2 * b) j := by
  have hwp := hw n p
  refine ⟨hI.1 _ _ (by omega) (by omega) (by omega) (by omega) (by rintro ⟨-, r, hr, e⟩; omega) ?_, hI.1 _ _ (by omega) (by omega) (by omega) (by omega) (by rintro ⟨-, r, hr, e⟩; omega) ?_⟩
  · rintro ⟨r, hr, -, e⟩
    have hwr := hw n r
    have e1 : q = n ∧ p = r ∧ b = w n r := by omega
    obtain ⟨e2, e3, e4⟩ := e1
    subst e3
    omega
  · rintro ⟨r, hr, -, e⟩
    have hwr := hw n r
    have e1 : q = n ∧ p = r ∧ b = w n r := by omega
    obtain ⟨e2, e3, e4⟩ := e1
    subst e3
    omega
theorem rI_saf (hI : rI X w v n m k Z) (hn : n < 12) (hk : k ≤ 12) (hw : ∀ n o, w n o < 2) {p : Nat} (hp : p < 12) : saf Z w p (moff m n) = saf X w p (moff m n) := by
  funext j
  unfold saf
  by_cases h : moff m n / 2 ^ j % 2 = 1
  · have hj := moff_b h
    have e1 : slv Z j = slv X j := by unfold slv; rw [rI_nd hI hn hk hw hj.1 (by decide)]
    have e2 : sfr Z w j p = sfr X w j p := by unfold sfr; rw [(rI_sh hI hn hk hw hj.1 hp (hw j p) (Or.inl hj.2)).1, rI_it hI hn hk hw hp (by decide)]
    rw [e1, e2]
  · rw [decide_eq_false h, Bool.false_and, Bool.false_and]
theorem rI_snr (hI : rI X w v n m k Z) (hn : n < 12) (hk : k ≤ 12) (hw : ∀ n o, w n o < 2) {p : Nat} (hp : p < 12) (hkp : k ≤ p) : snr Z w n p = snr X w n p := by
  unfold snr sfr
  rw [rI_it hI hn hk hw hp (by decide), rI_it hI hn hk hw hp (by decide), (rI_sh hI hn hk hw hn hp (hw n p) (Or.inr (Or.inl hkp))).1]
theorem rS_le (hf : swf X w) : ∀ k, k ≤ 12 → ∀ q, rS X w n m k q ≤ X (79 + 51 * q) 4 + 8 * k
  | 0, _, q => Nat.le_refl _
  | k + 1, hk, q => by
    have ih := rS_le hf k (by omega) q
    have := (hf.2.2.1 k (by omega)).2.2.1
    show rS X w n m k q + (if snr X w n k = true ∧ 0 < X (691 + k) 1 ∧ chs (rS X w n m k) (saf X w k (moff m n)) q = true then rbs X k else 0) ≤ _
    unfold rbs
    split <;> omega
theorem rT_le (hf : swf X w) : ∀ k, k ≤ 12 → rT X w n k ≤ 64 * k
  | 0, _ => Nat.le_refl _
  | k + 1, hk => by
    have ih := rT_le hf k (by omega)
    have := (hf.2.2.1 k (by omega)).2.2.1
    show rT X w n k + (if snr X w n k = true then 8 * rbs X k else 0) ≤ _
    unfold rbs
    split <;> omega
theorem rI_swf (hI : rI X w v n m k Z) (hf : swf X w) (hn : n < 12) (hk : k ≤ 12) (hs : ∀ q, q < 12 → X (79 + 51 * q) 4 + 96 < 2 ^ 30) : swf Z w := by
  have hw := hf.1
  refine ⟨hw, fun q hq => ?_, fun p hp => ?_, fun q p b hq hp hb => ?_⟩
  · rw [rI_nd hI hn hk hw hq (by decide), rI_nd hI hn hk hw hq (by decide), hI.2.1 q hq]
    have h1 := hf.2.1 q hq
    have h2 := rS_le (n := n) (m := m) hf k hk q
    have h3 := hs q hq
    exact ⟨h1.1, h1.2.1, by omega⟩
  · rw [rI_it hI hn hk hw hp (by decide), rI_it hI hn hk hw hp (by decide), rI_it hI hn hk hw hp (by decide)]
    refine ⟨fun j hj => ?_, (hf.2.2.1 p hp).2⟩
    rw [rI_it hI hn hk hw hp (by omega)]
    exact (hf.2.2.1 p hp).1 j hj
  · by_cases h : q = n ∧ p < k ∧ b = w n p
    · obtain ⟨rfl, hpk, rfl⟩ := h
      by_cases hn2 : snr X w q p = true
      · have h2 := hI.2.2 p hpk hn2
        have h3 := hf.2.2.1 p hp
        rw [h2.1, h2.2.1]
        exact ⟨h3.1 0 (by decide), h3.2.2.1⟩
      · have h4 : ∀ j, Z (82 + 51 * q + 4 * p + 2 * w q p) j = X (82 + 51 * q + 4 * p + 2 * w q p) j := fun j => hI.1 _ _ (by omega) (by omega) (by omega) (by omega) (by rintro ⟨-, r, hr, e⟩; have := hw q p; omega) (by
          rintro ⟨r, hr, hr2, e⟩
          have hwr := hw q r
          have hwp := hw q p
          have e1 : p = r := by omega
          subst e1
          exact hn2 hr2)
        rw [h4, h4]
        exact hf.2.2.2 q p (w q p) hq hp hb
    · rw [(rI_sh hI hn hk hw hq hp hb (by omega)).1, (rI_sh hI hn hk hw hq hp hb (by omega)).1]
      exact hf.2.2.2 q p b hq hp hb
theorem rI_f (hI : rI X w v n m k Z) (h : snr X w n k = false) : rI X w v n m (k + 1) Z := by
  refine ⟨fun a j h1 h2 h3 h4 h5 h6 => hI.1 a j h1 h2 h3 h4 h5 (fun ⟨p, hp, q⟩ => h6 ⟨p, by omega, q⟩), fun q hq => ?_, fun p hp hp2 => ?_⟩
  · show _ = rS X w n m k q + (if snr X w n k = true ∧ _ then _ else 0)
    rw [if_neg (by rw [h]; simp), Nat.add_zero]
    exact hI.2.1 q hq
  · by_cases e : p = k
    · subst e; rw [h] at hp2; cases hp2
    · exact hI.2.2 p (by omega) hp2
theorem rI_0 (hI : rI X w v n m k Z) (hn : n < 12) (hk : k < 12) (hw : ∀ n o, w n o < 2) (h : snr X w n k = true) (hz : X (691 + k) 1 = 0) : rI X w v n m (k + 1) (sm_up (sm_up Z (82 + 51 * n + 4 * k + 2 * w n k) 0 (Z (691 + k) 0)) (82 + 51 * n + 4 * k + 2 * w n k) 1 (Z (691 + k) 1)) := by
  have hwk := hw n k
  refine ⟨fun a j h1 h2 h3 h4 h5 h6 => ?_, fun q hq => ?_, fun p hp hp2 => ?_⟩
  · have h7 : ¬ (a = 82 + 51 * n + 4 * k + 2 * w n k ∧ j < 2) := fun q => h6 ⟨k, by omega, h, Or.inl q⟩
    rw [sm_up_x (by omega), sm_up_x (by omega)]
    exact hI.1 a j h1 h2 h3 h4 h5 (fun ⟨p, hp, q⟩ => h6 ⟨p, by omega, q⟩)
  · rw [sm_up_x (Or.inl (by omega)), sm_up_x (Or.inl (by omega)), hI.2.1 q hq]
    show _ = rS X w n m k q + (if snr X w n k = true ∧ 0 < X (691 + k) 1 ∧ _ then _ else 0)
    rw [if_neg (by omega), Nat.add_zero]
  · by_cases e : p = k
    · subst e
      refine ⟨?_, ?_, fun i hi => absurd hi (by unfold rbs; omega)⟩
      · rw [sm_up_x (Or.inr (by decide)), sm_up_s]
        exact rI_it hI hn (by omega) hw hk (by decide)
      · rw [sm_up_s]
        exact rI_it hI hn (by omega) hw hk (by decide)
    · have hwp := hw n p
      have h8 := hI.2.2 p (by omega) hp2
      rw [sm_up_x (Or.inl (by omega)), sm_up_x (Or.inl (by omega)), sm_up_x (Or.inl (by omega)), sm_up_x (Or.inl (by omega))]
      refine ⟨h8.1, h8.2.1, fun i hi => ?_⟩
      rw [sm_up_x (Or.inl (by omega)), sm_up_x (Or.inl (by omega))]
      exact h8.2.2 i hi
theorem rI_1 {Z2 : sm_X} (hI : rI X w v n m k Z) (hn : n < 12) (hk : k < 12) (hw : ∀ n o, w n o < 2) (h : snr X w n k = true) (hz : 0 < X (691 + k) 1) (h8 : 8 ≤ sm_n (saf X w k (moff m n)) 12)
    (hR : rbI (rbX Z w n k (moff m n)) (v k) n (83 + 51 * n + 4 * k + 2 * w n k) (rbs X k) Z2) : rI X w v n m (k + 1) Z2 := by
  have hwk := hw n k
  have hs := rI_saf hI hn (by omega) hw hk
  have hc : ∀ i, cM Z (saf Z w k (moff m n)) i = cN (rS X w n m k) (saf X w k (moff m n)) i := fun i => by
    rw [cM_cN, hs]
    exact cN_congr (fun q hq => hI.2.1 q hq) i
  have h8z : 8 ≤ sm_n (saf Z w k (moff m n)) 12 := by rw [hs]; exact h8
  have h74 : ∀ i, i < 8 → rbX Z w n k (moff m n) 74 i = cN (rS X w n m k) (saf X w k (moff m n)) i ∧ cN (rS X w n m k) (saf X w k (moff m n)) i < 12 := fun i hi => by
    rw [(rbX_74 hi).1, hc, ← hc]
    exact ⟨rfl, (cM_ok (X := Z) h8z hi).2.1⟩
  refine ⟨fun a j h1 h2 h3 h4 h5 h6 => ?_, fun q hq => ?_, fun p hp hp2 => ?_⟩
  · have h7 : ¬ (a = 82 + 51 * n + 4 * k + 2 * w n k ∧ j < 2) := fun q => h6 ⟨k, by omega, h, Or.inl q⟩
    have h9 : a ≠ 83 + 51 * n + 4 * k + 2 * w n k := fun q => h6 ⟨k, by omega, h, Or.inr q⟩
    rw [hR.1 a j h3 (fun q => h9 q.1) (by rintro ⟨q1, i, hi, e⟩; exact h5 ⟨q1, _, (h74 i hi).2, by rw [← (h74 i hi).1]; exact e⟩), rbX_o h1 h2 h4 h7]
    exact hI.1 a j h1 h2 h3 h4 h5 (fun ⟨p, hp, q⟩ => h6 ⟨p, by omega, q⟩)
  · have eZ : rbX Z w n k (moff m n) (79 + 51 * q) 4 = rS X w n m k q := (rbX_o (by omega) (by omega) (by omega) (by omega)).trans (hI.2.1 q hq)
    show _ = rS X w n m k q + (if snr X w n k = true ∧ 0 < X (691 + k) 1 ∧ chs (rS X w n m k) (saf X w k (moff m n)) q = true then rbs X k else 0)
    by_cases hch : ∃ i, i < 8 ∧ cN (rS X w n m k) (saf X w k (moff m n)) i = q
    · obtain ⟨i, hi, e⟩ := hch
      have h9 := hR.2.1 i hi
      rw [(h74 i hi).1, e, eZ] at h9
      rw [h9, if_pos ⟨h, hz, sm_any_t hi (decide_eq_true e)⟩]
    · have hch2 : chs (rS X w n m k) (saf X w k (moff m n)) q = false := sm_any_f (fun i hi => decide_eq_false (fun e => hch ⟨i, hi, e⟩))
      rw [hch2, if_neg (by simp), Nat.add_zero, hR.1 _ _ (by omega) (by omega) (by rintro ⟨-, i, hi, e⟩; rw [(h74 i hi).1] at e; exact hch ⟨i, hi, by omega⟩)]
      exact eZ
  · by_cases e : p = k
    · subst e
      have hB : ∀ j, j < 2 → Z2 (82 + 51 * n + 4 * p + 2 * w n p) j = rbX Z w n p (moff m n) (82 + 51 * n + 4 * p + 2 * w n p) j := fun j hj => hR.1 _ _ (by omega) (by omega) (by rintro ⟨q1, i, hi, e⟩; omega)
      refine ⟨?_, ?_, hR.2.2⟩
      · rw [hB 0 (by decide)]
        unfold rbX
        rw [sm_up_x (Or.inr (by decide)), sm_up_s]
        exact rI_it hI hn (by omega) hw hk (by decide)
      · rw [hB 1 (by decide)]
        unfold rbX
        rw [sm_up_s]
        exact rI_it hI hn (by omega) hw hk (by decide)
    · have hwp := hw n p
      have h9 := hI.2.2 p (by omega) hp2
      have hB : ∀ a j, (a = 82 + 51 * n + 4 * p + 2 * w n p ∧ j < 2 ∨ a = 83 + 51 * n + 4 * p + 2 * w n p) → Z2 a j = Z a j := fun a j ha => (hR.1 a j (by omega) (by omega) (by rintro ⟨q1, i, hi, e⟩; have := (h74 i hi); omega)).trans (rbX_o (by omega) (by omega) (by omega) (by omega))
      rw [hB _ 0 (Or.inl ⟨rfl, by decide⟩), hB _ 1 (Or.inl ⟨rfl, by decide⟩)]
      refine ⟨h9.1, h9.2.1, fun i hi => ?_⟩
      rw [hB _ i (Or.inr rfl)]
      exact h9.2.2 i hi
end
end
section
/-! rebuild -/
theorem sn_off {m n : Nat} (hm : m < 4096) : nI m &&& (nI (2 ^ n) ^^^ (-1)) = nI (moff m n) := by
  have h := sn_clr (bitp m) n
  rw [mk_self hm] at h
  exact h
theorem saf_n {X : sm_X} {w : Nat → Nat → Nat} {o m n : Nat} : saf X w o (moff m n) n = false := by
  unfold saf
  rw [decide_eq_false (fun h => (moff_b h).2 rfl), Bool.false_and]

set_option maxHeartbeats 4000000 in
set_option maxRecDepth 100000 in
theorem c_S_rebuild (l : Launch) (Ω : sm_Ω) {X : sm_X} {w : Nat → Nat → Nat} (hf : swf X w) {n m : Nat} (hn : n < 12) (hm : m < 4096) (hlv : X (79 + 51 * n) 3 ≠ 0) (hG : gal X) (hs : ∀ q, q < 12 → X (79 + 51 * q) 4 + 96 < 2 ^ 30) (hchk : ∀ k, k < 12 → snr X w n k = true → slh X w k (moff m n) = false) {v : Nat → Nat → Nat} (hv : ∀ k i, v k i < 256)
    (hB : ∀ k, k < 12 → snr X w n k = true → ∀ j, j < 12 → saf X w k (moff m n) j = true → ∀ i, i < 8 * rbs X k → X (83 + 51 * j + 4 * k + 2 * w j k) i = mx_b (v k) (j + 1) i) : sm_met l Ω y_S_rebuild b_S_rebuild 6 (some .int) 5 723 [.ref (Ω.2.1 + 0), .int (nI n), .int (nI m)] X (sm_rf w) (fun r Z Y2 => r = some (.int (nI (rT X w n 12))) ∧ rI X w v n m 12 Z ∧ Y2 = sm_rf w) := by
  refine sm_intro (own := RX6) (L := [some (.ref (Ω.2.1 + 0)), some (.int (nI n)), some (.int (nI m)), none, none, none]) (by decide) rfl (by simp [Value.category]) (Nat.le_of_ble_eq_true rfl) rfl ?_
  intro Γ C I
  have hw := hf.1
  refine sg_iln (pc := 0) C d_S_rebuild_0 rfl ?_
  refine sg_bi (pc := 1) (v := 12) C d_S_rebuild_1 (by decide) ?_
  refine sm_callS (pc := 3) (As := [.int (nI n), .int (nI 12)]) C I (c_S_checkIndex l Ω (by omega) (by decide)) cw_S_63 sw_S_checkIndex rfl (by decide) ⟨by decide, by decide⟩ rfl (Nat.le_of_ble_eq_true rfl) d_S_rebuild_3 (sm_det_v ?_)
  refine sg_iln (pc := 6) C d_S_rebuild_6 rfl ?_
  refine sm_callS (pc := 7) (As := [.int (nI m)]) C I (c_S_checkMask l Ω hm) cw_S_114 sw_S_checkMask rfl (by decide) ⟨by decide, by decide⟩ rfl (Nat.le_of_ble_eq_true rfl) d_S_rebuild_7 (sm_det_v ?_)
  refine sg_aln (pc := 10) C d_S_rebuild_10 rfl ?_
  refine sg_iln (pc := 11) C d_S_rebuild_11 rfl ?_
  refine sm_callV (pc := 12) (As := [.int (nI n)]) C I (c_S_checkLive l Ω hf hn hlv) cw_S_146 iw_S_checkLive (C.1.2.2.2.2 _ (List.mem_cons_of_mem _ se_S_checkLive)) (by omega) rfl rfl rfl rfl (by decide) ⟨by decide, by decide⟩ rfl (Nat.le_of_ble_eq_true rfl) d_S_rebuild_12 (sm_det_v ?_)
  refine sg_iln (pc := 15) C d_S_rebuild_15 rfl ?_
  refine sg_ic (pc := 16) (v := 1) C d_S_rebuild_16 (by decide) ?_
  refine sg_iln (pc := 17) C d_S_rebuild_17 rfl ?_
  refine sr_ishl (pc := 18) C d_S_rebuild_18 (sn_shl n hn) ?_
  refine sg_icm (pc := 19) (v := -1) C d_S_rebuild_19 (by decide) ?_
  refine sr_ixor (pc := 20) C d_S_rebuild_20 rfl ?_
  refine sr_iand (pc := 21) C d_S_rebuild_21 (sn_off hm) ?_
  refine sg_is3 (pc := 22) C d_S_rebuild_22 ?_
  refine sg_ic (pc := 23) (v := 0) C d_S_rebuild_23 (by decide) ?_
  refine sg_is4 (pc := 24) C d_S_rebuild_24 ?_
  have loop1 : ∀ t k z, k + t = 12 → sm_G Γ Ω 723 0 0 26 [some (.ref (Ω.2.1 + 0)), some (.int (nI n)), some (.int (nI m)), some (.int (nI (moff m n))), some (.int (nI k)), z] [] X (sm_rf w) := by
    intro t
    induction t with
    | zero =>
      intro k z hk
      refine sg_il (pc := 26) C d_S_rebuild_26 rfl ?_
      refine sg_bi (pc := 28) (v := 12) C d_S_rebuild_28 (by decide) ?_
      refine sg_icge (pc := 30) (tgt := 67) C d_S_rebuild_30 (by decide) (by omega) (by omega) (fun h30 => ?_) (fun h30 => absurd h30 (by omega))
      refine sg_ic (pc := 67) (v := 0) C d_S_rebuild_67 (by decide) ?_
      refine sg_is4 (pc := 68) C d_S_rebuild_68 ?_
      refine sg_ic (pc := 70) (v := 0) C d_S_rebuild_70 (by decide) ?_
      refine sg_is5 (pc := 71) C d_S_rebuild_71 ?_
      have loop2 : ∀ t k (Z : sm_X), k + t = 12 → rI X w v n m k Z → sm_G Γ Ω 723 0 0 73 [some (.ref (Ω.2.1 + 0)), some (.int (nI n)), some (.int (nI m)), some (.int (nI (moff m n))), some (.int (nI (rT X w n k))), some (.int (nI k))] [] Z (sm_rf w) := by
        intro t
        induction t with
        | zero =>
          intro k Z hk hI
          refine sg_il (pc := 73) C d_S_rebuild_73 rfl ?_
          refine sg_bi (pc := 75) (v := 12) C d_S_rebuild_75 (by decide) ?_
          refine sg_icge (pc := 77) (tgt := 114) C d_S_rebuild_77 (by decide) (by omega) (by omega) (fun h77 => ?_) (fun h77 => absurd h77 (by omega))
          refine sg_il (pc := 114) C d_S_rebuild_114 rfl ?_
          exact sg_iret (pc := 116) C I rfl rfl d_S_rebuild_116 ⟨by rw [show k = 12 by omega], by rw [show k = 12 by omega] at hI; exact hI, rfl⟩
        | succ t ih2 =>
          intro k Z hk hI
          have hb1 := b2_lt (snr X w n k)
          have hsz := rI_swf hI hf hn (by omega) hs
          have hst := rT_le (n := n) hf k (by omega)
          have i0 : ∀ j, j < 5 → Z (691 + k) j = X (691 + k) j := fun j hj => rI_it hI hn (by omega) hw (by omega) hj
          have gi := hf.2.2.1 k (by omega)
          have eT : rT X w n (k + 1) = rT X w n k + (if snr X w n k = true then 8 * rbs X k else 0) := rfl
          have gz : gal Z := gal_of hG (fun j => hI.1 2 j (by decide) (by decide) (by decide) (by omega) (by rintro ⟨-, q, hq, e⟩; omega) (by rintro ⟨q, hq, -, e⟩; omega)) (fun j => hI.1 3 j (by decide) (by decide) (by decide) (by omega) (by rintro ⟨-, q, hq, e⟩; omega) (by rintro ⟨q, hq, -, e⟩; omega))
          refine sg_il (pc := 73) C d_S_rebuild_73 rfl ?_
          refine sg_bi (pc := 75) (v := 12) C d_S_rebuild_75 (by decide) ?_
          refine sg_icge (pc := 77) (tgt := 114) C d_S_rebuild_77 (by decide) (by omega) (by omega) (fun h77 => absurd h77 (by omega)) (fun h77 => ?_)
          refine sg_aln (pc := 80) C d_S_rebuild_80 rfl ?_
          refine sg_iln (pc := 81) C d_S_rebuild_81 rfl ?_
          refine sg_il (pc := 82) C d_S_rebuild_82 rfl ?_
          refine sm_callV (pc := 84) (As := [.int (nI n), .int (nI k)]) C I (c_S_needsRebuild l Ω hsz hn (by omega)) cw_S_155 iw_S_needsRebuild (C.1.2.2.2.2 _ (List.mem_cons_of_mem _ se_S_needsRebuild)) (by omega) rfl rfl rfl rfl (by decide) ⟨by decide, by decide⟩ rfl (Nat.le_of_ble_eq_true rfl) d_S_rebuild_84 (sm_det_i ?_)
          rw [rI_snr hI hn (by omega) hw (by omega) (Nat.le_refl k)]
          refine sg_ifeq (pc := 87) (tgt := 108) C d_S_rebuild_87 (by decide) (by omega) (fun h87 => ?_) (fun h87 => ?_)
          · refine sg_inc5 (pc := 108) (n := 1) C d_S_rebuild_108 (by decide) ?_
            refine sg_goto (pc := 111) (tgt := 73) C d_S_rebuild_111 (by decide) ?_
            have h := ih2 (k + 1) Z (by omega) (rI_f hI (b2_0 h87))
            rw [eT, if_neg (by rw [b2_0 h87]; decide), Nat.add_zero] at h
            exact h
          · rcases Nat.eq_zero_or_pos (X (691 + k) 1) with hz | hz
            · refine sg_il (pc := 90) C d_S_rebuild_90 rfl ?_
              refine sg_aln (pc := 92) C d_S_rebuild_92 rfl ?_
              refine sg_aln (pc := 93) C d_S_rebuild_93 rfl ?_
              refine sg_getr (pc := 94) C fw_S_25 (by omega) rfl rfl rfl d_S_rebuild_94 ?_
              refine sg_iln (pc := 97) C d_S_rebuild_97 rfl ?_
              refine sg_aald (pc := 98) (n := 12) (t := 4) C (by omega) rfl (by decide) rfl rfl (by omega) (by decide) (rf_nodes (by omega)) d_S_rebuild_98 ?_
              refine sg_il (pc := 99) C d_S_rebuild_99 rfl ?_
              refine sg_iln (pc := 101) C d_S_rebuild_101 rfl ?_
              refine sm_callV (pc := 102) (As := [.ref (Ω.2.1 + (79 + 51 * n)), .int (nI k), .int (nI (moff m n))]) C I (c_S_rebuildShare0 l Ω (X := Z) hsz hn (by omega) (by rw [i0 1 (by decide)]; exact hz)) cw_S_161 iw_S_rebuildShare (C.1.2.2.2.2 _ (List.mem_cons_of_mem _ se_S_rebuildShare)) (by omega) rfl rfl rfl rfl (by decide) ⟨by decide, by decide⟩ rfl (Nat.le_of_ble_eq_true rfl) d_S_rebuild_102 (sm_det_i ?_)
              refine sg_add (pc := 105) C d_S_rebuild_105 ?_
              refine sg_is4 (pc := 106) C d_S_rebuild_106 ?_
              refine sg_inc5 (pc := 108) (n := 1) C d_S_rebuild_108 (by decide) ?_
              refine sg_goto (pc := 111) (tgt := 73) C d_S_rebuild_111 (by decide) ?_
              have h := ih2 (k + 1) _ (by omega) (rI_0 hI hn (by omega) hw (b2_1 h87) hz)
              rw [eT, if_pos (b2_1 h87), show 8 * rbs X k = 0 by unfold rbs; omega] at h
              exact h
            · have hs8 := rI_saf hI hn (by omega) hw (show k < 12 by omega)
              have h8 : 8 ≤ sm_n (saf X w k (moff m n)) 12 := by
                have hq := hchk k (by omega) (b2_1 h87)
                unfold slh at hq
                rw [decide_eq_true hz, Bool.true_and, pop_k] at hq
                exact Nat.not_lt.mp (of_decide_eq_false hq)
              refine sg_il (pc := 90) C d_S_rebuild_90 rfl ?_
              refine sg_aln (pc := 92) C d_S_rebuild_92 rfl ?_
              refine sg_aln (pc := 93) C d_S_rebuild_93 rfl ?_
              refine sg_getr (pc := 94) C fw_S_25 (by omega) rfl rfl rfl d_S_rebuild_94 ?_
              refine sg_iln (pc := 97) C d_S_rebuild_97 rfl ?_
              refine sg_aald (pc := 98) (n := 12) (t := 4) C (by omega) rfl (by decide) rfl rfl (by omega) (by decide) (rf_nodes (by omega)) d_S_rebuild_98 ?_
              refine sg_il (pc := 99) C d_S_rebuild_99 rfl ?_
              refine sg_iln (pc := 101) C d_S_rebuild_101 rfl ?_
              refine sm_callV (pc := 102) (As := [.ref (Ω.2.1 + (79 + 51 * n)), .int (nI k), .int (nI (moff m n))]) C I (c_S_rebuildShare1 l Ω (X := Z) hsz hn (by omega) (moff_lt m n) (by rw [i0 1 (by decide)]; exact hz) gz (by rw [hs8]; exact h8) saf_n (v := v k) (hv k) (fun j hj hp i hi => by rw [hs8] at hp; rw [i0 1 (by decide)] at hi; have hb := hp; unfold saf at hb; have hjb := (moff_b (of_decide_eq_true (by simp at hb; exact decide_eq_true hb.1))); rw [(rI_sh hI hn (by omega) hw hj (by omega) (hw j k) (Or.inl hjb.2)).2]; exact hB k (by omega) (b2_1 h87) j hj hp i hi)) cw_S_161 iw_S_rebuildShare (C.1.2.2.2.2 _ (List.mem_cons_of_mem _ se_S_rebuildShare)) (by omega) rfl rfl rfl rfl (by decide) ⟨by decide, by decide⟩ rfl (Nat.le_of_ble_eq_true rfl) d_S_rebuild_102 (fun v1 Z2 Y2 hp1 => ?_)
              obtain ⟨rfl, hR, rfl⟩ := hp1
              rw [i0 1 (by decide)] at hR
              rw [i0 1 (by decide)]
              change sm_G Γ Ω 723 0 0 (102 + 3) _ (.int (nI (8 * rbs X k)) :: .int (nI (rT X w n k)) :: []) Z2 (sm_rf w)
              refine sg_add (pc := 105) C d_S_rebuild_105 ?_
              refine sg_is4 (pc := 106) C d_S_rebuild_106 ?_
              refine sg_inc5 (pc := 108) (n := 1) C d_S_rebuild_108 (by decide) ?_
              refine sg_goto (pc := 111) (tgt := 73) C d_S_rebuild_111 (by decide) ?_
              have h := ih2 (k + 1) Z2 (by omega) (rI_1 hI hn (by omega) hw (b2_1 h87) hz h8 hR)
              rw [eT, if_pos (b2_1 h87)] at h
              exact h
      exact loop2 12 0 X (by omega) ⟨fun _ _ _ _ _ _ _ _ => rfl, fun _ _ => rfl, fun p hp _ => absurd hp (Nat.not_lt_zero p)⟩
    | succ t ih1 =>
      intro k z hk
      have hb1 := b2_lt (snr X w n k)
      have hb2 := b2_lt (slh X w k (moff m n))
      refine sg_il (pc := 26) C d_S_rebuild_26 rfl ?_
      refine sg_bi (pc := 28) (v := 12) C d_S_rebuild_28 (by decide) ?_
      refine sg_icge (pc := 30) (tgt := 67) C d_S_rebuild_30 (by decide) (by omega) (by omega) (fun h30 => absurd h30 (by omega)) (fun h30 => ?_)
      refine sg_aln (pc := 33) C d_S_rebuild_33 rfl ?_
      refine sg_iln (pc := 34) C d_S_rebuild_34 rfl ?_
      refine sg_il (pc := 35) C d_S_rebuild_35 rfl ?_
      refine sm_callV (pc := 37) (As := [.int (nI n), .int (nI k)]) C I (c_S_needsRebuild l Ω hf hn (by omega)) cw_S_155 iw_S_needsRebuild (C.1.2.2.2.2 _ (List.mem_cons_of_mem _ se_S_needsRebuild)) (by omega) rfl rfl rfl rfl (by decide) ⟨by decide, by decide⟩ rfl (Nat.le_of_ble_eq_true rfl) d_S_rebuild_37 (sm_det_i ?_)
      refine sg_ifeq (pc := 40) (tgt := 61) C d_S_rebuild_40 (by decide) (by omega) (fun h40 => ?_) (fun h40 => ?_)
      · refine sg_inc4 (pc := 61) (n := 1) C d_S_rebuild_61 (by decide) ?_
        refine sg_goto (pc := 64) (tgt := 26) C d_S_rebuild_64 (by decide) ?_
        exact ih1 (k + 1) _ (by omega)
      · refine sg_aln (pc := 43) C d_S_rebuild_43 rfl ?_
        refine sg_il (pc := 44) C d_S_rebuild_44 rfl ?_
        refine sg_iln (pc := 46) C d_S_rebuild_46 rfl ?_
        refine sm_callV (pc := 47) (As := [.int (nI k), .int (nI (moff m n))]) C I (c_S_lacksHelpers l Ω hf (by omega) (moff_lt m n)) cw_S_158 iw_S_lacksHelpers (C.1.2.2.2.2 _ (List.mem_cons_of_mem _ se_S_lacksHelpers)) (by omega) rfl rfl rfl rfl (by decide) ⟨by decide, by decide⟩ rfl (Nat.le_of_ble_eq_true rfl) d_S_rebuild_47 (sm_det_i ?_)
        refine sg_ifeq (pc := 50) (tgt := 61) C d_S_rebuild_50 (by decide) (by omega) (fun h50 => ?_) (fun h50 => absurd (b2_1 h50) (by rw [hchk k (by omega) (b2_1 h40)]; decide))
        refine sg_inc4 (pc := 61) (n := 1) C d_S_rebuild_61 (by decide) ?_
        refine sg_goto (pc := 64) (tgt := 26) C d_S_rebuild_64 (by decide) ?_
        exact ih1 (k + 1) _ (by omega)
  exact loop1 12 0 _ (by omega)

set_option maxHeartbeats 4000000 in
set_option maxRecDepth 100000 in
theorem x_S_rebuild1 (l : Launch) (hl : l.stackTraces = false) (Ω : sm_Ω) {X : sm_X} {w : Nat → Nat → Nat} {x z : Int32} (hx : x < 0 ∨ nI 12 ≤ x) : sm_thr l Ω y_S_rebuild b_S_rebuild 6 (some .int) 7 [.ref (Ω.2.1 + 0), .int x, .int z] X (sm_rf w) eIO := by
  refine sm_introX (own := RX6) (L := [some (.ref (Ω.2.1 + 0)), some (.int x), some (.int z), none, none, none]) (by decide) rfl (by simp [Value.category]) (Nat.le_of_ble_eq_true rfl) rfl ?_
  intro Γ C J
  refine sg_iln (pc := 0) C d_S_rebuild_0 rfl ?_
  refine sg_bi (pc := 1) (v := 12) C d_S_rebuild_1 (by decide) ?_
  exact sm_callSX (pc := 3) (As := [.int x, .int (nI 12)]) C J (x_S_checkIndex l hl Ω hx) cw_S_63 sw_S_checkIndex rfl (by decide) rfl (Nat.le_of_ble_eq_true rfl) d_S_rebuild_3

set_option maxHeartbeats 4000000 in
set_option maxRecDepth 100000 in
theorem x_S_rebuild2 (l : Launch) (hl : l.stackTraces = false) (Ω : sm_Ω) {X : sm_X} {w : Nat → Nat → Nat} {n : Nat} {x : Int32} (hn : n < 12) (hx : ¬ x &&& (-4096) = 0) : sm_thr l Ω y_S_rebuild b_S_rebuild 6 (some .int) 7 [.ref (Ω.2.1 + 0), .int (nI n), .int x] X (sm_rf w) eIA := by
  refine sm_introX (own := RX6) (L := [some (.ref (Ω.2.1 + 0)), some (.int (nI n)), some (.int x), none, none, none]) (by decide) rfl (by simp [Value.category]) (Nat.le_of_ble_eq_true rfl) rfl ?_
  intro Γ C J
  refine sg_iln (pc := 0) C d_S_rebuild_0 rfl ?_
  refine sg_bi (pc := 1) (v := 12) C d_S_rebuild_1 (by decide) ?_
  refine sm_callS (pc := 3) (As := [.int (nI n), .int (nI 12)]) C J (c_S_checkIndex l Ω (by omega) (by decide)) cw_S_63 sw_S_checkIndex rfl (by decide) ⟨by decide, by decide⟩ rfl (Nat.le_of_ble_eq_true rfl) d_S_rebuild_3 (sm_det_v ?_)
  refine sg_iln (pc := 6) C d_S_rebuild_6 rfl ?_
  exact sm_callSX (pc := 7) (As := [.int x]) C J (x_S_checkMask l hl Ω hx) cw_S_114 sw_S_checkMask rfl (by decide) rfl (Nat.le_of_ble_eq_true rfl) d_S_rebuild_7

set_option maxHeartbeats 4000000 in
set_option maxRecDepth 100000 in
theorem x_S_rebuild3 (l : Launch) (hl : l.stackTraces = false) (Ω : sm_Ω) {X : sm_X} {w : Nat → Nat → Nat} (hf : swf X w) {n m : Nat} (hn : n < 12) (hm : m < 4096) (hlv : X (79 + 51 * n) 3 = 0) : sm_thr l Ω y_S_rebuild b_S_rebuild 6 (some .int) 7 [.ref (Ω.2.1 + 0), .int (nI n), .int (nI m)] X (sm_rf w) eIS := by
  refine sm_introX (own := RX6) (L := [some (.ref (Ω.2.1 + 0)), some (.int (nI n)), some (.int (nI m)), none, none, none]) (by decide) rfl (by simp [Value.category]) (Nat.le_of_ble_eq_true rfl) rfl ?_
  intro Γ C J
  refine sg_iln (pc := 0) C d_S_rebuild_0 rfl ?_
  refine sg_bi (pc := 1) (v := 12) C d_S_rebuild_1 (by decide) ?_
  refine sm_callS (pc := 3) (As := [.int (nI n), .int (nI 12)]) C J (c_S_checkIndex l Ω (by omega) (by decide)) cw_S_63 sw_S_checkIndex rfl (by decide) ⟨by decide, by decide⟩ rfl (Nat.le_of_ble_eq_true rfl) d_S_rebuild_3 (sm_det_v ?_)
  refine sg_iln (pc := 6) C d_S_rebuild_6 rfl ?_
  refine sm_callS (pc := 7) (As := [.int (nI m)]) C J (c_S_checkMask l Ω hm) cw_S_114 sw_S_checkMask rfl (by decide) ⟨by decide, by decide⟩ rfl (Nat.le_of_ble_eq_true rfl) d_S_rebuild_7 (sm_det_v ?_)
  refine sg_aln (pc := 10) C d_S_rebuild_10 rfl ?_
  refine sg_iln (pc := 11) C d_S_rebuild_11 rfl ?_
  exact sm_callVX (pc := 12) (As := [.int (nI n)]) C J (x_S_checkLive l hl Ω hf hn hlv) cw_S_146 iw_S_checkLive (C.1.2.2.2.2 _ (List.mem_cons_of_mem _ se_S_checkLive)) (by omega) rfl rfl rfl rfl (by decide) rfl (Nat.le_of_ble_eq_true rfl) d_S_rebuild_12

set_option maxHeartbeats 4000000 in
set_option maxRecDepth 100000 in
theorem x_S_rebuild4 (l : Launch) (hl : l.stackTraces = false) (Ω : sm_Ω) {X : sm_X} {w : Nat → Nat → Nat} (hf : swf X w) {n m : Nat} (hn : n < 12) (hm : m < 4096) (hlv : X (79 + 51 * n) 3 ≠ 0) (hbad : ∃ k, k < 12 ∧ snr X w n k = true ∧ slh X w k (moff m n) = true) : sm_thr l Ω y_S_rebuild b_S_rebuild 6 (some .int) 7 [.ref (Ω.2.1 + 0), .int (nI n), .int (nI m)] X (sm_rf w) eUO := by
  refine sm_introX (own := RX6) (L := [some (.ref (Ω.2.1 + 0)), some (.int (nI n)), some (.int (nI m)), none, none, none]) (by decide) rfl (by simp [Value.category]) (Nat.le_of_ble_eq_true rfl) rfl ?_
  intro Γ C J
  refine sg_iln (pc := 0) C d_S_rebuild_0 rfl ?_
  refine sg_bi (pc := 1) (v := 12) C d_S_rebuild_1 (by decide) ?_
  refine sm_callS (pc := 3) (As := [.int (nI n), .int (nI 12)]) C J (c_S_checkIndex l Ω (by omega) (by decide)) cw_S_63 sw_S_checkIndex rfl (by decide) ⟨by decide, by decide⟩ rfl (Nat.le_of_ble_eq_true rfl) d_S_rebuild_3 (sm_det_v ?_)
  refine sg_iln (pc := 6) C d_S_rebuild_6 rfl ?_
  refine sm_callS (pc := 7) (As := [.int (nI m)]) C J (c_S_checkMask l Ω hm) cw_S_114 sw_S_checkMask rfl (by decide) ⟨by decide, by decide⟩ rfl (Nat.le_of_ble_eq_true rfl) d_S_rebuild_7 (sm_det_v ?_)
  refine sg_aln (pc := 10) C d_S_rebuild_10 rfl ?_
  refine sg_iln (pc := 11) C d_S_rebuild_11 rfl ?_
  refine sm_callV (pc := 12) (As := [.int (nI n)]) C J (c_S_checkLive l Ω hf hn hlv) cw_S_146 iw_S_checkLive (C.1.2.2.2.2 _ (List.mem_cons_of_mem _ se_S_checkLive)) (by omega) rfl rfl rfl rfl (by decide) ⟨by decide, by decide⟩ rfl (Nat.le_of_ble_eq_true rfl) d_S_rebuild_12 (sm_det_v ?_)
  refine sg_iln (pc := 15) C d_S_rebuild_15 rfl ?_
  refine sg_ic (pc := 16) (v := 1) C d_S_rebuild_16 (by decide) ?_
  refine sg_iln (pc := 17) C d_S_rebuild_17 rfl ?_
  refine sr_ishl (pc := 18) C d_S_rebuild_18 (sn_shl n hn) ?_
  refine sg_icm (pc := 19) (v := -1) C d_S_rebuild_19 (by decide) ?_
  refine sr_ixor (pc := 20) C d_S_rebuild_20 rfl ?_
  refine sr_iand (pc := 21) C d_S_rebuild_21 (sn_off hm) ?_
  refine sg_is3 (pc := 22) C d_S_rebuild_22 ?_
  refine sg_ic (pc := 23) (v := 0) C d_S_rebuild_23 (by decide) ?_
  refine sg_is4 (pc := 24) C d_S_rebuild_24 ?_
  have loop1 : ∀ t k z, k + t = 12 → (∀ j, j < k → ¬ (snr X w n j = true ∧ slh X w j (moff m n) = true)) → sm_G Γ Ω 723 0 0 26 [some (.ref (Ω.2.1 + 0)), some (.int (nI n)), some (.int (nI m)), some (.int (nI (moff m n))), some (.int (nI k)), z] [] X (sm_rf w) := by
    intro t
    induction t with
    | zero =>
      intro k z hk hall
      exact (hbad.elim (fun j hj => absurd hj.2 (hall j (by omega))))
    | succ t ih1 =>
      intro k z hk hall
      have hb1 := b2_lt (snr X w n k)
      have hb2 := b2_lt (slh X w k (moff m n))
      refine sg_il (pc := 26) C d_S_rebuild_26 rfl ?_
      refine sg_bi (pc := 28) (v := 12) C d_S_rebuild_28 (by decide) ?_
      refine sg_icge (pc := 30) (tgt := 67) C d_S_rebuild_30 (by decide) (by omega) (by omega) (fun h30 => absurd h30 (by omega)) (fun h30 => ?_)
      refine sg_aln (pc := 33) C d_S_rebuild_33 rfl ?_
      refine sg_iln (pc := 34) C d_S_rebuild_34 rfl ?_
      refine sg_il (pc := 35) C d_S_rebuild_35 rfl ?_
      refine sm_callV (pc := 37) (As := [.int (nI n), .int (nI k)]) C J (c_S_needsRebuild l Ω hf hn (by omega)) cw_S_155 iw_S_needsRebuild (C.1.2.2.2.2 _ (List.mem_cons_of_mem _ se_S_needsRebuild)) (by omega) rfl rfl rfl rfl (by decide) ⟨by decide, by decide⟩ rfl (Nat.le_of_ble_eq_true rfl) d_S_rebuild_37 (sm_det_i ?_)
      refine sg_ifeq (pc := 40) (tgt := 61) C d_S_rebuild_40 (by decide) (by omega) (fun h40 => ?_) (fun h40 => ?_)
      · refine sg_inc4 (pc := 61) (n := 1) C d_S_rebuild_61 (by decide) ?_
        refine sg_goto (pc := 64) (tgt := 26) C d_S_rebuild_64 (by decide) ?_
        exact ih1 (k + 1) _ (by omega) (fun j hj => (by omega : j < k ∨ j = k).elim (hall j) (fun e => by rw [e, b2_0 h40]; simp))
      · refine sg_aln (pc := 43) C d_S_rebuild_43 rfl ?_
        refine sg_il (pc := 44) C d_S_rebuild_44 rfl ?_
        refine sg_iln (pc := 46) C d_S_rebuild_46 rfl ?_
        refine sm_callV (pc := 47) (As := [.int (nI k), .int (nI (moff m n))]) C J (c_S_lacksHelpers l Ω hf (by omega) (moff_lt m n)) cw_S_158 iw_S_lacksHelpers (C.1.2.2.2.2 _ (List.mem_cons_of_mem _ se_S_lacksHelpers)) (by omega) rfl rfl rfl rfl (by decide) ⟨by decide, by decide⟩ rfl (Nat.le_of_ble_eq_true rfl) d_S_rebuild_47 (sm_det_i ?_)
        refine sg_ifeq (pc := 50) (tgt := 61) C d_S_rebuild_50 (by decide) (by omega) (fun h50 => ?_) (fun h50 => ?_)
        · refine sg_inc4 (pc := 61) (n := 1) C d_S_rebuild_61 (by decide) ?_
          refine sg_goto (pc := 64) (tgt := 26) C d_S_rebuild_64 (by decide) ?_
          exact ih1 (k + 1) _ (by omega) (fun j hj => (by omega : j < k ∨ j = k).elim (hall j) (fun e => by rw [e, b2_0 h50]; simp))
        · exact sg_throw (pc := 53) C J hl tw_S_77 d_S_rebuild_53 d_S_rebuild_56 d_S_rebuild_57 d_S_rebuild_60 (by decide) rfl (Nat.le_of_ble_eq_true rfl)
  exact loop1 12 0 _ (by omega) (fun j hj => absurd hj (Nat.not_lt_zero j))
end
