/-! The field of 256 by powers of x; draft, not built yet. Names: gf_ -/
def gf_x (a : Nat) : Nat := if a < 128 then 2 * a else (2 * a) ^^^ 285
def gf_p : Nat → Nat
  | 0 => 1
  | k + 1 => gf_x (gf_p k)
def gf_LP : List Nat := [1, 2, 4, 8, 16, 32, 64, 128, 29, 58, 116, 232, 205, 135, 19, 38, 76, 152, 45, 90, 180, 117, 234, 201, 143, 3, 6, 12, 24, 48, 96, 192, 157, 39, 78, 156, 37, 74, 148, 53, 106, 212, 181, 119, 238, 193, 159, 35, 70, 140, 5, 10, 20, 40, 80, 160, 93, 186, 105, 210, 185, 111, 222, 161, 95, 190, 97, 194, 153, 47, 94, 188, 101, 202, 137, 15, 30, 60, 120, 240, 253, 231, 211, 187, 107, 214, 177, 127, 254, 225, 223, 163, 91, 182, 113, 226, 217, 175, 67, 134, 17, 34, 68, 136, 13, 26, 52, 104, 208, 189, 103, 206, 129, 31, 62, 124, 248, 237, 199, 147, 59, 118, 236, 197, 151, 51, 102, 204, 133, 23, 46, 92, 184, 109, 218, 169, 79, 158, 33, 66, 132, 21, 42, 84, 168, 77, 154, 41, 82, 164, 85, 170, 73, 146, 57, 114, 228, 213, 183, 115, 230, 209, 191, 99, 198, 145, 63, 126, 252, 229, 215, 179, 123, 246, 241, 255, 227, 219, 171, 75, 150, 49, 98, 196, 149, 55, 110, 220, 165, 87, 174, 65, 130, 25, 50, 100, 200, 141, 7, 14, 28, 56, 112, 224, 221, 167, 83, 166, 81, 162, 89, 178, 121, 242, 249, 239, 195, 155, 43, 86, 172, 69, 138, 9, 18, 36, 72, 144, 61, 122, 244, 245, 247, 243, 251, 235, 203, 139, 11, 22, 44, 88, 176, 125, 250, 233, 207, 131, 27, 54, 108, 216, 173, 71, 142]
def gf_LE : List Nat := [0, 0, 1, 25, 2, 50, 26, 198, 3, 223, 51, 238, 27, 104, 199, 75, 4, 100, 224, 14, 52, 141, 239, 129, 28, 193, 105, 248, 200, 8, 76, 113, 5, 138, 101, 47, 225, 36, 15, 33, 53, 147, 142, 218, 240, 18, 130, 69, 29, 181, 194, 125, 106, 39, 249, 185, 201, 154, 9, 120, 77, 228, 114, 166, 6, 191, 139, 98, 102, 221, 48, 253, 226, 152, 37, 179, 16, 145, 34, 136, 54, 208, 148, 206, 143, 150, 219, 189, 241, 210, 19, 92, 131, 56, 70, 64, 30, 66, 182, 163, 195, 72, 126, 110, 107, 58, 40, 84, 250, 133, 186, 61, 202, 94, 155, 159, 10, 21, 121, 43, 78, 212, 229, 172, 115, 243, 167, 87, 7, 112, 192, 247, 140, 128, 99, 13, 103, 74, 222, 237, 49, 197, 254, 24, 227, 165, 153, 119, 38, 184, 180, 124, 17, 68, 146, 217, 35, 32, 137, 46, 55, 63, 209, 91, 149, 188, 207, 205, 144, 135, 151, 178, 220, 252, 190, 97, 242, 86, 211, 171, 20, 42, 93, 158, 132, 60, 57, 83, 71, 109, 65, 162, 31, 45, 67, 216, 183, 123, 164, 118, 196, 23, 73, 236, 127, 12, 111, 246, 108, 161, 59, 82, 41, 157, 85, 170, 251, 96, 134, 177, 187, 204, 62, 90, 203, 89, 95, 176, 156, 169, 160, 81, 11, 245, 22, 235, 122, 117, 44, 215, 79, 174, 213, 233, 230, 231, 173, 232, 116, 214, 244, 234, 168, 80, 88, 175]
def gf_e (a : Nat) : Nat := gf_LE.getD a 0
def gf_t (a b : Nat) : Nat := if a = 0 ∨ b = 0 then 0 else gf_p ((gf_e a + gf_e b) % 255)
def gf_d (b a : Nat) : Nat := if a = 0 ∨ b = 0 then 0 else gf_p ((gf_e b + 255 - gf_e a) % 255)
def gf_xn : Nat → Nat → Nat
  | 0, b => b
  | k + 1, b => gf_x (gf_xn k b)
theorem gf_x_ok : ∀ a, a < 256 → gf_x a < 256 ∧ (a ≠ 0 → gf_x a ≠ 0) := by decide +kernel
theorem gf_LP_step : ∀ k, k < 254 → gf_LP.getD (k + 1) 0 = gf_x (gf_LP.getD k 0) := by decide +kernel
theorem gf_LP_last : gf_x (gf_LP.getD 254 0) = 1 := by decide +kernel
theorem gf_LE_P : ∀ k, k < 255 → gf_LE.getD (gf_LP.getD k 0) 0 = k := by decide +kernel
theorem gf_LP_E : ∀ a, a < 256 → a ≠ 0 → gf_LE.getD a 0 < 255 ∧ gf_LP.getD (gf_LE.getD a 0) 0 = a := by decide +kernel
theorem gf_p_ok (k : Nat) : gf_p k < 256 ∧ gf_p k ≠ 0 := by
  induction k with
  | zero => exact ⟨by decide, by decide⟩
  | succ k ih => exact ⟨(gf_x_ok _ ih.1).1, (gf_x_ok _ ih.1).2 ih.2⟩
theorem gf_p_L : ∀ k, k < 255 → gf_p k = gf_LP.getD k 0 := by
  intro k
  induction k with
  | zero => intro _; decide
  | succ k ih =>
    intro h
    show gf_x (gf_p k) = _
    rw [ih (by omega), gf_LP_step k (by omega)]
theorem gf_p_255 : gf_p 255 = 1 := by
  show gf_x (gf_p 254) = 1
  rw [gf_p_L 254 (by decide)]
  exact gf_LP_last
theorem gf_p_add255 (k : Nat) : gf_p (k + 255) = gf_p k := by
  induction k with
  | zero => rw [Nat.zero_add, gf_p_255]; rfl
  | succ k ih =>
    rw [show k + 1 + 255 = (k + 255) + 1 by omega]
    show gf_x (gf_p (k + 255)) = gf_x (gf_p k)
    rw [ih]
theorem gf_p_mul255 (k q : Nat) : gf_p (k + 255 * q) = gf_p k := by
  induction q with
  | zero => rw [Nat.mul_zero, Nat.add_zero]
  | succ q ih => rw [show k + 255 * (q + 1) = (k + 255 * q) + 255 by omega, gf_p_add255, ih]
theorem gf_p_mod (n : Nat) : gf_p (n % 255) = gf_p n := by
  have h := gf_p_mul255 (n % 255) (n / 255)
  rw [Nat.mod_add_div] at h
  exact h.symm
theorem gf_e_lt {a : Nat} (h : a < 256) : gf_e a < 255 := by
  by_cases h0 : a = 0
  · subst h0; decide
  · exact (gf_LP_E a h h0).1
theorem gf_p_e {a : Nat} (h : a < 256) (h0 : a ≠ 0) : gf_p (gf_e a) = a := by
  rw [gf_p_L _ (gf_e_lt h)]
  exact (gf_LP_E a h h0).2
theorem gf_e_p (k : Nat) : gf_e (gf_p k) = k % 255 := by
  rw [← gf_p_mod, gf_p_L _ (Nat.mod_lt _ (by decide))]
  exact gf_LE_P _ (Nat.mod_lt _ (by decide))
theorem gf_x_xor8 : (List.range 256).all (fun a => (List.range 256).all (fun b => gf_x (a ^^^ b) == (gf_x a ^^^ gf_x b))) = true := by decide +kernel
theorem gf_x_xor {a b : Nat} (ha : a < 256) (hb : b < 256) : gf_x (a ^^^ b) = gf_x a ^^^ gf_x b := by
  have h1 := List.all_eq_true.mp gf_x_xor8 a (List.mem_range.mpr ha)
  have h2 := List.all_eq_true.mp h1 b (List.mem_range.mpr hb)
  exact eq_of_beq h2
theorem gf_xor_lt {a b : Nat} (ha : a < 256) (hb : b < 256) : a ^^^ b < 256 := Nat.xor_lt_two_pow (n := 8) ha hb
theorem gf_xn_lt (k : Nat) {b : Nat} (hb : b < 256) : gf_xn k b < 256 := by
  induction k with
  | zero => exact hb
  | succ k ih => exact (gf_x_ok _ ih).1
theorem gf_xn_xor (k : Nat) {a b : Nat} (ha : a < 256) (hb : b < 256) : gf_xn k (a ^^^ b) = gf_xn k a ^^^ gf_xn k b := by
  induction k with
  | zero => rfl
  | succ k ih =>
    show gf_x (gf_xn k (a ^^^ b)) = gf_x (gf_xn k a) ^^^ gf_x (gf_xn k b)
    rw [ih, gf_x_xor (gf_xn_lt k ha) (gf_xn_lt k hb)]
theorem gf_xn_0 (k : Nat) : gf_xn k 0 = 0 := by
  induction k with
  | zero => rfl
  | succ k ih =>
    show gf_x (gf_xn k 0) = 0
    rw [ih]; decide
theorem gf_xn_p (k j : Nat) : gf_xn k (gf_p j) = gf_p (j + k) := by
  induction k with
  | zero => rfl
  | succ k ih =>
    show gf_x (gf_xn k (gf_p j)) = gf_x (gf_p (j + k))
    rw [ih]
theorem gf_t_0l (b : Nat) : gf_t 0 b = 0 := if_pos (Or.inl rfl)
theorem gf_t_0r (a : Nat) : gf_t a 0 = 0 := if_pos (Or.inr rfl)
theorem gf_t_nz {a b : Nat} (ha : a ≠ 0) (hb : b ≠ 0) : gf_t a b = gf_p (gf_e a + gf_e b) := by
  unfold gf_t
  rw [if_neg (fun h => h.elim ha hb), gf_p_mod]
theorem gf_t_lt (a b : Nat) : gf_t a b < 256 := by
  unfold gf_t
  split
  · decide
  · exact (gf_p_ok _).1
theorem gf_t_comm (a b : Nat) : gf_t a b = gf_t b a := by
  unfold gf_t
  rw [Nat.add_comm (gf_e a)]
  by_cases h : a = 0 ∨ b = 0
  · rw [if_pos h, if_pos h.symm]
  · rw [if_neg h, if_neg (fun q => h q.symm)]
theorem gf_t_xn {a b : Nat} (ha : a ≠ 0) (hb : b < 256) : gf_t a b = gf_xn (gf_e a) b := by
  by_cases h0 : b = 0
  · subst h0; rw [gf_t_0r, gf_xn_0]
  · rw [gf_t_nz ha h0, Nat.add_comm, ← gf_xn_p, gf_p_e hb h0]
theorem gf_t_xor {a b c : Nat} (hb : b < 256) (hc : c < 256) : gf_t a (b ^^^ c) = gf_t a b ^^^ gf_t a c := by
  by_cases h0 : a = 0
  · subst h0; rw [gf_t_0l, gf_t_0l, gf_t_0l]; rfl
  · rw [gf_t_xn h0 (gf_xor_lt hb hc), gf_t_xn h0 hb, gf_t_xn h0 hc, gf_xn_xor _ hb hc]
theorem gf_xor_t {a b c : Nat} (ha : a < 256) (hb : b < 256) : gf_t (a ^^^ b) c = gf_t a c ^^^ gf_t b c := by
  rw [gf_t_comm, gf_t_xor ha hb, gf_t_comm c a, gf_t_comm c b]
theorem gf_t_assoc (a b c : Nat) : gf_t (gf_t a b) c = gf_t a (gf_t b c) := by
  by_cases ha : a = 0
  · subst ha; rw [gf_t_0l, gf_t_0l, gf_t_0l]
  by_cases hb : b = 0
  · subst hb; rw [gf_t_0r, gf_t_0l, gf_t_0r]
  by_cases hc : c = 0
  · subst hc; rw [gf_t_0r, gf_t_0r, gf_t_0r]
  rw [gf_t_nz ha hb, gf_t_nz hb hc, gf_t_nz (gf_p_ok _).2 hc, gf_t_nz ha (gf_p_ok _).2, gf_e_p, gf_e_p]
  rw [← gf_p_mod ((gf_e a + gf_e b) % 255 + gf_e c), ← gf_p_mod (gf_e a + (gf_e b + gf_e c) % 255)]
  congr 1
  omega
theorem gf_t_1 {a : Nat} (ha : a < 256) : gf_t 1 a = a := by
  by_cases h0 : a = 0
  · subst h0; exact gf_t_0r 1
  · rw [gf_t_nz (by decide) h0, show gf_e 1 = 0 by decide, Nat.zero_add, gf_p_e ha h0]
theorem gf_d_lt (b a : Nat) : gf_d b a < 256 := by
  unfold gf_d
  split
  · decide
  · exact (gf_p_ok _).1
/-- a quotient: what a has to be multiplied by to give b -/
theorem gf_t_d {a b : Nat} (ha : a < 256) (h0 : a ≠ 0) (hb : b < 256) : gf_t a (gf_d b a) = b := by
  by_cases hb0 : b = 0
  · subst hb0; rw [show gf_d 0 a = 0 from if_pos (Or.inr rfl), gf_t_0r]
  · have hd : gf_d b a = gf_p ((gf_e b + 255 - gf_e a) % 255) := if_neg (fun h => h.elim h0 hb0)
    have ha1 := gf_e_lt ha
    have hb1 := gf_e_lt hb
    rw [hd, gf_t_nz h0 (gf_p_ok _).2, gf_e_p, ← gf_p_mod]
    rw [show (gf_e a + (gf_e b + 255 - gf_e a) % 255 % 255) % 255 = gf_e b by omega]
    exact gf_p_e hb hb0
theorem gf_d_t {a u : Nat} (ha : a < 256) (h0 : a ≠ 0) (hu : u < 256) : gf_d (gf_t a u) a = u := by
  by_cases hu0 : u = 0
  · subst hu0; rw [gf_t_0r]; exact if_pos (Or.inr rfl)
  · have ha1 := gf_e_lt ha
    have hu1 := gf_e_lt hu
    rw [gf_t_nz h0 hu0]
    unfold gf_d
    rw [if_neg (fun h => h.elim h0 (gf_p_ok _).2), gf_e_p]
    rw [show ((gf_e a + gf_e u) % 255 + 255 - gf_e a) % 255 = gf_e u by omega]
    exact gf_p_e hu hu0
theorem gf_cancel {a u v : Nat} (ha : a < 256) (h0 : a ≠ 0) (hu : u < 256) (hv : v < 256) (h : gf_t a u = gf_t a v) : u = v := by
  rw [← gf_d_t ha h0 hu, h, gf_d_t ha h0 hv]
theorem gf_xx (x y c : Nat) : (x ^^^ c) ^^^ (y ^^^ c) = x ^^^ y := by
  rw [Nat.xor_comm y c, Nat.xor_assoc, ← Nat.xor_assoc c c y, Nat.xor_self, Nat.zero_xor]
theorem gf_xc (x c : Nat) : (x ^^^ c) ^^^ c = x := by
  rw [Nat.xor_assoc, Nat.xor_self, Nat.xor_zero]
theorem gf_x0 {x y : Nat} (h : x ^^^ y = 0) : x = y := by
  have h1 := gf_xc x y
  rw [h, Nat.zero_xor] at h1
  exact h1.symm

