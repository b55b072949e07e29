/-! The cells of the claim: the shelf 0 .. 702, the reference 703 .. 721, the law's row 722 -/
abbrev sm_RM : String := RX2
def sm_T (cA : Nat → ClassId) : List (ClassId × FieldType) := [(cA 0, .int), (cA 1, .boolean), (cA 2, .long), (cA 3, .array .int), (cA 4, .object RX3), (cA 5, .object RX1), (cA 6, .object RX4)]
def sm_nest : Cond := .methodLinkNest RX2 20 y_S_stripesOf RX6
def sm_lo : List sm_K := [.inl (6, [true, true, true, true, true, true, true, true, false, false]), .inl (0, [true, true]), .inr (255, 0), .inr (256, 0), .inl (2, [true, true]), .inr (64, 3)]
def sm_mi : List sm_K := [.inr (5, 0), .inr (12, 4), .inr (12, 5), .inl (5, [true, true, false]), .inr (8, 0), .inr (8, 0), .inr (8, 0), .inr (240, 0), .inr (240, 0)]
def sm_hi : List sm_K := [.inl (7, [false, true, false, true, false, true, true, true, true, true, true, true, true, true, true, true, true, true, true, true, true]), .inr (240, 0), .inr (240, 0), .inr (12, 0), .inr (12, 0), .inr (12, 0), .inr (12, 0), .inr (12, 1), .inr (12, 1), .inr (12, 0), .inr (144, 0), .inr (144, 0), .inr (34560, 0), .inr (144, 0), .inr (144, 0), .inr (34560, 0), .inr (64, 0), .inr (12, 0), .inr (12, 1), .inr (1, 2)]
def sm_sh (i : Nat) : sm_K :=
  if i < 6 then sm_lo.getD i (.inr (0, 0)) else if i < 70 then .inr (8, 0) else if i < 79 then sm_mi.getD (i - 70) (.inr (0, 0)) else
  if i < 691 then (if (i - 79) % 51 = 0 then .inl (3, [false, true, true, false, false]) else if (i - 79) % 51 < 3 then .inr (12, 6) else if (i - 79) % 51 % 2 = 1 then .inl (4, [false, false, true]) else .inr (64, 0)) else
  if i < 703 then .inl (1, [false, false, false, false, false]) else sm_hi.getD (i - 703) (.inr (0, 0))
def sm_rf (w : Nat → Nat → Nat) (i j : Nat) : Option Nat :=
  if i < 6 then (if i = 0 then [some 1, some 4, some 71, some 72, some 73, some 76, some 77, some 78].getD j none else if i = 1 then [some 2, some 3].getD j none else if i = 4 then [some 5, some 70].getD j none else if i = 5 then (if j < 64 then some (6 + j) else none) else none) else
  if i < 79 then (if i = 71 then (if j < 12 then some (79 + 51 * j) else none) else if i = 72 then (if j < 12 then some (691 + j) else none) else if i = 73 then [some 74, some 75].getD j none else none) else
  if i < 691 then (if (i - 79) % 51 = 0 then (if j = 1 then some (i + 1) else if j = 2 then some (i + 2) else none) else if (i - 79) % 51 = 1 then (if j < 12 then some (i + 2 + 4 * j + 2 * w ((i - 79) / 51) j) else none) else
    if (i - 79) % 51 = 2 then (if j < 12 then some (i + 1 + 4 * j + 2 * (1 - w ((i - 79) / 51) j)) else none) else if j = 2 then some (i + 1) else none) else
  if i = 703 then [none, some 704, none, some 705, none, some 706, some 707, some 708, some 709, some 710, some 711, some 712, some 713, some 714, some 715, some 716, some 717, some 718, some 719, some 720, some 721].getD j none else none
theorem sh_R {r : Nat} (h : r < 64) : sm_sh (6 + r) = .inr (8, 0) := by
  unfold sm_sh
  rw [if_neg (by omega), if_pos (by omega)]
theorem sh_N {n : Nat} (h : n < 12) : sm_sh (79 + 51 * n) = .inl (3, [false, true, true, false, false]) := by
  unfold sm_sh
  rw [if_neg (by omega), if_neg (by omega), if_neg (by omega), if_pos (by omega), if_pos (by omega)]
theorem sh_Ns {n : Nat} (h : n < 12) : sm_sh (80 + 51 * n) = .inr (12, 6) := by
  unfold sm_sh
  rw [if_neg (by omega), if_neg (by omega), if_neg (by omega), if_pos (by omega), if_neg (by omega), if_pos (by omega)]
theorem sh_Nh {n : Nat} (h : n < 12) : sm_sh (81 + 51 * n) = .inr (12, 6) := by
  unfold sm_sh
  rw [if_neg (by omega), if_neg (by omega), if_neg (by omega), if_pos (by omega), if_neg (by omega), if_pos (by omega)]
theorem sh_S {n o b : Nat} (h : n < 12) (h2 : o < 12) (h3 : b < 2) : sm_sh (82 + 51 * n + 4 * o + 2 * b) = .inl (4, [false, false, true]) := by
  have e : (82 + 51 * n + 4 * o + 2 * b - 79) % 51 = 3 + 4 * o + 2 * b := by rw [show 82 + 51 * n + 4 * o + 2 * b - 79 = 51 * n + (3 + 4 * o + 2 * b) by omega, Nat.mul_add_mod, Nat.mod_eq_of_lt (by omega)]
  unfold sm_sh
  rw [if_neg (by omega), if_neg (by omega), if_neg (by omega), if_pos (by omega), e, if_neg (by omega), if_neg (by omega), if_pos (by omega)]
theorem sh_Sb {n o b : Nat} (h : n < 12) (h2 : o < 12) (h3 : b < 2) : sm_sh (83 + 51 * n + 4 * o + 2 * b) = .inr (64, 0) := by
  have e : (83 + 51 * n + 4 * o + 2 * b - 79) % 51 = 4 + 4 * o + 2 * b := by rw [show 83 + 51 * n + 4 * o + 2 * b - 79 = 51 * n + (4 + 4 * o + 2 * b) by omega, Nat.mul_add_mod, Nat.mod_eq_of_lt (by omega)]
  unfold sm_sh
  rw [if_neg (by omega), if_neg (by omega), if_neg (by omega), if_pos (by omega), e, if_neg (by omega), if_neg (by omega), if_neg (by omega)]
theorem sh_I {o : Nat} (h : o < 12) : sm_sh (691 + o) = .inl (1, [false, false, false, false, false]) := by
  unfold sm_sh
  rw [if_neg (by omega), if_neg (by omega), if_neg (by omega), if_neg (by omega), if_pos (by omega)]
section
variable {w : Nat → Nat → Nat}
theorem rf_rows {j : Nat} (h : j < 64) : sm_rf w 5 j = some (6 + j) := by
  show (if j < 64 then some (6 + j) else none) = _
  rw [if_pos h]
theorem rf_nodes {j : Nat} (h : j < 12) : sm_rf w 71 j = some (79 + 51 * j) := by
  show (if j < 12 then some (79 + 51 * j) else none) = _
  rw [if_pos h]
theorem rf_items {j : Nat} (h : j < 12) : sm_rf w 72 j = some (691 + j) := by
  show (if j < 12 then some (691 + j) else none) = _
  rw [if_pos h]
theorem rf_N1 {n : Nat} (h : n < 12) : sm_rf w (79 + 51 * n) 1 = some (80 + 51 * n) := by
  unfold sm_rf
  rw [if_neg (by omega), if_neg (by omega), if_pos (by omega), if_pos (by omega), if_pos rfl]
  congr 1
  omega
theorem rf_N2 {n : Nat} (h : n < 12) : sm_rf w (79 + 51 * n) 2 = some (81 + 51 * n) := by
  unfold sm_rf
  rw [if_neg (by omega), if_neg (by omega), if_pos (by omega), if_pos (by omega), if_neg (by omega), if_pos rfl]
  congr 1
  omega
theorem rf_Ns {n o : Nat} (h : n < 12) (h2 : o < 12) : sm_rf w (80 + 51 * n) o = some (82 + 51 * n + 4 * o + 2 * w n o) := by
  unfold sm_rf
  rw [if_neg (by omega), if_neg (by omega), if_pos (by omega), if_neg (by omega), if_pos (by omega), if_pos h2, show (80 + 51 * n - 79) / 51 = n by omega]
  congr 1
  omega
theorem rf_Nh {n o : Nat} (h : n < 12) (h2 : o < 12) : sm_rf w (81 + 51 * n) o = some (82 + 51 * n + 4 * o + 2 * (1 - w n o)) := by
  unfold sm_rf
  rw [if_neg (by omega), if_neg (by omega), if_pos (by omega), if_neg (by omega), if_neg (by omega), if_pos (by omega), if_pos h2, show (81 + 51 * n - 79) / 51 = n by omega]
  congr 1
  omega
theorem rf_S2 {n o b : Nat} (h : n < 12) (h2 : o < 12) (h3 : b < 2) : sm_rf w (82 + 51 * n + 4 * o + 2 * b) 2 = some (83 + 51 * n + 4 * o + 2 * b) := by
  unfold sm_rf
  rw [if_neg (by omega), if_neg (by omega), if_pos (by omega), if_neg (by omega), if_neg (by omega), if_neg (by omega), if_pos rfl]
  congr 1
  omega
end
