/-! whole rows anew; counting; small numbers -/
def sm_uf (X : sm_X) (c : Nat) (f : Nat → Nat) : sm_X := fun a k => if a = c then f k else X a k
theorem sm_uf_s {X : sm_X} {c k : Nat} {f : Nat → Nat} : sm_uf X c f c k = f k := if_pos rfl
theorem sm_uf_o {X : sm_X} {c a k : Nat} {f : Nat → Nat} (h : a ≠ c) : sm_uf X c f a k = X a k := if_neg h
theorem sm_uf_self {X : sm_X} {c : Nat} : sm_uf X c (X c) = X := by
  funext a k
  unfold sm_uf
  split
  · rename_i h; rw [h]
  · rfl
theorem sm_uf_up {X : sm_X} {c j v : Nat} {f : Nat → Nat} : sm_up (sm_uf X c f) c j v = sm_uf X c (fun k => if k = j then v else f k) := by
  funext a k
  unfold sm_up sm_uf
  by_cases h : a = c
  · subst h
    by_cases hk : k = j
    · simp [hk]
    · simp [hk]
  · simp [h]
theorem sm_uf_uf {X : sm_X} {c : Nat} {f g : Nat → Nat} : sm_uf (sm_uf X c f) c g = sm_uf X c g := by
  funext a k
  unfold sm_uf
  split <;> rfl
theorem sm_uf_c {X : sm_X} {c : Nat} {f g : Nat → Nat} (h : ∀ k, f k = g k) : sm_uf X c f = sm_uf X c g := by
  rw [show f = g from funext h]
def sm_n (p : Nat → Bool) : Nat → Nat
  | 0 => 0
  | n + 1 => sm_n p n + (if p n = true then 1 else 0)
theorem sm_n_le (p : Nat → Bool) : ∀ n, sm_n p n ≤ n
  | 0 => Nat.le_refl 0
  | n + 1 => by
    have := sm_n_le p n
    show sm_n p n + (if p n = true then 1 else 0) ≤ n + 1
    split <;> omega
theorem sn_b {v : Nat} (h : v < 2) : narrow .boolean (.int (nI v)) = .int (nI v) := by
  rcases (by omega : v = 0 ∨ v = 1) with rfl | rfl <;> decide
theorem sn_bf {v : Nat} (h : v < 2) : fits .boolean (.int (nI v)) = true := by
  rcases (by omega : v = 0 ∨ v = 1) with rfl | rfl <;> decide
theorem nx_and (a b : Nat) : nI a &&& nI b = nI (a &&& b) := by
  apply Int32.toBitVec_inj.1
  show BitVec.ofNat 32 a &&& BitVec.ofNat 32 b = BitVec.ofNat 32 (a &&& b)
  apply BitVec.eq_of_getLsbD_eq
  intro i hi
  simp [hi]
theorem nx_xor (a b : Nat) : nI a ^^^ nI b = nI (a ^^^ b) := by
  apply Int32.toBitVec_inj.1
  show BitVec.ofNat 32 a ^^^ BitVec.ofNat 32 b = BitVec.ofNat 32 (a ^^^ b)
  apply BitVec.eq_of_getLsbD_eq
  intro i hi
  simp [hi]
theorem nx_or (a b : Nat) : nI a ||| nI b = nI (a ||| b) := by
  apply Int32.toBitVec_inj.1
  show BitVec.ofNat 32 a ||| BitVec.ofNat 32 b = BitVec.ofNat 32 (a ||| b)
  apply BitVec.eq_of_getLsbD_eq
  intro i hi
  simp [hi]
/-- a number behind a step down -/
theorem sn_m1 (a : Nat) : nI (a + 1) + (-1) = nI a := pk_m1 a
/-! words of fields: reading, writing; small numbers -/
def sm_fw (own : String) (index ci k : Nat) : Prop := ∃ (Cn : String) (T : u_T) (N : Nat), sm_cl[ci]? = some (Cn, T, N) ∧ (∀ w ∈ u_ws Cn T N, w ∈ sm_ws) ∧ k < N ∧ Cond.fieldLink own index (T k).1 (T k).2.1 (T k).2.2.1 ∈ sm_ws
def sm_pw (own : String) (index ci k : Nat) (ty : FieldType) : Prop := ∃ (Cn : String) (T : u_T) (N : Nat) (ty0 : Nat → FieldType), sm_cl[ci]? = some (Cn, T, N) ∧ (∀ w ∈ u_ws Cn T N, w ∈ sm_ws) ∧ k < N ∧ Cond.fieldLink own index (T k).1 (T k).2.1 (T k).2.2.1 ∈ sm_ws ∧
  (∀ k, k < N → parseFieldDescriptor (T k).2.2.1 = some (ty0 k)) ∧ (∀ a, a < N → ∀ b, b < N → a ≠ b → (T a).2.1 ≠ (T b).2.1) ∧ (T k).2.2.2 = false ∧ parseFieldDescriptor (T k).2.2.1 = some ty
theorem sn_0 {a : Nat} (ha : a < 2 ^ 31) : nI a = 0 ↔ a = 0 := nI_eq ha (by decide)
theorem sn_p {a : Nat} (ha : a < 2 ^ 31) : 0 < nI a ↔ 0 < a := nI_ltI (by decide) ha
theorem sn_np {a : Nat} (ha : a < 2 ^ 31) : ¬ 0 < nI a ↔ a = 0 := by rw [sn_p ha]; omega
theorem sn_l {a : Nat} (ha : a < 2 ^ 31) : nI a ≤ 0 ↔ a = 0 := by
  rw [show (0 : Int32) = nI 0 from rfl, nI_leI ha (by decide)]
  omega
theorem sn_nl {a : Nat} (ha : a < 2 ^ 31) : ¬ nI a ≤ 0 ↔ 0 < a := by rw [sn_l ha]; omega
/-! one instruction, one row -/
section
variable {Γ : sm_Γ} {Ω : sm_Ω} {cc : ByteArray} {own : String} {nL : Nat} {w0 : Cond} {M cs sl pc : Nat} {L r : List (Option Value)} {st : List Value} {X : sm_X} {Y : sm_R}
theorem sg_ic (C : sm_C Γ Ω cc own nL w0) {v : Nat} {n : Int} (hd : decode cc pc = .ok (.iconst n, 1)) (hv : Int32.ofInt n = nI v) (kk : sm_G Γ Ω M cs sl (pc + 1) L (.int (nI v) :: st) X Y) : sm_G Γ Ω M cs sl pc L st X Y := by
  intro ls H locs hL hP hS
  exact lv_iconst C.1.1 C.1.2.1 hd hv (kk ls H locs hL hP hS)
theorem sg_icm (C : sm_C Γ Ω cc own nL w0) {v : Int32} {n : Int} (hd : decode cc pc = .ok (.iconst n, 1)) (hv : Int32.ofInt n = v) (kk : sm_G Γ Ω M cs sl (pc + 1) L (.int v :: st) X Y) : sm_G Γ Ω M cs sl pc L st X Y := by
  intro ls H locs hL hP hS
  exact lv_iconst C.1.1 C.1.2.1 hd hv (kk ls H locs hL hP hS)
theorem sg_bi (C : sm_C Γ Ω cc own nL w0) {v : Nat} {n : Int} (hd : decode cc pc = .ok (.bipush n, 2)) (hv : (Int8.ofInt n).toInt32 = nI v) (kk : sm_G Γ Ω M cs sl (pc + 2) L (.int (nI v) :: st) X Y) : sm_G Γ Ω M cs sl pc L st X Y := by
  intro ls H locs hL hP hS
  exact lv_bipush C.1.1 C.1.2.1 hd hv (kk ls H locs hL hP hS)
theorem sg_si (C : sm_C Γ Ω cc own nL w0) {v : Nat} {n : Int} (hd : decode cc pc = .ok (.sipush n, 3)) (hv : (Int16.ofInt n).toInt32 = nI v) (kk : sm_G Γ Ω M cs sl (pc + 3) L (.int (nI v) :: st) X Y) : sm_G Γ Ω M cs sl pc L st X Y := by
  intro ls H locs hL hP hS
  exact lv_sipush C.1.1 C.1.2.1 hd hv (kk ls H locs hL hP hS)
theorem sg_sim (C : sm_C Γ Ω cc own nL w0) {v : Int32} {n : Int} (hd : decode cc pc = .ok (.sipush n, 3)) (hv : (Int16.ofInt n).toInt32 = v) (kk : sm_G Γ Ω M cs sl (pc + 3) L (.int v :: st) X Y) : sm_G Γ Ω M cs sl pc L st X Y := by
  intro ls H locs hL hP hS
  exact lv_sipush C.1.1 C.1.2.1 hd hv (kk ls H locs hL hP hS)
theorem sg_iln (C : sm_C Γ Ω cc own nL w0) {k : Fin 4} {x : Int32} (hd : decode cc pc = .ok (.iload_n k, 1)) (hl : L[(k : Nat)]? = some (some (.int x))) (kk : sm_G Γ Ω M cs sl (pc + 1) L (.int x :: st) X Y) : sm_G Γ Ω M cs sl pc L st X Y := by
  intro ls H locs hL hP hS
  exact lv_iload_n C.1.1 C.1.2.1 hd rfl (hL.at hl) (kk ls H locs hL hP hS)
theorem sg_il (C : sm_C Γ Ω cc own nL w0) {k : Nat} {x : Int32} (hd : decode cc pc = .ok (.iload k, 2)) (hl : L[k]? = some (some (.int x))) (kk : sm_G Γ Ω M cs sl (pc + 2) L (.int x :: st) X Y) : sm_G Γ Ω M cs sl pc L st X Y := by
  intro ls H locs hL hP hS
  exact lv_iload C.1.1 C.1.2.1 hd (hL.at hl) (kk ls H locs hL hP hS)
theorem sg_isn (C : sm_C Γ Ω cc own nL w0) {k : Fin 4} {x : Int32} (hd : decode cc pc = .ok (.istore_n k, 1)) (hk : (k : Nat) < L.length) (kk : sm_G Γ Ω M cs sl (pc + 1) (L.set k (some (.int x))) st X Y) : sm_G Γ Ω M cs sl pc L (.int x :: st) X Y := by
  intro ls H locs hL hP hS
  exact lv_istore_n C.1.1 C.1.2.1 hd rfl hL.1 hk rfl (fun ls' h => kk ls' H locs (sm_L.set hL.2 rfl h) hP hS)
theorem sg_is (C : sm_C Γ Ω cc own nL w0) {k : Nat} {x : Int32} (hd : decode cc pc = .ok (.istore k, 2)) (hk : k < L.length) (kk : sm_G Γ Ω M cs sl (pc + 2) (L.set k (some (.int x))) st X Y) : sm_G Γ Ω M cs sl pc L (.int x :: st) X Y := by
  intro ls H locs hL hP hS
  exact lv_istore C.1.1 C.1.2.1 hd hL.1 hk rfl (fun ls' h => kk ls' H locs (sm_L.set hL.2 rfl h) hP hS)
theorem sg_aln (C : sm_C Γ Ω cc own nL w0) {k : Fin 4} {x : Nat} (hd : decode cc pc = .ok (.aload_n k, 1)) (hl : L[(k : Nat)]? = some (some (.ref x))) (kk : sm_G Γ Ω M cs sl (pc + 1) L (.ref x :: st) X Y) : sm_G Γ Ω M cs sl pc L st X Y := by
  intro ls H locs hL hP hS
  exact lv_aload_n C.1.1 C.1.2.1 hd rfl (hL.at hl) (kk ls H locs hL hP hS)
theorem sg_al (C : sm_C Γ Ω cc own nL w0) {k : Nat} {x : Nat} (hd : decode cc pc = .ok (.aload k, 2)) (hl : L[k]? = some (some (.ref x))) (kk : sm_G Γ Ω M cs sl (pc + 2) L (.ref x :: st) X Y) : sm_G Γ Ω M cs sl pc L st X Y := by
  intro ls H locs hL hP hS
  exact lv_aload C.1.1 C.1.2.1 hd (hL.at hl) (kk ls H locs hL hP hS)
theorem sg_asn (C : sm_C Γ Ω cc own nL w0) {k : Fin 4} {x : Nat} (hd : decode cc pc = .ok (.astore_n k, 1)) (hk : (k : Nat) < L.length) (kk : sm_G Γ Ω M cs sl (pc + 1) (L.set k (some (.ref x))) st X Y) : sm_G Γ Ω M cs sl pc L (.ref x :: st) X Y := by
  intro ls H locs hL hP hS
  exact lv_astore_n C.1.1 C.1.2.1 hd rfl hL.1 hk rfl (fun ls' h => kk ls' H locs (sm_L.set hL.2 rfl h) hP hS)
theorem sg_as (C : sm_C Γ Ω cc own nL w0) {k : Nat} {x : Nat} (hd : decode cc pc = .ok (.astore k, 2)) (hk : k < L.length) (kk : sm_G Γ Ω M cs sl (pc + 2) (L.set k (some (.ref x))) st X Y) : sm_G Γ Ω M cs sl pc L (.ref x :: st) X Y := by
  intro ls H locs hL hP hS
  exact lv_astore C.1.1 C.1.2.1 hd hL.1 hk rfl (fun ls' h => kk ls' H locs (sm_L.set hL.2 rfl h) hP hS)
theorem sm_l_pl {v : Value} : ∀ (L : List (Option Value)) (i k : Nat), L[k]? = some (some v) → ∃ j : Nat, (sm_l i L)[j]? = some (i + k, v) := by
  intro L i k h
  obtain ⟨j, hj, e⟩ := List.mem_iff_getElem.mp (sm_l_in L i k h)
  exact ⟨j, by rw [List.getElem?_eq_getElem hj, e]⟩
theorem sg_inc (C : sm_C Γ Ω cc own nL w0) {k : Nat} {n : Int} {x v : Int32} (hd : decode cc pc = .ok (.iinc k n, 3)) (hl : L[k]? = some (some (.int x))) (hv : x + Int32.ofInt n = v) (kk : sm_G Γ Ω M cs sl (pc + 3) (L.set k (some (.int v))) st X Y) : sm_G Γ Ω M cs sl pc L st X Y := by
  intro ls H locs hL hP hS
  obtain ⟨j, hj⟩ := sm_l_pl L 0 k hl
  rw [Nat.zero_add] at hj
  exact lv_iinc C.1.1 C.1.2.1 hd hL.1 hj hv (List.getElem?_eq_some_iff.mp hl).1 rfl (fun ls' h => kk ls' H locs (sm_L.set hL.2 rfl h) hP hS)
theorem sg_is0 (C : sm_C Γ Ω cc own nL w0) {u0 : Option Value} {x : Int32} (hd : decode cc pc = .ok (.istore_n 0, 1)) (kk : sm_G Γ Ω M cs sl (pc + 1) (some (.int x) :: r) st X Y) : sm_G Γ Ω M cs sl pc (u0 :: r) (.int x :: st) X Y := by
  exact sg_isn C hd (by show 0 < List.length _; simp only [List.length_cons]; omega) kk
theorem sg_as0 (C : sm_C Γ Ω cc own nL w0) {u0 : Option Value} {x : Nat} (hd : decode cc pc = .ok (.astore_n 0, 1)) (kk : sm_G Γ Ω M cs sl (pc + 1) (some (.ref x) :: r) st X Y) : sm_G Γ Ω M cs sl pc (u0 :: r) (.ref x :: st) X Y := by
  exact sg_asn C hd (by show 0 < List.length _; simp only [List.length_cons]; omega) kk
theorem sg_inc0 (C : sm_C Γ Ω cc own nL w0)  {a n : Nat} {m : Int} (hd : decode cc pc = .ok (.iinc 0 m, 3)) (hm : Int32.ofInt m = nI n) (kk : sm_G Γ Ω M cs sl (pc + 3) (some (.int (nI (a + n))) :: r) st X Y) : sm_G Γ Ω M cs sl pc (some (.int (nI a)) :: r) st X Y := by
  exact sg_inc C hd rfl (by rw [hm, nI_add]) kk
theorem sg_dec0 (C : sm_C Γ Ω cc own nL w0)  {x : Int32} (hd : decode cc pc = .ok (.iinc 0 (-1), 3)) (kk : sm_G Γ Ω M cs sl (pc + 3) (some (.int (x + (-1))) :: r) st X Y) : sm_G Γ Ω M cs sl pc (some (.int x) :: r) st X Y := by
  exact sg_inc C hd rfl rfl kk
theorem sg_is1 (C : sm_C Γ Ω cc own nL w0) {u0 u1 : Option Value} {x : Int32} (hd : decode cc pc = .ok (.istore_n 1, 1)) (kk : sm_G Γ Ω M cs sl (pc + 1) (u0 :: some (.int x) :: r) st X Y) : sm_G Γ Ω M cs sl pc (u0 :: u1 :: r) (.int x :: st) X Y := by
  exact sg_isn C hd (by show 1 < List.length _; simp only [List.length_cons]; omega) kk
theorem sg_as1 (C : sm_C Γ Ω cc own nL w0) {u0 u1 : Option Value} {x : Nat} (hd : decode cc pc = .ok (.astore_n 1, 1)) (kk : sm_G Γ Ω M cs sl (pc + 1) (u0 :: some (.ref x) :: r) st X Y) : sm_G Γ Ω M cs sl pc (u0 :: u1 :: r) (.ref x :: st) X Y := by
  exact sg_asn C hd (by show 1 < List.length _; simp only [List.length_cons]; omega) kk
theorem sg_inc1 (C : sm_C Γ Ω cc own nL w0) {u0 : Option Value} {a n : Nat} {m : Int} (hd : decode cc pc = .ok (.iinc 1 m, 3)) (hm : Int32.ofInt m = nI n) (kk : sm_G Γ Ω M cs sl (pc + 3) (u0 :: some (.int (nI (a + n))) :: r) st X Y) : sm_G Γ Ω M cs sl pc (u0 :: some (.int (nI a)) :: r) st X Y := by
  exact sg_inc C hd rfl (by rw [hm, nI_add]) kk
theorem sg_dec1 (C : sm_C Γ Ω cc own nL w0) {u0 : Option Value} {x : Int32} (hd : decode cc pc = .ok (.iinc 1 (-1), 3)) (kk : sm_G Γ Ω M cs sl (pc + 3) (u0 :: some (.int (x + (-1))) :: r) st X Y) : sm_G Γ Ω M cs sl pc (u0 :: some (.int x) :: r) st X Y := by
  exact sg_inc C hd rfl rfl kk
theorem sg_is2 (C : sm_C Γ Ω cc own nL w0) {u0 u1 u2 : Option Value} {x : Int32} (hd : decode cc pc = .ok (.istore_n 2, 1)) (kk : sm_G Γ Ω M cs sl (pc + 1) (u0 :: u1 :: some (.int x) :: r) st X Y) : sm_G Γ Ω M cs sl pc (u0 :: u1 :: u2 :: r) (.int x :: st) X Y := by
  exact sg_isn C hd (by show 2 < List.length _; simp only [List.length_cons]; omega) kk
theorem sg_as2 (C : sm_C Γ Ω cc own nL w0) {u0 u1 u2 : Option Value} {x : Nat} (hd : decode cc pc = .ok (.astore_n 2, 1)) (kk : sm_G Γ Ω M cs sl (pc + 1) (u0 :: u1 :: some (.ref x) :: r) st X Y) : sm_G Γ Ω M cs sl pc (u0 :: u1 :: u2 :: r) (.ref x :: st) X Y := by
  exact sg_asn C hd (by show 2 < List.length _; simp only [List.length_cons]; omega) kk
theorem sg_inc2 (C : sm_C Γ Ω cc own nL w0) {u0 u1 : Option Value} {a n : Nat} {m : Int} (hd : decode cc pc = .ok (.iinc 2 m, 3)) (hm : Int32.ofInt m = nI n) (kk : sm_G Γ Ω M cs sl (pc + 3) (u0 :: u1 :: some (.int (nI (a + n))) :: r) st X Y) : sm_G Γ Ω M cs sl pc (u0 :: u1 :: some (.int (nI a)) :: r) st X Y := by
  exact sg_inc C hd rfl (by rw [hm, nI_add]) kk
theorem sg_dec2 (C : sm_C Γ Ω cc own nL w0) {u0 u1 : Option Value} {x : Int32} (hd : decode cc pc = .ok (.iinc 2 (-1), 3)) (kk : sm_G Γ Ω M cs sl (pc + 3) (u0 :: u1 :: some (.int (x + (-1))) :: r) st X Y) : sm_G Γ Ω M cs sl pc (u0 :: u1 :: some (.int x) :: r) st X Y := by
  exact sg_inc C hd rfl rfl kk
theorem sg_is3 (C : sm_C Γ Ω cc own nL w0) {u0 u1 u2 u3 : Option Value} {x : Int32} (hd : decode cc pc = .ok (.istore_n 3, 1)) (kk : sm_G Γ Ω M cs sl (pc + 1) (u0 :: u1 :: u2 :: some (.int x) :: r) st X Y) : sm_G Γ Ω M cs sl pc (u0 :: u1 :: u2 :: u3 :: r) (.int x :: st) X Y := by
  exact sg_isn C hd (by show 3 < List.length _; simp only [List.length_cons]; omega) kk
theorem sg_as3 (C : sm_C Γ Ω cc own nL w0) {u0 u1 u2 u3 : Option Value} {x : Nat} (hd : decode cc pc = .ok (.astore_n 3, 1)) (kk : sm_G Γ Ω M cs sl (pc + 1) (u0 :: u1 :: u2 :: some (.ref x) :: r) st X Y) : sm_G Γ Ω M cs sl pc (u0 :: u1 :: u2 :: u3 :: r) (.ref x :: st) X Y := by
  exact sg_asn C hd (by show 3 < List.length _; simp only [List.length_cons]; omega) kk
theorem sg_inc3 (C : sm_C Γ Ω cc own nL w0) {u0 u1 u2 : Option Value} {a n : Nat} {m : Int} (hd : decode cc pc = .ok (.iinc 3 m, 3)) (hm : Int32.ofInt m = nI n) (kk : sm_G Γ Ω M cs sl (pc + 3) (u0 :: u1 :: u2 :: some (.int (nI (a + n))) :: r) st X Y) : sm_G Γ Ω M cs sl pc (u0 :: u1 :: u2 :: some (.int (nI a)) :: r) st X Y := by
  exact sg_inc C hd rfl (by rw [hm, nI_add]) kk
theorem sg_dec3 (C : sm_C Γ Ω cc own nL w0) {u0 u1 u2 : Option Value} {x : Int32} (hd : decode cc pc = .ok (.iinc 3 (-1), 3)) (kk : sm_G Γ Ω M cs sl (pc + 3) (u0 :: u1 :: u2 :: some (.int (x + (-1))) :: r) st X Y) : sm_G Γ Ω M cs sl pc (u0 :: u1 :: u2 :: some (.int x) :: r) st X Y := by
  exact sg_inc C hd rfl rfl kk
theorem sg_is4 (C : sm_C Γ Ω cc own nL w0) {u0 u1 u2 u3 u4 : Option Value} {x : Int32} (hd : decode cc pc = .ok (.istore 4, 2)) (kk : sm_G Γ Ω M cs sl (pc + 2) (u0 :: u1 :: u2 :: u3 :: some (.int x) :: r) st X Y) : sm_G Γ Ω M cs sl pc (u0 :: u1 :: u2 :: u3 :: u4 :: r) (.int x :: st) X Y := by
  exact sg_is C hd (by show 4 < List.length _; simp only [List.length_cons]; omega) kk
theorem sg_as4 (C : sm_C Γ Ω cc own nL w0) {u0 u1 u2 u3 u4 : Option Value} {x : Nat} (hd : decode cc pc = .ok (.astore 4, 2)) (kk : sm_G Γ Ω M cs sl (pc + 2) (u0 :: u1 :: u2 :: u3 :: some (.ref x) :: r) st X Y) : sm_G Γ Ω M cs sl pc (u0 :: u1 :: u2 :: u3 :: u4 :: r) (.ref x :: st) X Y := by
  exact sg_as C hd (by show 4 < List.length _; simp only [List.length_cons]; omega) kk
theorem sg_inc4 (C : sm_C Γ Ω cc own nL w0) {u0 u1 u2 u3 : Option Value} {a n : Nat} {m : Int} (hd : decode cc pc = .ok (.iinc 4 m, 3)) (hm : Int32.ofInt m = nI n) (kk : sm_G Γ Ω M cs sl (pc + 3) (u0 :: u1 :: u2 :: u3 :: some (.int (nI (a + n))) :: r) st X Y) : sm_G Γ Ω M cs sl pc (u0 :: u1 :: u2 :: u3 :: some (.int (nI a)) :: r) st X Y := by
  exact sg_inc C hd rfl (by rw [hm, nI_add]) kk
theorem sg_dec4 (C : sm_C Γ Ω cc own nL w0) {u0 u1 u2 u3 : Option Value} {x : Int32} (hd : decode cc pc = .ok (.iinc 4 (-1), 3)) (kk : sm_G Γ Ω M cs sl (pc + 3) (u0 :: u1 :: u2 :: u3 :: some (.int (x + (-1))) :: r) st X Y) : sm_G Γ Ω M cs sl pc (u0 :: u1 :: u2 :: u3 :: some (.int x) :: r) st X Y := by
  exact sg_inc C hd rfl rfl kk
theorem sg_is5 (C : sm_C Γ Ω cc own nL w0) {u0 u1 u2 u3 u4 u5 : Option Value} {x : Int32} (hd : decode cc pc = .ok (.istore 5, 2)) (kk : sm_G Γ Ω M cs sl (pc + 2) (u0 :: u1 :: u2 :: u3 :: u4 :: some (.int x) :: r) st X Y) : sm_G Γ Ω M cs sl pc (u0 :: u1 :: u2 :: u3 :: u4 :: u5 :: r) (.int x :: st) X Y := by
  exact sg_is C hd (by show 5 < List.length _; simp only [List.length_cons]; omega) kk
theorem sg_as5 (C : sm_C Γ Ω cc own nL w0) {u0 u1 u2 u3 u4 u5 : Option Value} {x : Nat} (hd : decode cc pc = .ok (.astore 5, 2)) (kk : sm_G Γ Ω M cs sl (pc + 2) (u0 :: u1 :: u2 :: u3 :: u4 :: some (.ref x) :: r) st X Y) : sm_G Γ Ω M cs sl pc (u0 :: u1 :: u2 :: u3 :: u4 :: u5 :: r) (.ref x :: st) X Y := by
  exact sg_as C hd (by show 5 < List.length _; simp only [List.length_cons]; omega) kk
theorem sg_inc5 (C : sm_C Γ Ω cc own nL w0) {u0 u1 u2 u3 u4 : Option Value} {a n : Nat} {m : Int} (hd : decode cc pc = .ok (.iinc 5 m, 3)) (hm : Int32.ofInt m = nI n) (kk : sm_G Γ Ω M cs sl (pc + 3) (u0 :: u1 :: u2 :: u3 :: u4 :: some (.int (nI (a + n))) :: r) st X Y) : sm_G Γ Ω M cs sl pc (u0 :: u1 :: u2 :: u3 :: u4 :: some (.int (nI a)) :: r) st X Y := by
  exact sg_inc C hd rfl (by rw [hm, nI_add]) kk
theorem sg_dec5 (C : sm_C Γ Ω cc own nL w0) {u0 u1 u2 u3 u4 : Option Value} {x : Int32} (hd : decode cc pc = .ok (.iinc 5 (-1), 3)) (kk : sm_G Γ Ω M cs sl (pc + 3) (u0 :: u1 :: u2 :: u3 :: u4 :: some (.int (x + (-1))) :: r) st X Y) : sm_G Γ Ω M cs sl pc (u0 :: u1 :: u2 :: u3 :: u4 :: some (.int x) :: r) st X Y := by
  exact sg_inc C hd rfl rfl kk
theorem sg_is6 (C : sm_C Γ Ω cc own nL w0) {u0 u1 u2 u3 u4 u5 u6 : Option Value} {x : Int32} (hd : decode cc pc = .ok (.istore 6, 2)) (kk : sm_G Γ Ω M cs sl (pc + 2) (u0 :: u1 :: u2 :: u3 :: u4 :: u5 :: some (.int x) :: r) st X Y) : sm_G Γ Ω M cs sl pc (u0 :: u1 :: u2 :: u3 :: u4 :: u5 :: u6 :: r) (.int x :: st) X Y := by
  exact sg_is C hd (by show 6 < List.length _; simp only [List.length_cons]; omega) kk
theorem sg_as6 (C : sm_C Γ Ω cc own nL w0) {u0 u1 u2 u3 u4 u5 u6 : Option Value} {x : Nat} (hd : decode cc pc = .ok (.astore 6, 2)) (kk : sm_G Γ Ω M cs sl (pc + 2) (u0 :: u1 :: u2 :: u3 :: u4 :: u5 :: some (.ref x) :: r) st X Y) : sm_G Γ Ω M cs sl pc (u0 :: u1 :: u2 :: u3 :: u4 :: u5 :: u6 :: r) (.ref x :: st) X Y := by
  exact sg_as C hd (by show 6 < List.length _; simp only [List.length_cons]; omega) kk
theorem sg_inc6 (C : sm_C Γ Ω cc own nL w0) {u0 u1 u2 u3 u4 u5 : Option Value} {a n : Nat} {m : Int} (hd : decode cc pc = .ok (.iinc 6 m, 3)) (hm : Int32.ofInt m = nI n) (kk : sm_G Γ Ω M cs sl (pc + 3) (u0 :: u1 :: u2 :: u3 :: u4 :: u5 :: some (.int (nI (a + n))) :: r) st X Y) : sm_G Γ Ω M cs sl pc (u0 :: u1 :: u2 :: u3 :: u4 :: u5 :: some (.int (nI a)) :: r) st X Y := by
  exact sg_inc C hd rfl (by rw [hm, nI_add]) kk
theorem sg_dec6 (C : sm_C Γ Ω cc own nL w0) {u0 u1 u2 u3 u4 u5 : Option Value} {x : Int32} (hd : decode cc pc = .ok (.iinc 6 (-1), 3)) (kk : sm_G Γ Ω M cs sl (pc + 3) (u0 :: u1 :: u2 :: u3 :: u4 :: u5 :: some (.int (x + (-1))) :: r) st X Y) : sm_G Γ Ω M cs sl pc (u0 :: u1 :: u2 :: u3 :: u4 :: u5 :: some (.int x) :: r) st X Y := by
  exact sg_inc C hd rfl rfl kk
theorem sg_is7 (C : sm_C Γ Ω cc own nL w0) {u0 u1 u2 u3 u4 u5 u6 u7 : Option Value} {x : Int32} (hd : decode cc pc = .ok (.istore 7, 2)) (kk : sm_G Γ Ω M cs sl (pc + 2) (u0 :: u1 :: u2 :: u3 :: u4 :: u5 :: u6 :: some (.int x) :: r) st X Y) : sm_G Γ Ω M cs sl pc (u0 :: u1 :: u2 :: u3 :: u4 :: u5 :: u6 :: u7 :: r) (.int x :: st) X Y := by
  exact sg_is C hd (by show 7 < List.length _; simp only [List.length_cons]; omega) kk
theorem sg_as7 (C : sm_C Γ Ω cc own nL w0) {u0 u1 u2 u3 u4 u5 u6 u7 : Option Value} {x : Nat} (hd : decode cc pc = .ok (.astore 7, 2)) (kk : sm_G Γ Ω M cs sl (pc + 2) (u0 :: u1 :: u2 :: u3 :: u4 :: u5 :: u6 :: some (.ref x) :: r) st X Y) : sm_G Γ Ω M cs sl pc (u0 :: u1 :: u2 :: u3 :: u4 :: u5 :: u6 :: u7 :: r) (.ref x :: st) X Y := by
  exact sg_as C hd (by show 7 < List.length _; simp only [List.length_cons]; omega) kk
theorem sg_inc7 (C : sm_C Γ Ω cc own nL w0) {u0 u1 u2 u3 u4 u5 u6 : Option Value} {a n : Nat} {m : Int} (hd : decode cc pc = .ok (.iinc 7 m, 3)) (hm : Int32.ofInt m = nI n) (kk : sm_G Γ Ω M cs sl (pc + 3) (u0 :: u1 :: u2 :: u3 :: u4 :: u5 :: u6 :: some (.int (nI (a + n))) :: r) st X Y) : sm_G Γ Ω M cs sl pc (u0 :: u1 :: u2 :: u3 :: u4 :: u5 :: u6 :: some (.int (nI a)) :: r) st X Y := by
  exact sg_inc C hd rfl (by rw [hm, nI_add]) kk
theorem sg_dec7 (C : sm_C Γ Ω cc own nL w0) {u0 u1 u2 u3 u4 u5 u6 : Option Value} {x : Int32} (hd : decode cc pc = .ok (.iinc 7 (-1), 3)) (kk : sm_G Γ Ω M cs sl (pc + 3) (u0 :: u1 :: u2 :: u3 :: u4 :: u5 :: u6 :: some (.int (x + (-1))) :: r) st X Y) : sm_G Γ Ω M cs sl pc (u0 :: u1 :: u2 :: u3 :: u4 :: u5 :: u6 :: some (.int x) :: r) st X Y := by
  exact sg_inc C hd rfl rfl kk
theorem sg_is8 (C : sm_C Γ Ω cc own nL w0) {u0 u1 u2 u3 u4 u5 u6 u7 u8 : Option Value} {x : Int32} (hd : decode cc pc = .ok (.istore 8, 2)) (kk : sm_G Γ Ω M cs sl (pc + 2) (u0 :: u1 :: u2 :: u3 :: u4 :: u5 :: u6 :: u7 :: some (.int x) :: r) st X Y) : sm_G Γ Ω M cs sl pc (u0 :: u1 :: u2 :: u3 :: u4 :: u5 :: u6 :: u7 :: u8 :: r) (.int x :: st) X Y := by
  exact sg_is C hd (by show 8 < List.length _; simp only [List.length_cons]; omega) kk
theorem sg_as8 (C : sm_C Γ Ω cc own nL w0) {u0 u1 u2 u3 u4 u5 u6 u7 u8 : Option Value} {x : Nat} (hd : decode cc pc = .ok (.astore 8, 2)) (kk : sm_G Γ Ω M cs sl (pc + 2) (u0 :: u1 :: u2 :: u3 :: u4 :: u5 :: u6 :: u7 :: some (.ref x) :: r) st X Y) : sm_G Γ Ω M cs sl pc (u0 :: u1 :: u2 :: u3 :: u4 :: u5 :: u6 :: u7 :: u8 :: r) (.ref x :: st) X Y := by
  exact sg_as C hd (by show 8 < List.length _; simp only [List.length_cons]; omega) kk
theorem sg_inc8 (C : sm_C Γ Ω cc own nL w0) {u0 u1 u2 u3 u4 u5 u6 u7 : Option Value} {a n : Nat} {m : Int} (hd : decode cc pc = .ok (.iinc 8 m, 3)) (hm : Int32.ofInt m = nI n) (kk : sm_G Γ Ω M cs sl (pc + 3) (u0 :: u1 :: u2 :: u3 :: u4 :: u5 :: u6 :: u7 :: some (.int (nI (a + n))) :: r) st X Y) : sm_G Γ Ω M cs sl pc (u0 :: u1 :: u2 :: u3 :: u4 :: u5 :: u6 :: u7 :: some (.int (nI a)) :: r) st X Y := by
  exact sg_inc C hd rfl (by rw [hm, nI_add]) kk
theorem sg_dec8 (C : sm_C Γ Ω cc own nL w0) {u0 u1 u2 u3 u4 u5 u6 u7 : Option Value} {x : Int32} (hd : decode cc pc = .ok (.iinc 8 (-1), 3)) (kk : sm_G Γ Ω M cs sl (pc + 3) (u0 :: u1 :: u2 :: u3 :: u4 :: u5 :: u6 :: u7 :: some (.int (x + (-1))) :: r) st X Y) : sm_G Γ Ω M cs sl pc (u0 :: u1 :: u2 :: u3 :: u4 :: u5 :: u6 :: u7 :: some (.int x) :: r) st X Y := by
  exact sg_inc C hd rfl rfl kk
theorem sg_is9 (C : sm_C Γ Ω cc own nL w0) {u0 u1 u2 u3 u4 u5 u6 u7 u8 u9 : Option Value} {x : Int32} (hd : decode cc pc = .ok (.istore 9, 2)) (kk : sm_G Γ Ω M cs sl (pc + 2) (u0 :: u1 :: u2 :: u3 :: u4 :: u5 :: u6 :: u7 :: u8 :: some (.int x) :: r) st X Y) : sm_G Γ Ω M cs sl pc (u0 :: u1 :: u2 :: u3 :: u4 :: u5 :: u6 :: u7 :: u8 :: u9 :: r) (.int x :: st) X Y := by
  exact sg_is C hd (by show 9 < List.length _; simp only [List.length_cons]; omega) kk
theorem sg_as9 (C : sm_C Γ Ω cc own nL w0) {u0 u1 u2 u3 u4 u5 u6 u7 u8 u9 : Option Value} {x : Nat} (hd : decode cc pc = .ok (.astore 9, 2)) (kk : sm_G Γ Ω M cs sl (pc + 2) (u0 :: u1 :: u2 :: u3 :: u4 :: u5 :: u6 :: u7 :: u8 :: some (.ref x) :: r) st X Y) : sm_G Γ Ω M cs sl pc (u0 :: u1 :: u2 :: u3 :: u4 :: u5 :: u6 :: u7 :: u8 :: u9 :: r) (.ref x :: st) X Y := by
  exact sg_as C hd (by show 9 < List.length _; simp only [List.length_cons]; omega) kk
theorem sg_inc9 (C : sm_C Γ Ω cc own nL w0) {u0 u1 u2 u3 u4 u5 u6 u7 u8 : Option Value} {a n : Nat} {m : Int} (hd : decode cc pc = .ok (.iinc 9 m, 3)) (hm : Int32.ofInt m = nI n) (kk : sm_G Γ Ω M cs sl (pc + 3) (u0 :: u1 :: u2 :: u3 :: u4 :: u5 :: u6 :: u7 :: u8 :: some (.int (nI (a + n))) :: r) st X Y) : sm_G Γ Ω M cs sl pc (u0 :: u1 :: u2 :: u3 :: u4 :: u5 :: u6 :: u7 :: u8 :: some (.int (nI a)) :: r) st X Y := by
  exact sg_inc C hd rfl (by rw [hm, nI_add]) kk
theorem sg_dec9 (C : sm_C Γ Ω cc own nL w0) {u0 u1 u2 u3 u4 u5 u6 u7 u8 : Option Value} {x : Int32} (hd : decode cc pc = .ok (.iinc 9 (-1), 3)) (kk : sm_G Γ Ω M cs sl (pc + 3) (u0 :: u1 :: u2 :: u3 :: u4 :: u5 :: u6 :: u7 :: u8 :: some (.int (x + (-1))) :: r) st X Y) : sm_G Γ Ω M cs sl pc (u0 :: u1 :: u2 :: u3 :: u4 :: u5 :: u6 :: u7 :: u8 :: some (.int x) :: r) st X Y := by
  exact sg_inc C hd rfl rfl kk
theorem sg_is10 (C : sm_C Γ Ω cc own nL w0) {u0 u1 u2 u3 u4 u5 u6 u7 u8 u9 u10 : Option Value} {x : Int32} (hd : decode cc pc = .ok (.istore 10, 2)) (kk : sm_G Γ Ω M cs sl (pc + 2) (u0 :: u1 :: u2 :: u3 :: u4 :: u5 :: u6 :: u7 :: u8 :: u9 :: some (.int x) :: r) st X Y) : sm_G Γ Ω M cs sl pc (u0 :: u1 :: u2 :: u3 :: u4 :: u5 :: u6 :: u7 :: u8 :: u9 :: u10 :: r) (.int x :: st) X Y := by
  exact sg_is C hd (by show 10 < List.length _; simp only [List.length_cons]; omega) kk
theorem sg_as10 (C : sm_C Γ Ω cc own nL w0) {u0 u1 u2 u3 u4 u5 u6 u7 u8 u9 u10 : Option Value} {x : Nat} (hd : decode cc pc = .ok (.astore 10, 2)) (kk : sm_G Γ Ω M cs sl (pc + 2) (u0 :: u1 :: u2 :: u3 :: u4 :: u5 :: u6 :: u7 :: u8 :: u9 :: some (.ref x) :: r) st X Y) : sm_G Γ Ω M cs sl pc (u0 :: u1 :: u2 :: u3 :: u4 :: u5 :: u6 :: u7 :: u8 :: u9 :: u10 :: r) (.ref x :: st) X Y := by
  exact sg_as C hd (by show 10 < List.length _; simp only [List.length_cons]; omega) kk
theorem sg_inc10 (C : sm_C Γ Ω cc own nL w0) {u0 u1 u2 u3 u4 u5 u6 u7 u8 u9 : Option Value} {a n : Nat} {m : Int} (hd : decode cc pc = .ok (.iinc 10 m, 3)) (hm : Int32.ofInt m = nI n) (kk : sm_G Γ Ω M cs sl (pc + 3) (u0 :: u1 :: u2 :: u3 :: u4 :: u5 :: u6 :: u7 :: u8 :: u9 :: some (.int (nI (a + n))) :: r) st X Y) : sm_G Γ Ω M cs sl pc (u0 :: u1 :: u2 :: u3 :: u4 :: u5 :: u6 :: u7 :: u8 :: u9 :: some (.int (nI a)) :: r) st X Y := by
  exact sg_inc C hd rfl (by rw [hm, nI_add]) kk
theorem sg_dec10 (C : sm_C Γ Ω cc own nL w0) {u0 u1 u2 u3 u4 u5 u6 u7 u8 u9 : Option Value} {x : Int32} (hd : decode cc pc = .ok (.iinc 10 (-1), 3)) (kk : sm_G Γ Ω M cs sl (pc + 3) (u0 :: u1 :: u2 :: u3 :: u4 :: u5 :: u6 :: u7 :: u8 :: u9 :: some (.int (x + (-1))) :: r) st X Y) : sm_G Γ Ω M cs sl pc (u0 :: u1 :: u2 :: u3 :: u4 :: u5 :: u6 :: u7 :: u8 :: u9 :: some (.int x) :: r) st X Y := by
  exact sg_inc C hd rfl rfl kk
theorem sg_is11 (C : sm_C Γ Ω cc own nL w0) {u0 u1 u2 u3 u4 u5 u6 u7 u8 u9 u10 u11 : Option Value} {x : Int32} (hd : decode cc pc = .ok (.istore 11, 2)) (kk : sm_G Γ Ω M cs sl (pc + 2) (u0 :: u1 :: u2 :: u3 :: u4 :: u5 :: u6 :: u7 :: u8 :: u9 :: u10 :: some (.int x) :: r) st X Y) : sm_G Γ Ω M cs sl pc (u0 :: u1 :: u2 :: u3 :: u4 :: u5 :: u6 :: u7 :: u8 :: u9 :: u10 :: u11 :: r) (.int x :: st) X Y := by
  exact sg_is C hd (by show 11 < List.length _; simp only [List.length_cons]; omega) kk
theorem sg_as11 (C : sm_C Γ Ω cc own nL w0) {u0 u1 u2 u3 u4 u5 u6 u7 u8 u9 u10 u11 : Option Value} {x : Nat} (hd : decode cc pc = .ok (.astore 11, 2)) (kk : sm_G Γ Ω M cs sl (pc + 2) (u0 :: u1 :: u2 :: u3 :: u4 :: u5 :: u6 :: u7 :: u8 :: u9 :: u10 :: some (.ref x) :: r) st X Y) : sm_G Γ Ω M cs sl pc (u0 :: u1 :: u2 :: u3 :: u4 :: u5 :: u6 :: u7 :: u8 :: u9 :: u10 :: u11 :: r) (.ref x :: st) X Y := by
  exact sg_as C hd (by show 11 < List.length _; simp only [List.length_cons]; omega) kk
theorem sg_inc11 (C : sm_C Γ Ω cc own nL w0) {u0 u1 u2 u3 u4 u5 u6 u7 u8 u9 u10 : Option Value} {a n : Nat} {m : Int} (hd : decode cc pc = .ok (.iinc 11 m, 3)) (hm : Int32.ofInt m = nI n) (kk : sm_G Γ Ω M cs sl (pc + 3) (u0 :: u1 :: u2 :: u3 :: u4 :: u5 :: u6 :: u7 :: u8 :: u9 :: u10 :: some (.int (nI (a + n))) :: r) st X Y) : sm_G Γ Ω M cs sl pc (u0 :: u1 :: u2 :: u3 :: u4 :: u5 :: u6 :: u7 :: u8 :: u9 :: u10 :: some (.int (nI a)) :: r) st X Y := by
  exact sg_inc C hd rfl (by rw [hm, nI_add]) kk
theorem sg_dec11 (C : sm_C Γ Ω cc own nL w0) {u0 u1 u2 u3 u4 u5 u6 u7 u8 u9 u10 : Option Value} {x : Int32} (hd : decode cc pc = .ok (.iinc 11 (-1), 3)) (kk : sm_G Γ Ω M cs sl (pc + 3) (u0 :: u1 :: u2 :: u3 :: u4 :: u5 :: u6 :: u7 :: u8 :: u9 :: u10 :: some (.int (x + (-1))) :: r) st X Y) : sm_G Γ Ω M cs sl pc (u0 :: u1 :: u2 :: u3 :: u4 :: u5 :: u6 :: u7 :: u8 :: u9 :: u10 :: some (.int x) :: r) st X Y := by
  exact sg_inc C hd rfl rfl kk
theorem sg_is12 (C : sm_C Γ Ω cc own nL w0) {u0 u1 u2 u3 u4 u5 u6 u7 u8 u9 u10 u11 u12 : Option Value} {x : Int32} (hd : decode cc pc = .ok (.istore 12, 2)) (kk : sm_G Γ Ω M cs sl (pc + 2) (u0 :: u1 :: u2 :: u3 :: u4 :: u5 :: u6 :: u7 :: u8 :: u9 :: u10 :: u11 :: some (.int x) :: r) st X Y) : sm_G Γ Ω M cs sl pc (u0 :: u1 :: u2 :: u3 :: u4 :: u5 :: u6 :: u7 :: u8 :: u9 :: u10 :: u11 :: u12 :: r) (.int x :: st) X Y := by
  exact sg_is C hd (by show 12 < List.length _; simp only [List.length_cons]; omega) kk
theorem sg_as12 (C : sm_C Γ Ω cc own nL w0) {u0 u1 u2 u3 u4 u5 u6 u7 u8 u9 u10 u11 u12 : Option Value} {x : Nat} (hd : decode cc pc = .ok (.astore 12, 2)) (kk : sm_G Γ Ω M cs sl (pc + 2) (u0 :: u1 :: u2 :: u3 :: u4 :: u5 :: u6 :: u7 :: u8 :: u9 :: u10 :: u11 :: some (.ref x) :: r) st X Y) : sm_G Γ Ω M cs sl pc (u0 :: u1 :: u2 :: u3 :: u4 :: u5 :: u6 :: u7 :: u8 :: u9 :: u10 :: u11 :: u12 :: r) (.ref x :: st) X Y := by
  exact sg_as C hd (by show 12 < List.length _; simp only [List.length_cons]; omega) kk
theorem sg_inc12 (C : sm_C Γ Ω cc own nL w0) {u0 u1 u2 u3 u4 u5 u6 u7 u8 u9 u10 u11 : Option Value} {a n : Nat} {m : Int} (hd : decode cc pc = .ok (.iinc 12 m, 3)) (hm : Int32.ofInt m = nI n) (kk : sm_G Γ Ω M cs sl (pc + 3) (u0 :: u1 :: u2 :: u3 :: u4 :: u5 :: u6 :: u7 :: u8 :: u9 :: u10 :: u11 :: some (.int (nI (a + n))) :: r) st X Y) : sm_G Γ Ω M cs sl pc (u0 :: u1 :: u2 :: u3 :: u4 :: u5 :: u6 :: u7 :: u8 :: u9 :: u10 :: u11 :: some (.int (nI a)) :: r) st X Y := by
  exact sg_inc C hd rfl (by rw [hm, nI_add]) kk
theorem sg_dec12 (C : sm_C Γ Ω cc own nL w0) {u0 u1 u2 u3 u4 u5 u6 u7 u8 u9 u10 u11 : Option Value} {x : Int32} (hd : decode cc pc = .ok (.iinc 12 (-1), 3)) (kk : sm_G Γ Ω M cs sl (pc + 3) (u0 :: u1 :: u2 :: u3 :: u4 :: u5 :: u6 :: u7 :: u8 :: u9 :: u10 :: u11 :: some (.int (x + (-1))) :: r) st X Y) : sm_G Γ Ω M cs sl pc (u0 :: u1 :: u2 :: u3 :: u4 :: u5 :: u6 :: u7 :: u8 :: u9 :: u10 :: u11 :: some (.int x) :: r) st X Y := by
  exact sg_inc C hd rfl rfl kk
theorem sg_add (C : sm_C Γ Ω cc own nL w0) {a b : Nat} (hd : decode cc pc = .ok (.iadd, 1))  (kk : sm_G Γ Ω M cs sl (pc + 1) L (.int (nI (a + b)) :: st) X Y) : sm_G Γ Ω M cs sl pc L (.int (nI b) :: .int (nI a) :: st) X Y := by
  intro ls H locs hL hP hS
  refine lv_iadd C.1.1 C.1.2.1 hd  ?_
  rw [nI_add]
  exact kk ls H locs hL hP hS
theorem sg_sub (C : sm_C Γ Ω cc own nL w0) {a b : Nat} (hd : decode cc pc = .ok (.isub, 1)) (h : b ≤ a) (kk : sm_G Γ Ω M cs sl (pc + 1) L (.int (nI (a - b)) :: st) X Y) : sm_G Γ Ω M cs sl pc L (.int (nI b) :: .int (nI a) :: st) X Y := by
  intro ls H locs hL hP hS
  refine lv_isub C.1.1 C.1.2.1 hd  ?_
  rw [pk_sub h]
  exact kk ls H locs hL hP hS
theorem sg_mul (C : sm_C Γ Ω cc own nL w0) {a b : Nat} (hd : decode cc pc = .ok (.imul, 1))  (kk : sm_G Γ Ω M cs sl (pc + 1) L (.int (nI (a * b)) :: st) X Y) : sm_G Γ Ω M cs sl pc L (.int (nI b) :: .int (nI a) :: st) X Y := by
  intro ls H locs hL hP hS
  refine lv_imul C.1.1 C.1.2.1 hd  ?_
  rw [pk_mul]
  exact kk ls H locs hL hP hS
theorem sg_div (C : sm_C Γ Ω cc own nL w0) {a b : Nat} (hd : decode cc pc = .ok (.idiv, 1)) (ha : a < 2 ^ 31) (h0 : 0 < b) (hb : b < 2 ^ 31) (kk : sm_G Γ Ω M cs sl (pc + 1) L (.int (nI (a / b)) :: st) X Y) : sm_G Γ Ω M cs sl pc L (.int (nI b) :: .int (nI a) :: st) X Y := by
  intro ls H locs hL hP hS
  refine lv_idiv C.1.1 C.1.2.1 hd (nI_ne0 h0 hb) ?_
  rw [pk_div ha h0 hb]
  exact kk ls H locs hL hP hS
theorem sg_rem (C : sm_C Γ Ω cc own nL w0) {a b : Nat} (hd : decode cc pc = .ok (.irem, 1)) (ha : a < 2 ^ 31) (h0 : 0 < b) (hb : b < 2 ^ 31) (kk : sm_G Γ Ω M cs sl (pc + 1) L (.int (nI (a % b)) :: st) X Y) : sm_G Γ Ω M cs sl pc L (.int (nI b) :: .int (nI a) :: st) X Y := by
  intro ls H locs hL hP hS
  refine lv_irem C.1.1 C.1.2.1 hd (nI_ne0 h0 hb) ?_
  rw [pk_rem ha h0 hb]
  exact kk ls H locs hL hP hS
theorem sg_xor (C : sm_C Γ Ω cc own nL w0) {a b : Nat} (hd : decode cc pc = .ok (.ixor, 1))  (kk : sm_G Γ Ω M cs sl (pc + 1) L (.int (nI (a ^^^ b)) :: st) X Y) : sm_G Γ Ω M cs sl pc L (.int (nI b) :: .int (nI a) :: st) X Y := by
  intro ls H locs hL hP hS
  refine lv_ixor C.1.1 C.1.2.1 hd  ?_
  rw [nx_xor]
  exact kk ls H locs hL hP hS
theorem sg_and (C : sm_C Γ Ω cc own nL w0) {a b : Nat} (hd : decode cc pc = .ok (.iand, 1))  (kk : sm_G Γ Ω M cs sl (pc + 1) L (.int (nI (a &&& b)) :: st) X Y) : sm_G Γ Ω M cs sl pc L (.int (nI b) :: .int (nI a) :: st) X Y := by
  intro ls H locs hL hP hS
  refine lv_iand C.1.1 C.1.2.1 hd  ?_
  rw [nx_and]
  exact kk ls H locs hL hP hS
theorem sg_or (C : sm_C Γ Ω cc own nL w0) {a b : Nat} (hd : decode cc pc = .ok (.ior, 1))  (kk : sm_G Γ Ω M cs sl (pc + 1) L (.int (nI (a ||| b)) :: st) X Y) : sm_G Γ Ω M cs sl pc L (.int (nI b) :: .int (nI a) :: st) X Y := by
  intro ls H locs hL hP hS
  refine lv_ior C.1.1 C.1.2.1 hd  ?_
  rw [nx_or]
  exact kk ls H locs hL hP hS
theorem sr_iadd (C : sm_C Γ Ω cc own nL w0) {x y z : Int32} (hd : decode cc pc = .ok (.iadd, 1)) (hz : x + y = z) (kk : sm_G Γ Ω M cs sl (pc + 1) L (.int z :: st) X Y) : sm_G Γ Ω M cs sl pc L (.int y :: .int x :: st) X Y := by
  intro ls H locs hL hP hS
  refine lv_iadd C.1.1 C.1.2.1 hd ?_
  rw [hz]
  exact kk ls H locs hL hP hS
theorem sr_isub (C : sm_C Γ Ω cc own nL w0) {x y z : Int32} (hd : decode cc pc = .ok (.isub, 1)) (hz : x - y = z) (kk : sm_G Γ Ω M cs sl (pc + 1) L (.int z :: st) X Y) : sm_G Γ Ω M cs sl pc L (.int y :: .int x :: st) X Y := by
  intro ls H locs hL hP hS
  refine lv_isub C.1.1 C.1.2.1 hd ?_
  rw [hz]
  exact kk ls H locs hL hP hS
theorem sr_imul (C : sm_C Γ Ω cc own nL w0) {x y z : Int32} (hd : decode cc pc = .ok (.imul, 1)) (hz : x * y = z) (kk : sm_G Γ Ω M cs sl (pc + 1) L (.int z :: st) X Y) : sm_G Γ Ω M cs sl pc L (.int y :: .int x :: st) X Y := by
  intro ls H locs hL hP hS
  refine lv_imul C.1.1 C.1.2.1 hd ?_
  rw [hz]
  exact kk ls H locs hL hP hS
theorem sr_iand (C : sm_C Γ Ω cc own nL w0) {x y z : Int32} (hd : decode cc pc = .ok (.iand, 1)) (hz : x &&& y = z) (kk : sm_G Γ Ω M cs sl (pc + 1) L (.int z :: st) X Y) : sm_G Γ Ω M cs sl pc L (.int y :: .int x :: st) X Y := by
  intro ls H locs hL hP hS
  refine lv_iand C.1.1 C.1.2.1 hd ?_
  rw [hz]
  exact kk ls H locs hL hP hS
theorem sr_ior (C : sm_C Γ Ω cc own nL w0) {x y z : Int32} (hd : decode cc pc = .ok (.ior, 1)) (hz : x ||| y = z) (kk : sm_G Γ Ω M cs sl (pc + 1) L (.int z :: st) X Y) : sm_G Γ Ω M cs sl pc L (.int y :: .int x :: st) X Y := by
  intro ls H locs hL hP hS
  refine lv_ior C.1.1 C.1.2.1 hd ?_
  rw [hz]
  exact kk ls H locs hL hP hS
theorem sr_ixor (C : sm_C Γ Ω cc own nL w0) {x y z : Int32} (hd : decode cc pc = .ok (.ixor, 1)) (hz : x ^^^ y = z) (kk : sm_G Γ Ω M cs sl (pc + 1) L (.int z :: st) X Y) : sm_G Γ Ω M cs sl pc L (.int y :: .int x :: st) X Y := by
  intro ls H locs hL hP hS
  refine lv_ixor C.1.1 C.1.2.1 hd ?_
  rw [hz]
  exact kk ls H locs hL hP hS
theorem sr_ishl (C : sm_C Γ Ω cc own nL w0) {x y z : Int32} (hd : decode cc pc = .ok (.ishl, 1)) (hz : x <<< (y &&& 31) = z) (kk : sm_G Γ Ω M cs sl (pc + 1) L (.int z :: st) X Y) : sm_G Γ Ω M cs sl pc L (.int y :: .int x :: st) X Y := by
  intro ls H locs hL hP hS
  refine lv_ishl C.1.1 C.1.2.1 hd ?_
  rw [hz]
  exact kk ls H locs hL hP hS
theorem sr_ishr (C : sm_C Γ Ω cc own nL w0) {x y z : Int32} (hd : decode cc pc = .ok (.ishr, 1)) (hz : x >>> (y &&& 31) = z) (kk : sm_G Γ Ω M cs sl (pc + 1) L (.int z :: st) X Y) : sm_G Γ Ω M cs sl pc L (.int y :: .int x :: st) X Y := by
  intro ls H locs hL hP hS
  refine lv_ishr C.1.1 C.1.2.1 hd ?_
  rw [hz]
  exact kk ls H locs hL hP hS
theorem sr_iushr (C : sm_C Γ Ω cc own nL w0) {x y z : Int32} (hd : decode cc pc = .ok (.iushr, 1)) (hz : (x.toUInt32 >>> (y.toUInt32 &&& Int32.toUInt32 31)).toInt32 = z) (kk : sm_G Γ Ω M cs sl (pc + 1) L (.int z :: st) X Y) : sm_G Γ Ω M cs sl pc L (.int y :: .int x :: st) X Y := by
  intro ls H locs hL hP hS
  exact lv_iushr C.1.1 C.1.2.1 hd hz (kk ls H locs hL hP hS)
theorem sr_i2l (C : sm_C Γ Ω cc own nL w0) {x : Int32} {z : Int64} (hd : decode cc pc = .ok (.i2l, 1)) (hz : x.toInt64 = z) (kk : sm_G Γ Ω M cs sl (pc + 1) L (.long z :: st) X Y) : sm_G Γ Ω M cs sl pc L (.int x :: st) X Y := by
  intro ls H locs hL hP hS
  exact lv_i2l C.1.1 C.1.2.1 hd hz (kk ls H locs hL hP hS)
theorem sg_top (C : sm_C Γ Ω cc own nL w0) {x y : Int32} (h : x = y) (kk : sm_G Γ Ω M cs sl pc L (.int y :: st) X Y) : sm_G Γ Ω M cs sl pc L (.int x :: st) X Y := by
  rw [h]
  exact kk
theorem sg_dup (C : sm_C Γ Ω cc own nL w0) {v : Value} (hd : decode cc pc = .ok (.dup, 1)) (hv : v.category = 1) (kk : sm_G Γ Ω M cs sl (pc + 1) L (v :: v :: st) X Y) : sm_G Γ Ω M cs sl pc L (v :: st) X Y := by
  intro ls H locs hL hP hS
  exact lv_dup C.1.1 C.1.2.1 hd hv (kk ls H locs hL hP hS)
theorem sg_pop (C : sm_C Γ Ω cc own nL w0) {v : Value} (hd : decode cc pc = .ok (.pop, 1)) (hv : v.category = 1) (kk : sm_G Γ Ω M cs sl (pc + 1) L st X Y) : sm_G Γ Ω M cs sl pc L (v :: st) X Y := by
  intro ls H locs hL hP hS
  exact lv_pop C.1.1 C.1.2.1 hd hv (kk ls H locs hL hP hS)
theorem sg_dupx1 (C : sm_C Γ Ω cc own nL w0) {v u : Value} (hd : decode cc pc = .ok (.dup_x1, 1)) (hv : v.category = 1) (hu : u.category = 1) (kk : sm_G Γ Ω M cs sl (pc + 1) L (v :: u :: v :: st) X Y) : sm_G Γ Ω M cs sl pc L (v :: u :: st) X Y := by
  intro ls H locs hL hP hS
  exact lv_dup_x1 C.1.1 C.1.2.1 hd hv hu (kk ls H locs hL hP hS)
theorem sg_dup2 (C : sm_C Γ Ω cc own nL w0) {v u : Value} (hd : decode cc pc = .ok (.dup2, 1)) (hv : v.category = 1) (hu : u.category = 1) (kk : sm_G Γ Ω M cs sl (pc + 1) L (v :: u :: v :: u :: st) X Y) : sm_G Γ Ω M cs sl pc L (v :: u :: st) X Y := by
  intro ls H locs hL hP hS
  exact lv_dup2_11 C.1.1 C.1.2.1 hd hv hu (kk ls H locs hL hP hS)
theorem sg_dupx2 (C : sm_C Γ Ω cc own nL w0) {v u t : Value} (hd : decode cc pc = .ok (.dup_x2, 1)) (hv : v.category = 1) (hu : u.category = 1) (ht : t.category = 1) (kk : sm_G Γ Ω M cs sl (pc + 1) L (v :: u :: t :: v :: st) X Y) : sm_G Γ Ω M cs sl pc L (v :: u :: t :: st) X Y := by
  intro ls H locs hL hP hS
  exact lv_dup_x2 C.1.1 C.1.2.1 hd hv hu ht (kk ls H locs hL hP hS)
theorem sg_goto (C : sm_C Γ Ω cc own nL w0) {off : Int} {tgt : Nat} (hd : decode cc pc = .ok (.goto off, 3)) (ht : (pc : Int) + off = (tgt : Int)) (kk : sm_G Γ Ω M cs sl tgt L st X Y) : sm_G Γ Ω M cs sl pc L st X Y := by
  intro ls H locs hL hP hS
  exact lv_goto C.1.1 C.1.2.1 hd ht (kk ls H locs hL hP hS)
theorem sr_ifeq (C : sm_C Γ Ω cc own nL w0) {x : Int32} {off : Int} {tgt : Nat} (hd : decode cc pc = .ok (.ifCond .eq off, 3)) (ht : (pc : Int) + off = (tgt : Int)) (kt : x = 0 → sm_G Γ Ω M cs sl tgt L st X Y) (kf : ¬ x = 0 → sm_G Γ Ω M cs sl (pc + 3) L st X Y) : sm_G Γ Ω M cs sl pc L (.int x :: st) X Y := by
  intro ls H locs hL hP hS
  exact lv_if_eq C.1.1 C.1.2.1 hd ht (fun h => kt h ls H locs hL hP hS) (fun h => kf h ls H locs hL hP hS)
theorem sr_ifne (C : sm_C Γ Ω cc own nL w0) {x : Int32} {off : Int} {tgt : Nat} (hd : decode cc pc = .ok (.ifCond .ne off, 3)) (ht : (pc : Int) + off = (tgt : Int)) (kt : ¬ x = 0 → sm_G Γ Ω M cs sl tgt L st X Y) (kf : x = 0 → sm_G Γ Ω M cs sl (pc + 3) L st X Y) : sm_G Γ Ω M cs sl pc L (.int x :: st) X Y := by
  intro ls H locs hL hP hS
  exact lv_if_ne C.1.1 C.1.2.1 hd ht (fun h => kt h ls H locs hL hP hS) (fun h => kf h ls H locs hL hP hS)
theorem sr_iflt (C : sm_C Γ Ω cc own nL w0) {x : Int32} {off : Int} {tgt : Nat} (hd : decode cc pc = .ok (.ifCond .lt off, 3)) (ht : (pc : Int) + off = (tgt : Int)) (kt : x < 0 → sm_G Γ Ω M cs sl tgt L st X Y) (kf : ¬ x < 0 → sm_G Γ Ω M cs sl (pc + 3) L st X Y) : sm_G Γ Ω M cs sl pc L (.int x :: st) X Y := by
  intro ls H locs hL hP hS
  exact lv_if_lt C.1.1 C.1.2.1 hd ht (fun h => kt h ls H locs hL hP hS) (fun h => kf h ls H locs hL hP hS)
theorem sr_ifge (C : sm_C Γ Ω cc own nL w0) {x : Int32} {off : Int} {tgt : Nat} (hd : decode cc pc = .ok (.ifCond .ge off, 3)) (ht : (pc : Int) + off = (tgt : Int)) (kt : 0 ≤ x → sm_G Γ Ω M cs sl tgt L st X Y) (kf : ¬ 0 ≤ x → sm_G Γ Ω M cs sl (pc + 3) L st X Y) : sm_G Γ Ω M cs sl pc L (.int x :: st) X Y := by
  intro ls H locs hL hP hS
  exact lv_if_ge C.1.1 C.1.2.1 hd ht (fun h => kt h ls H locs hL hP hS) (fun h => kf h ls H locs hL hP hS)
theorem sr_ifgt (C : sm_C Γ Ω cc own nL w0) {x : Int32} {off : Int} {tgt : Nat} (hd : decode cc pc = .ok (.ifCond .gt off, 3)) (ht : (pc : Int) + off = (tgt : Int)) (kt : 0 < x → sm_G Γ Ω M cs sl tgt L st X Y) (kf : ¬ 0 < x → sm_G Γ Ω M cs sl (pc + 3) L st X Y) : sm_G Γ Ω M cs sl pc L (.int x :: st) X Y := by
  intro ls H locs hL hP hS
  exact lv_if_gt C.1.1 C.1.2.1 hd ht (fun h => kt h ls H locs hL hP hS) (fun h => kf h ls H locs hL hP hS)
theorem sr_ifle (C : sm_C Γ Ω cc own nL w0) {x : Int32} {off : Int} {tgt : Nat} (hd : decode cc pc = .ok (.ifCond .le off, 3)) (ht : (pc : Int) + off = (tgt : Int)) (kt : x ≤ 0 → sm_G Γ Ω M cs sl tgt L st X Y) (kf : ¬ x ≤ 0 → sm_G Γ Ω M cs sl (pc + 3) L st X Y) : sm_G Γ Ω M cs sl pc L (.int x :: st) X Y := by
  intro ls H locs hL hP hS
  exact lv_if_le C.1.1 C.1.2.1 hd ht (fun h => kt h ls H locs hL hP hS) (fun h => kf h ls H locs hL hP hS)
theorem sr_iceq (C : sm_C Γ Ω cc own nL w0) {x y : Int32} {off : Int} {tgt : Nat} (hd : decode cc pc = .ok (.if_icmp .eq off, 3)) (ht : (pc : Int) + off = (tgt : Int)) (kt : x = y → sm_G Γ Ω M cs sl tgt L st X Y) (kf : ¬ x = y → sm_G Γ Ω M cs sl (pc + 3) L st X Y) : sm_G Γ Ω M cs sl pc L (.int y :: .int x :: st) X Y := by
  intro ls H locs hL hP hS
  exact lv_icmp_eq C.1.1 C.1.2.1 hd ht (fun h => kt h ls H locs hL hP hS) (fun h => kf h ls H locs hL hP hS)
theorem sr_icne (C : sm_C Γ Ω cc own nL w0) {x y : Int32} {off : Int} {tgt : Nat} (hd : decode cc pc = .ok (.if_icmp .ne off, 3)) (ht : (pc : Int) + off = (tgt : Int)) (kt : ¬ x = y → sm_G Γ Ω M cs sl tgt L st X Y) (kf : x = y → sm_G Γ Ω M cs sl (pc + 3) L st X Y) : sm_G Γ Ω M cs sl pc L (.int y :: .int x :: st) X Y := by
  intro ls H locs hL hP hS
  exact lv_icmp_ne C.1.1 C.1.2.1 hd ht (fun h => kt h ls H locs hL hP hS) (fun h => kf h ls H locs hL hP hS)
theorem sr_iclt (C : sm_C Γ Ω cc own nL w0) {x y : Int32} {off : Int} {tgt : Nat} (hd : decode cc pc = .ok (.if_icmp .lt off, 3)) (ht : (pc : Int) + off = (tgt : Int)) (kt : x < y → sm_G Γ Ω M cs sl tgt L st X Y) (kf : ¬ x < y → sm_G Γ Ω M cs sl (pc + 3) L st X Y) : sm_G Γ Ω M cs sl pc L (.int y :: .int x :: st) X Y := by
  intro ls H locs hL hP hS
  exact lv_icmp_lt C.1.1 C.1.2.1 hd ht (fun h => kt h ls H locs hL hP hS) (fun h => kf h ls H locs hL hP hS)
theorem sr_icge (C : sm_C Γ Ω cc own nL w0) {x y : Int32} {off : Int} {tgt : Nat} (hd : decode cc pc = .ok (.if_icmp .ge off, 3)) (ht : (pc : Int) + off = (tgt : Int)) (kt : y ≤ x → sm_G Γ Ω M cs sl tgt L st X Y) (kf : ¬ y ≤ x → sm_G Γ Ω M cs sl (pc + 3) L st X Y) : sm_G Γ Ω M cs sl pc L (.int y :: .int x :: st) X Y := by
  intro ls H locs hL hP hS
  exact lv_icmp_ge C.1.1 C.1.2.1 hd ht (fun h => kt h ls H locs hL hP hS) (fun h => kf h ls H locs hL hP hS)
theorem sr_icgt (C : sm_C Γ Ω cc own nL w0) {x y : Int32} {off : Int} {tgt : Nat} (hd : decode cc pc = .ok (.if_icmp .gt off, 3)) (ht : (pc : Int) + off = (tgt : Int)) (kt : y < x → sm_G Γ Ω M cs sl tgt L st X Y) (kf : ¬ y < x → sm_G Γ Ω M cs sl (pc + 3) L st X Y) : sm_G Γ Ω M cs sl pc L (.int y :: .int x :: st) X Y := by
  intro ls H locs hL hP hS
  exact lv_icmp_gt C.1.1 C.1.2.1 hd ht (fun h => kt h ls H locs hL hP hS) (fun h => kf h ls H locs hL hP hS)
theorem sr_icle (C : sm_C Γ Ω cc own nL w0) {x y : Int32} {off : Int} {tgt : Nat} (hd : decode cc pc = .ok (.if_icmp .le off, 3)) (ht : (pc : Int) + off = (tgt : Int)) (kt : x ≤ y → sm_G Γ Ω M cs sl tgt L st X Y) (kf : ¬ x ≤ y → sm_G Γ Ω M cs sl (pc + 3) L st X Y) : sm_G Γ Ω M cs sl pc L (.int y :: .int x :: st) X Y := by
  intro ls H locs hL hP hS
  exact lv_icmp_le C.1.1 C.1.2.1 hd ht (fun h => kt h ls H locs hL hP hS) (fun h => kf h ls H locs hL hP hS)
theorem sg_ifeq (C : sm_C Γ Ω cc own nL w0) {a : Nat} {off : Int} {tgt : Nat} (hd : decode cc pc = .ok (.ifCond .eq off, 3)) (ht : (pc : Int) + off = (tgt : Int)) (ha : a < 2 ^ 31) (kt : a = 0 → sm_G Γ Ω M cs sl tgt L st X Y) (kf : a ≠ 0 → sm_G Γ Ω M cs sl (pc + 3) L st X Y) : sm_G Γ Ω M cs sl pc L (.int (nI a) :: st) X Y := by
  exact sr_ifeq C hd ht (fun h => kt ((sn_0 ha).mp h)) (fun h => kf (fun q => h ((sn_0 ha).mpr q)))
theorem sg_ifne (C : sm_C Γ Ω cc own nL w0) {a : Nat} {off : Int} {tgt : Nat} (hd : decode cc pc = .ok (.ifCond .ne off, 3)) (ht : (pc : Int) + off = (tgt : Int)) (ha : a < 2 ^ 31) (kt : a ≠ 0 → sm_G Γ Ω M cs sl tgt L st X Y) (kf : a = 0 → sm_G Γ Ω M cs sl (pc + 3) L st X Y) : sm_G Γ Ω M cs sl pc L (.int (nI a) :: st) X Y := by
  exact sr_ifne C hd ht (fun h => kt (fun q => h ((sn_0 ha).mpr q))) (fun h => kf ((sn_0 ha).mp h))
theorem sg_ifgt (C : sm_C Γ Ω cc own nL w0) {a : Nat} {off : Int} {tgt : Nat} (hd : decode cc pc = .ok (.ifCond .gt off, 3)) (ht : (pc : Int) + off = (tgt : Int)) (ha : a < 2 ^ 31) (kt : 0 < a → sm_G Γ Ω M cs sl tgt L st X Y) (kf : a = 0 → sm_G Γ Ω M cs sl (pc + 3) L st X Y) : sm_G Γ Ω M cs sl pc L (.int (nI a) :: st) X Y := by
  exact sr_ifgt C hd ht (fun h => kt ((sn_p ha).mp h)) (fun h => kf ((sn_np ha).mp h))
theorem sg_ifle (C : sm_C Γ Ω cc own nL w0) {a : Nat} {off : Int} {tgt : Nat} (hd : decode cc pc = .ok (.ifCond .le off, 3)) (ht : (pc : Int) + off = (tgt : Int)) (ha : a < 2 ^ 31) (kt : a = 0 → sm_G Γ Ω M cs sl tgt L st X Y) (kf : 0 < a → sm_G Γ Ω M cs sl (pc + 3) L st X Y) : sm_G Γ Ω M cs sl pc L (.int (nI a) :: st) X Y := by
  exact sr_ifle C hd ht (fun h => kt ((sn_l ha).mp h)) (fun h => kf ((sn_nl ha).mp h))
theorem sg_iceq (C : sm_C Γ Ω cc own nL w0) {a b : Nat} {off : Int} {tgt : Nat} (hd : decode cc pc = .ok (.if_icmp .eq off, 3)) (ht : (pc : Int) + off = (tgt : Int)) (ha : a < 2 ^ 31) (hb : b < 2 ^ 31) (kt : a = b → sm_G Γ Ω M cs sl tgt L st X Y) (kf : a ≠ b → sm_G Γ Ω M cs sl (pc + 3) L st X Y) : sm_G Γ Ω M cs sl pc L (.int (nI b) :: .int (nI a) :: st) X Y := by
  exact sr_iceq C hd ht (fun h => kt ((nI_eq ha hb).mp h)) (fun h => kf (fun q => h ((nI_eq ha hb).mpr q)))
theorem sg_icne (C : sm_C Γ Ω cc own nL w0) {a b : Nat} {off : Int} {tgt : Nat} (hd : decode cc pc = .ok (.if_icmp .ne off, 3)) (ht : (pc : Int) + off = (tgt : Int)) (ha : a < 2 ^ 31) (hb : b < 2 ^ 31) (kt : a ≠ b → sm_G Γ Ω M cs sl tgt L st X Y) (kf : a = b → sm_G Γ Ω M cs sl (pc + 3) L st X Y) : sm_G Γ Ω M cs sl pc L (.int (nI b) :: .int (nI a) :: st) X Y := by
  exact sr_icne C hd ht (fun h => kt (fun q => h ((nI_eq ha hb).mpr q))) (fun h => kf ((nI_eq ha hb).mp h))
theorem sg_iclt (C : sm_C Γ Ω cc own nL w0) {a b : Nat} {off : Int} {tgt : Nat} (hd : decode cc pc = .ok (.if_icmp .lt off, 3)) (ht : (pc : Int) + off = (tgt : Int)) (ha : a < 2 ^ 31) (hb : b < 2 ^ 31) (kt : a < b → sm_G Γ Ω M cs sl tgt L st X Y) (kf : b ≤ a → sm_G Γ Ω M cs sl (pc + 3) L st X Y) : sm_G Γ Ω M cs sl pc L (.int (nI b) :: .int (nI a) :: st) X Y := by
  exact sr_iclt C hd ht (fun h => kt ((nI_ltI ha hb).mp h)) (fun h => kf (Nat.not_lt.mp (fun q => h ((nI_ltI ha hb).mpr q))))
theorem sg_icge (C : sm_C Γ Ω cc own nL w0) {a b : Nat} {off : Int} {tgt : Nat} (hd : decode cc pc = .ok (.if_icmp .ge off, 3)) (ht : (pc : Int) + off = (tgt : Int)) (ha : a < 2 ^ 31) (hb : b < 2 ^ 31) (kt : b ≤ a → sm_G Γ Ω M cs sl tgt L st X Y) (kf : a < b → sm_G Γ Ω M cs sl (pc + 3) L st X Y) : sm_G Γ Ω M cs sl pc L (.int (nI b) :: .int (nI a) :: st) X Y := by
  exact sr_icge C hd ht (fun h => kt ((nI_leI hb ha).mp h)) (fun h => kf (Nat.not_le.mp (fun q => h ((nI_leI hb ha).mpr q))))
theorem sg_icgt (C : sm_C Γ Ω cc own nL w0) {a b : Nat} {off : Int} {tgt : Nat} (hd : decode cc pc = .ok (.if_icmp .gt off, 3)) (ht : (pc : Int) + off = (tgt : Int)) (ha : a < 2 ^ 31) (hb : b < 2 ^ 31) (kt : b < a → sm_G Γ Ω M cs sl tgt L st X Y) (kf : a ≤ b → sm_G Γ Ω M cs sl (pc + 3) L st X Y) : sm_G Γ Ω M cs sl pc L (.int (nI b) :: .int (nI a) :: st) X Y := by
  exact sr_icgt C hd ht (fun h => kt ((nI_ltI hb ha).mp h)) (fun h => kf (Nat.not_lt.mp (fun q => h ((nI_ltI hb ha).mpr q))))
theorem sg_icle (C : sm_C Γ Ω cc own nL w0) {a b : Nat} {off : Int} {tgt : Nat} (hd : decode cc pc = .ok (.if_icmp .le off, 3)) (ht : (pc : Int) + off = (tgt : Int)) (ha : a < 2 ^ 31) (hb : b < 2 ^ 31) (kt : a ≤ b → sm_G Γ Ω M cs sl tgt L st X Y) (kf : b < a → sm_G Γ Ω M cs sl (pc + 3) L st X Y) : sm_G Γ Ω M cs sl pc L (.int (nI b) :: .int (nI a) :: st) X Y := by
  exact sr_icle C hd ht (fun h => kt ((nI_leI ha hb).mp h)) (fun h => kf (Nat.not_le.mp (fun q => h ((nI_leI ha hb).mpr q))))
theorem sg_geti (C : sm_C Γ Ω cc own nL w0) {index ci k : Nat} (hw : sm_fw own index ci k) {i : Nat} {fl : List Bool} (hi : i < M) (hs : sm_sh i = .inl (ci, fl)) (hf : fl[k]? = some false) (hd : decode cc pc = .ok (.getfield index, 3)) (kk : sm_G Γ Ω M cs sl (pc + 3) L (.int (nI (X i k)) :: st) X Y) : sm_G Γ Ω M cs sl pc L (.ref (Ω.2.1 + i) :: st) X Y := by
  intro ls H locs hL hP hS
  obtain ⟨Cn, T, N, hc, hin, hk, hl⟩ := hw
  exact va_get C.1.1 C.1.2.1 C.1.2.2.2.2 (fun w h => List.mem_cons_of_mem _ (hin w h)) C.1.2.2.2.1 C.2.1 hP i (fs := sm_f Ω.2.1 fl (X i) (Y i)) (by rw [sm_at hi, hs]; rfl) hc k hk (C.1.2.2.2.2 _ (List.mem_cons_of_mem _ hl)) (fun _ h => h) (sm_f_i hf) hd (kk ls H locs hL hP hS)
theorem sg_getr (C : sm_C Γ Ω cc own nL w0) {index ci k : Nat} (hw : sm_fw own index ci k) {i j : Nat} {fl : List Bool} (hi : i < M) (hs : sm_sh i = .inl (ci, fl)) (hf : fl[k]? = some true) (hr : Y i k = some j) (hd : decode cc pc = .ok (.getfield index, 3)) (kk : sm_G Γ Ω M cs sl (pc + 3) L (.ref (Ω.2.1 + j) :: st) X Y) : sm_G Γ Ω M cs sl pc L (.ref (Ω.2.1 + i) :: st) X Y := by
  intro ls H locs hL hP hS
  obtain ⟨Cn, T, N, hc, hin, hk, hl⟩ := hw
  exact va_get C.1.1 C.1.2.1 C.1.2.2.2.2 (fun w h => List.mem_cons_of_mem _ (hin w h)) C.1.2.2.2.1 C.2.1 hP i (fs := sm_f Ω.2.1 fl (X i) (Y i)) (by rw [sm_at hi, hs]; rfl) hc k hk (C.1.2.2.2.2 _ (List.mem_cons_of_mem _ hl)) (fun _ h => h) (sm_f_r hf hr) hd (kk ls H locs hL hP hS)
theorem sg_puti (C : sm_C Γ Ω cc own nL w0) {index ci k : Nat} {ty : FieldType} (hw : sm_pw own index ci k ty) {i v : Nat} {fl : List Bool} (hi : i < M) (hs : sm_sh i = .inl (ci, fl)) (hf : fl[k]? = some false) (hn : narrow ty (.int (nI v)) = .int (nI v)) (hft : fits ty (.int (nI v)) = true) (hd : decode cc pc = .ok (.putfield index, 3)) (kk : sm_G Γ Ω M cs sl (pc + 3) L st (sm_up X i k v) Y) : sm_G Γ Ω M cs sl pc L (.int (nI v) :: .ref (Ω.2.1 + i) :: st) X Y := by
  intro ls H locs hL hP hS
  obtain ⟨Cn, T, N, ty0, hc, hin, hk, hl, hty, hnm, hfin, hdd⟩ := hw
  refine va_put C.1.1 C.1.2.1 C.1.2.2.2.2 (fun w h => List.mem_cons_of_mem _ (hin w h)) ty0 hty hnm C.1.2.2.2.1 C.2.1 hP sm_D hS i (fs := sm_f Ω.2.1 fl (X i) (Y i)) (by rw [sm_at hi, hs]; rfl) hc k hk (C.1.2.2.2.2 _ (List.mem_cons_of_mem _ hl)) (fun _ h => h) hfin hdd hn hft (by rw [sm_f_len]; exact (List.getElem?_eq_some_iff.mp hf).1) hd (fun H1 locs1 h1 _ h3 => kk ls H1 locs1 hL ?_ h3)
  rw [sm_f_seti hf, sm_set (X' := sm_up X i k v) (Y' := Y) hi (by rw [hs]; rfl) (fun a ha => ⟨sm_up_o ha, rfl⟩)] at h1
  exact h1
theorem sg_iald (C : sm_C Γ Ω cc own nL w0) {i n j : Nat} (hi : i < M) (hs : sm_sh i = .inr (n, 0)) (hj : j < n) (hn : n < 2 ^ 31) (hd : decode cc pc = .ok (.iaload, 1)) (kk : sm_G Γ Ω M cs sl (pc + 1) L (.int (nI (X i j)) :: st) X Y) : sm_G Γ Ω M cs sl pc L (.int (nI j) :: .ref (Ω.2.1 + i) :: st) X Y := by
  intro ls H locs hL hP hS
  refine va_iald C.1.1 C.1.2.1 C.2.1 hP i 0 (cA := Ω.2.2.1 0) (n := n) (f := fun j => nI (X i j)) (by rw [sm_at hi, hs]; rfl) rfl (vp_in_nI hj hn) hd ?_
  rw [nI_clamp (Nat.lt_trans hj hn)]
  exact kk ls H locs hL hP hS
theorem sg_iast (C : sm_C Γ Ω cc own nL w0) {i n j v : Nat} (hi : i < M) (hs : sm_sh i = .inr (n, 0)) (hj : j < n) (hn : n < 2 ^ 31) (hd : decode cc pc = .ok (.iastore, 1)) (kk : sm_G Γ Ω M cs sl (pc + 1) L st (sm_up X i j v) Y) : sm_G Γ Ω M cs sl pc L (.int (nI v) :: .int (nI j) :: .ref (Ω.2.1 + i) :: st) X Y := by
  intro ls H locs hL hP hS
  refine va_iast C.1.1 C.1.2.1 C.2.1 hP sm_D hS i 0 (cA := Ω.2.2.1 0) (n := n) (f := fun j => nI (X i j)) (by rw [sm_at hi, hs]; rfl) rfl (vp_in_nI hj hn) hd (fun H1 locs1 h1 _ h3 => kk ls H1 locs1 hL ?_ h3)
  rw [nI_clamp (Nat.lt_trans hj hn), sm_set (X' := sm_up X i j v) (Y' := Y) hi ?_ (fun a ha => ⟨sm_up_o ha, rfl⟩)] at h1
  · exact h1
  · rw [hs]
    show _ = (.inl (Ω.2.2.1 0, n, .inl (fun k => nI (sm_up X i j v i k))) : va_E)
    congr 4
    funext k
    by_cases ek : k = j
    · subst ek; rw [sm_up_s]; simp [upd]
    · rw [sm_up_n ek]; simp [upd, ek]
theorem sg_bald (C : sm_C Γ Ω cc own nL w0) {i n j : Nat} (hi : i < M) (hs : sm_sh i = .inr (n, 1)) (hj : j < n) (hn : n < 2 ^ 31) (hd : decode cc pc = .ok (.baload, 1)) (kk : sm_G Γ Ω M cs sl (pc + 1) L (.int (nI (X i j)) :: st) X Y) : sm_G Γ Ω M cs sl pc L (.int (nI j) :: .ref (Ω.2.1 + i) :: st) X Y := by
  intro ls H locs hL hP hS
  refine va_zald C.1.1 C.1.2.1 C.2.1 hP i 1 (cA := Ω.2.2.1 1) (n := n) (f := fun j => nI (X i j)) (by rw [sm_at hi, hs]; rfl) rfl (vp_in_nI hj hn) hd ?_
  rw [nI_clamp (Nat.lt_trans hj hn)]
  exact kk ls H locs hL hP hS
theorem sg_bast (C : sm_C Γ Ω cc own nL w0) {i n j v : Nat} (hi : i < M) (hs : sm_sh i = .inr (n, 1)) (hj : j < n) (hn : n < 2 ^ 31) (hv : v < 2) (hd : decode cc pc = .ok (.bastore, 1)) (kk : sm_G Γ Ω M cs sl (pc + 1) L st (sm_up X i j v) Y) : sm_G Γ Ω M cs sl pc L (.int (nI v) :: .int (nI j) :: .ref (Ω.2.1 + i) :: st) X Y := by
  intro ls H locs hL hP hS
  have hz : vp_nar .boolean (nI v) = nI v := by
    rcases (by omega : v = 0 ∨ v = 1) with rfl | rfl <;> decide
  refine va_zast C.1.1 C.1.2.1 C.2.1 hP sm_D hS i 1 (cA := Ω.2.2.1 1) (n := n) (f := fun j => nI (X i j)) (by rw [sm_at hi, hs]; rfl) rfl (vp_in_nI hj hn) hd (fun H1 locs1 h1 _ h3 => kk ls H1 locs1 hL ?_ h3)
  rw [nI_clamp (Nat.lt_trans hj hn), hz, sm_set (X' := sm_up X i j v) (Y' := Y) hi ?_ (fun a ha => ⟨sm_up_o ha, rfl⟩)] at h1
  · exact h1
  · rw [hs]
    show _ = (.inl (Ω.2.2.1 1, n, .inl (fun k => nI (sm_up X i j v i k))) : va_E)
    congr 4
    funext k
    by_cases ek : k = j
    · subst ek; rw [sm_up_s]; simp [upd]
    · rw [sm_up_n ek]; simp [upd, ek]
theorem sg_aald (C : sm_C Γ Ω cc own nL w0) {i n t j q : Nat} {ty : FieldType} (hi : i < M) (hs : sm_sh i = .inr (n, t)) (h3 : 3 ≤ t) (ht : (sm_T Ω.2.2.1)[t]? = some (Ω.2.2.1 t, ty)) (hty : ty.isReference = true) (hj : j < n) (hn : n < 2 ^ 31) (hr : Y i j = some q) (hd : decode cc pc = .ok (.aaload, 1)) (kk : sm_G Γ Ω M cs sl (pc + 1) L (.ref (Ω.2.1 + q) :: st) X Y) : sm_G Γ Ω M cs sl pc L (.int (nI j) :: .ref (Ω.2.1 + i) :: st) X Y := by
  intro ls H locs hL hP hS
  have e : sm_v Ω.2.1 t (X i) (Y i) = .inr (.inr (.inr (.inr (fun j => (Y i j).map (fun q => Ω.2.1 + q))))) := by
    unfold sm_v
    rw [if_neg (by omega), if_neg (by omega)]
  have hc : H[Ω.2.1 + i]? = some (vp_cell (Ω.2.2.1 t) (n, .inr (.inr (.inr (.inr (fun j => (Y i j).map (fun q => Ω.2.1 + q))))))) := hP i (Ω.2.1 + i, .inl (Ω.2.2.1 t, n, .inr (.inr (.inr (.inr (fun j => (Y i j).map (fun q => Ω.2.1 + q))))))) (by rw [sm_at hi, hs]; show some (_, (.inl (_, _, sm_v _ _ _ _) : va_E)) = _; rw [e])
  refine W.aald (v := .ref (Ω.2.1 + q)) (ty := ty) C.1.1 C.1.2.1 hc ((C.2.1.2 t _ ht).1 n (fun j => va_rf ((Y i j).map (fun q => Ω.2.1 + q)))) hty (fun q => by cases q) (by show ¬ (_ < 0 ∨ (arrV _ _ _).slots.size ≤ _); rw [arrV_size]; exact vp_in_nI hj hn) (by show (arrV _ _ _).slots[_]? = _; rw [nI_clamp (Nat.lt_trans hj hn), arrV_read _ _ hj]; show some (va_rf ((Y i j).map _)) = _; rw [hr]; rfl) rfl rfl hd (kk ls H locs hL hP hS)
theorem sg_aast (C : sm_C Γ Ω cc own nL w0) {i n t j q ci : Nat} {fl : List Bool} {cr : vw_C} (hi : i < M) (hs : sm_sh i = .inr (n, t)) (h3 : 3 ≤ t) (ht : (sm_T Ω.2.2.1)[t]? = some (Ω.2.2.1 t, .object cr.1)) (hq : q < M) (hsq : sm_sh q = .inl (ci, fl)) (hc : sm_cl[ci]? = some cr) (hj : j < n) (hn : n < 2 ^ 31) (hd : decode cc pc = .ok (.aastore, 1)) (kk : sm_G Γ Ω M cs sl (pc + 1) L st X (sm_ur Y i j (some q))) : sm_G Γ Ω M cs sl pc L (.ref (Ω.2.1 + q) :: .int (nI j) :: .ref (Ω.2.1 + i) :: st) X Y := by
  intro ls H locs hL hP hS
  have e : ∀ y : Nat → Option Nat, sm_v Ω.2.1 t (X i) y = .inr (.inr (.inr (.inr (fun j => (y j).map (fun q => Ω.2.1 + q))))) := by
    intro y
    unfold sm_v
    rw [if_neg (by omega), if_neg (by omega)]
  refine va_astq C.1.1 C.1.2.1 C.2.1 hP sm_D hS i t q ci (cA := Ω.2.2.1 t) (n := n) (vs := sm_f Ω.2.1 fl (X q) (Y q)) (f := fun j => (Y i j).map (fun q => Ω.2.1 + q)) (by rw [sm_at hi, hs]; show some (_, (.inl (_, _, sm_v _ _ _ _) : va_E)) = _; rw [e]) ht (by rw [sm_at hq, hsq]; rfl) hc (vp_in_nI hj hn) hd (fun H1 locs1 h1 _ h3 => kk ls H1 locs1 hL ?_ h3)
  rw [nI_clamp (Nat.lt_trans hj hn), sm_set (X' := X) (Y' := sm_ur Y i j (some q)) hi ?_ (fun a ha => ⟨rfl, sm_ur_o ha⟩)] at h1
  · exact h1
  · rw [hs]
    show _ = (.inl (Ω.2.2.1 t, n, sm_v Ω.2.1 t (X i) (sm_ur Y i j (some q) i)) : va_E)
    rw [e]
    congr 7
    funext k
    by_cases ek : k = j
    · subst ek; rw [sm_ur_s, va_up_self]; rfl
    · rw [sm_ur_n ek, va_up_ne _ _ ek]
end
