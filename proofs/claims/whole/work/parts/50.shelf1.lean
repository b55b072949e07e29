/-! The shelf's private methods that only read: counting, masks -/
section
variable {Γ : sm_Γ} {Ω : sm_Ω} {cc : ByteArray} {own : String} {nL : Nat} {w0 : Cond} {M cs sl pc : Nat} {L : List (Option Value)} {st : List Value} {X : sm_X} {Y : sm_R}
theorem sg_ldcw (C : sm_C Γ Ω cc own nL w0) {index : Nat} {v : Int32} (hl : Cond.constant own index v ∈ sm_ws) (hd : decode cc pc = .ok (.ldc_w index, 3)) (kk : sm_G Γ Ω M cs sl (pc + 3) L (.int v :: st) X Y) : sm_G Γ Ω M cs sl pc L st X Y := by
  intro ls H locs hL hP hS
  exact lv_ldcw C.1.1 C.1.2.1 C.1.2.2.2.1 (C.1.2.2.2.2 _ (List.mem_cons_of_mem _ hl)) hd (kk ls H locs hL hP hS)
end
theorem sn_sh0 : ∀ k, k < 12 → ((nI k &&& 31).toBitVec.smod 32).toNat = k := by decide +kernel
theorem sn_shr {m k : Nat} (hm : m < 2 ^ 31) (hk : k < 12) : nI m >>> (nI k &&& 31) = nI (m / 2 ^ k) := pk_shrN hm _ k (sn_sh0 k hk)
theorem sn_shl : ∀ k, k < 12 → nI 1 <<< (nI k &&& 31) = nI (2 ^ k) := by decide +kernel
/-- a mask out of a test of each node -/
def sm_k (p : Nat → Bool) : Nat → Nat
  | 0 => 0
  | n + 1 => sm_k p n + (if p n = true then 2 ^ n else 0)
theorem sm_k_lt (p : Nat → Bool) : ∀ n, sm_k p n < 2 ^ n
  | 0 => by show 0 < 2 ^ 0; decide
  | n + 1 => by
    have := sm_k_lt p n
    show sm_k p n + (if p n = true then 2 ^ n else 0) < 2 ^ (n + 1)
    rw [Nat.pow_succ]
    split <;> omega
theorem sm_k_or (p : Nat → Bool) (n : Nat) : sm_k p n ||| 2 ^ n = sm_k p n + 2 ^ n := by
  have h := Nat.two_pow_add_eq_or_of_lt (sm_k_lt p n) 1
  rw [Nat.mul_one] at h
  rw [Nat.or_comm, ← h, Nat.add_comm]
theorem sm_k_bit (p : Nat → Bool) : ∀ n k, k < n → (sm_k p n / 2 ^ k % 2 = 1 ↔ p k = true)
  | 0, k, h => absurd h (Nat.not_lt_zero k)
  | n + 1, k, h => by
    show (sm_k p n + (if p n = true then 2 ^ n else 0)) / 2 ^ k % 2 = 1 ↔ _
    by_cases e : k = n
    · subst e
      have h1 := sm_k_lt p k
      split
      · rename_i hp
        rw [Nat.add_div_right _ (Nat.two_pow_pos k), Nat.div_eq_of_lt h1]
        simp [hp]
      · rename_i hp
        rw [Nat.add_zero, Nat.div_eq_of_lt h1]
        simp [hp]
    · rw [← sm_k_bit p n k (by omega)]
      split
      · obtain ⟨d, rfl⟩ : ∃ d, n = k + 1 + d := ⟨n - (k + 1), by omega⟩
        rw [show 2 ^ (k + 1 + d) = 2 ^ k * (2 * 2 ^ d) by rw [Nat.pow_add, Nat.pow_succ, Nat.mul_assoc], Nat.add_mul_div_left _ _ (Nat.two_pow_pos k), Nat.add_mul_mod_self_left]
      · rw [Nat.add_zero]

abbrev b_J_bitCount : ByteArray := prog_14_method_49_code
abbrev y_J_bitCount : MethodName := ⟨"java/lang/Integer", "bitCount", "(I)I"⟩
theorem d_J_bitCount_0 : decode b_J_bitCount 0 = .ok (.iload_n 0, 1) := by decide +kernel
theorem d_J_bitCount_1 : decode b_J_bitCount 1 = .ok (.iload_n 0, 1) := by decide +kernel
theorem d_J_bitCount_2 : decode b_J_bitCount 2 = .ok (.iconst (1), 1) := by decide +kernel
theorem d_J_bitCount_3 : decode b_J_bitCount 3 = .ok (.iushr, 1) := by decide +kernel
theorem d_J_bitCount_4 : decode b_J_bitCount 4 = .ok (.ldc_w 265, 3) := by decide +kernel
theorem d_J_bitCount_7 : decode b_J_bitCount 7 = .ok (.iand, 1) := by decide +kernel
theorem d_J_bitCount_8 : decode b_J_bitCount 8 = .ok (.isub, 1) := by decide +kernel
theorem d_J_bitCount_9 : decode b_J_bitCount 9 = .ok (.istore_n 0, 1) := by decide +kernel
theorem d_J_bitCount_10 : decode b_J_bitCount 10 = .ok (.iload_n 0, 1) := by decide +kernel
theorem d_J_bitCount_11 : decode b_J_bitCount 11 = .ok (.ldc_w 266, 3) := by decide +kernel
theorem d_J_bitCount_14 : decode b_J_bitCount 14 = .ok (.iand, 1) := by decide +kernel
theorem d_J_bitCount_15 : decode b_J_bitCount 15 = .ok (.iload_n 0, 1) := by decide +kernel
theorem d_J_bitCount_16 : decode b_J_bitCount 16 = .ok (.iconst (2), 1) := by decide +kernel
theorem d_J_bitCount_17 : decode b_J_bitCount 17 = .ok (.iushr, 1) := by decide +kernel
theorem d_J_bitCount_18 : decode b_J_bitCount 18 = .ok (.ldc_w 266, 3) := by decide +kernel
theorem d_J_bitCount_21 : decode b_J_bitCount 21 = .ok (.iand, 1) := by decide +kernel
theorem d_J_bitCount_22 : decode b_J_bitCount 22 = .ok (.iadd, 1) := by decide +kernel
theorem d_J_bitCount_23 : decode b_J_bitCount 23 = .ok (.istore_n 0, 1) := by decide +kernel
theorem d_J_bitCount_24 : decode b_J_bitCount 24 = .ok (.iload_n 0, 1) := by decide +kernel
theorem d_J_bitCount_25 : decode b_J_bitCount 25 = .ok (.iload_n 0, 1) := by decide +kernel
theorem d_J_bitCount_26 : decode b_J_bitCount 26 = .ok (.iconst (4), 1) := by decide +kernel
theorem d_J_bitCount_27 : decode b_J_bitCount 27 = .ok (.iushr, 1) := by decide +kernel
theorem d_J_bitCount_28 : decode b_J_bitCount 28 = .ok (.iadd, 1) := by decide +kernel
theorem d_J_bitCount_29 : decode b_J_bitCount 29 = .ok (.ldc_w 267, 3) := by decide +kernel
theorem d_J_bitCount_32 : decode b_J_bitCount 32 = .ok (.iand, 1) := by decide +kernel
theorem d_J_bitCount_33 : decode b_J_bitCount 33 = .ok (.istore_n 0, 1) := by decide +kernel
theorem d_J_bitCount_34 : decode b_J_bitCount 34 = .ok (.iload_n 0, 1) := by decide +kernel
theorem d_J_bitCount_35 : decode b_J_bitCount 35 = .ok (.iload_n 0, 1) := by decide +kernel
theorem d_J_bitCount_36 : decode b_J_bitCount 36 = .ok (.bipush (8), 2) := by decide +kernel
theorem d_J_bitCount_38 : decode b_J_bitCount 38 = .ok (.iushr, 1) := by decide +kernel
theorem d_J_bitCount_39 : decode b_J_bitCount 39 = .ok (.iadd, 1) := by decide +kernel
theorem d_J_bitCount_40 : decode b_J_bitCount 40 = .ok (.istore_n 0, 1) := by decide +kernel
theorem d_J_bitCount_41 : decode b_J_bitCount 41 = .ok (.iload_n 0, 1) := by decide +kernel
theorem d_J_bitCount_42 : decode b_J_bitCount 42 = .ok (.iload_n 0, 1) := by decide +kernel
theorem d_J_bitCount_43 : decode b_J_bitCount 43 = .ok (.bipush (16), 2) := by decide +kernel
theorem d_J_bitCount_45 : decode b_J_bitCount 45 = .ok (.iushr, 1) := by decide +kernel
theorem d_J_bitCount_46 : decode b_J_bitCount 46 = .ok (.iadd, 1) := by decide +kernel
theorem d_J_bitCount_47 : decode b_J_bitCount 47 = .ok (.istore_n 0, 1) := by decide +kernel
theorem d_J_bitCount_48 : decode b_J_bitCount 48 = .ok (.iload_n 0, 1) := by decide +kernel
theorem d_J_bitCount_49 : decode b_J_bitCount 49 = .ok (.bipush (63), 2) := by decide +kernel
theorem d_J_bitCount_51 : decode b_J_bitCount 51 = .ok (.iand, 1) := by decide +kernel
theorem d_J_bitCount_52 : decode b_J_bitCount 52 = .ok (.ireturn, 1) := by decide +kernel
theorem kc_265 : Cond.constant "java/lang/Integer" 265 1431655765 ∈ sm_ws := sm_inT 438 (by decide +kernel) (by decide +kernel)
theorem kc_266 : Cond.constant "java/lang/Integer" 266 858993459 ∈ sm_ws := sm_inT 439 (by decide +kernel) (by decide +kernel)
theorem kc_267 : Cond.constant "java/lang/Integer" 267 252645135 ∈ sm_ws := sm_inT 440 (by decide +kernel) (by decide +kernel)
theorem cw_S_127 : sm_cw RX6 127 y_J_bitCount b_J_bitCount 1 (some .int) 1 := ⟨sm_inT 437 (by decide +kernel) (by decide +kernel), sm_inT 17 (by decide +kernel) (by decide +kernel), sm_inT 435 (by decide +kernel) (by decide +kernel), ⟨by decide, by decide, by decide +kernel⟩, by decide⟩
theorem sw_J_bitCount : Cond.static y_J_bitCount ∈ sm_ws := sm_inT 436 (by decide +kernel) (by decide +kernel)
def bu (x y : Int32) : Int32 := (x.toUInt32 >>> (y.toUInt32 &&& Int32.toUInt32 31)).toInt32
def bc (x : Int32) : Int32 :=
  let a := x - (bu x 1 &&& 1431655765)
  let b := (a &&& 858993459) + (bu a 2 &&& 858993459)
  let c := (b + bu b 4) &&& 252645135
  let d := c + bu c 8
  let e := d + bu d 16
  e &&& 63
def pop (m : Nat) : Nat := sm_n (fun k => decide (m / 2 ^ k % 2 = 1)) 12
theorem bc_pop0 : (List.range 64).all (fun a => (List.range 64).all (fun b => decide (bc (nI (64 * a + b)) = nI (pop (64 * a + b))))) = true := by decide +kernel
theorem bc_pop {m : Nat} (h : m < 4096) : bc (nI m) = nI (pop m) := by
  have h1 := List.all_eq_true.mp bc_pop0 (m / 64) (List.mem_range.mpr (by omega))
  have h2 := of_decide_eq_true (List.all_eq_true.mp h1 (m % 64) (List.mem_range.mpr (by omega)))
  rw [show 64 * (m / 64) + m % 64 = m by omega] at h2
  exact h2

set_option maxHeartbeats 4000000 in
set_option maxRecDepth 100000 in
theorem c_J_bitCount (l : Launch) (Ω : sm_Ω) {X : sm_X} {w : Nat → Nat → Nat} {m : Nat} (hm : m < 4096) : sm_met l Ω y_J_bitCount b_J_bitCount 1 (some .int) 1 723 [.int (nI m)] X (sm_rf w) (sm_det (some (.int (nI (pop m)))) X (sm_rf w)) := by
  refine sm_intro (own := "java/lang/Integer") (L := [some (.int (nI m))]) (by decide) rfl (by simp [Value.category]) (Nat.le_of_ble_eq_true rfl) rfl ?_
  intro Γ C I
  refine sg_iln (pc := 0) C d_J_bitCount_0 rfl ?_
  refine sg_iln (pc := 1) C d_J_bitCount_1 rfl ?_
  refine sg_icm (v := 1) (pc := 2) C d_J_bitCount_2 (by decide) ?_
  refine sr_iushr (z := bu _ _) (pc := 3) C d_J_bitCount_3 rfl ?_
  refine sg_ldcw (pc := 4) C kc_265 d_J_bitCount_4 ?_
  refine sr_iand (pc := 7) C d_J_bitCount_7 rfl ?_
  refine sr_isub (pc := 8) C d_J_bitCount_8 rfl ?_
  refine sg_is0 (pc := 9) C d_J_bitCount_9 ?_
  refine sg_iln (pc := 10) C d_J_bitCount_10 rfl ?_
  refine sg_ldcw (pc := 11) C kc_266 d_J_bitCount_11 ?_
  refine sr_iand (pc := 14) C d_J_bitCount_14 rfl ?_
  refine sg_iln (pc := 15) C d_J_bitCount_15 rfl ?_
  refine sg_icm (v := 2) (pc := 16) C d_J_bitCount_16 (by decide) ?_
  refine sr_iushr (z := bu _ _) (pc := 17) C d_J_bitCount_17 rfl ?_
  refine sg_ldcw (pc := 18) C kc_266 d_J_bitCount_18 ?_
  refine sr_iand (pc := 21) C d_J_bitCount_21 rfl ?_
  refine sr_iadd (pc := 22) C d_J_bitCount_22 rfl ?_
  refine sg_is0 (pc := 23) C d_J_bitCount_23 ?_
  refine sg_iln (pc := 24) C d_J_bitCount_24 rfl ?_
  refine sg_iln (pc := 25) C d_J_bitCount_25 rfl ?_
  refine sg_icm (v := 4) (pc := 26) C d_J_bitCount_26 (by decide) ?_
  refine sr_iushr (z := bu _ _) (pc := 27) C d_J_bitCount_27 rfl ?_
  refine sr_iadd (pc := 28) C d_J_bitCount_28 rfl ?_
  refine sg_ldcw (pc := 29) C kc_267 d_J_bitCount_29 ?_
  refine sr_iand (pc := 32) C d_J_bitCount_32 rfl ?_
  refine sg_is0 (pc := 33) C d_J_bitCount_33 ?_
  refine sg_iln (pc := 34) C d_J_bitCount_34 rfl ?_
  refine sg_iln (pc := 35) C d_J_bitCount_35 rfl ?_
  refine sg_bi (v := 8) (pc := 36) C d_J_bitCount_36 (by decide) ?_
  refine sr_iushr (z := bu _ _) (pc := 38) C d_J_bitCount_38 rfl ?_
  refine sr_iadd (pc := 39) C d_J_bitCount_39 rfl ?_
  refine sg_is0 (pc := 40) C d_J_bitCount_40 ?_
  refine sg_iln (pc := 41) C d_J_bitCount_41 rfl ?_
  refine sg_iln (pc := 42) C d_J_bitCount_42 rfl ?_
  refine sg_bi (v := 16) (pc := 43) C d_J_bitCount_43 (by decide) ?_
  refine sr_iushr (z := bu _ _) (pc := 45) C d_J_bitCount_45 rfl ?_
  refine sr_iadd (pc := 46) C d_J_bitCount_46 rfl ?_
  refine sg_is0 (pc := 47) C d_J_bitCount_47 ?_
  refine sg_iln (pc := 48) C d_J_bitCount_48 rfl ?_
  refine sg_bi (v := 63) (pc := 49) C d_J_bitCount_49 (by decide) ?_
  refine sr_iand (pc := 51) C d_J_bitCount_51 rfl ?_
  exact sg_iret (pc := 52) C I rfl rfl d_J_bitCount_52 ⟨congrArg (fun z => some (Value.int z)) (bc_pop hm), rfl, rfl⟩

def slv (X : sm_X) (k : Nat) : Bool := decide (X (79 + 51 * k) 3 ≠ 0)
def sfr (X : sm_X) (w : Nat → Nat → Nat) (n o : Nat) : Bool := decide (X (82 + 51 * n + 4 * o + 2 * w n o) 0 = X (691 + o) 0)
def b2 (b : Bool) : Nat := if b = true then 1 else 0
theorem b2_lt (b : Bool) : b2 b < 2 := by cases b <;> decide
theorem b2_1 {b : Bool} (h : b2 b ≠ 0) : b = true := by cases b <;> simp_all [b2]
theorem b2_0 {b : Bool} (h : b2 b = 0) : b = false := by cases b <;> simp_all [b2]
/-- live: 0 or 1; versions: numbers -/
def swf (X : sm_X) (w : Nat → Nat → Nat) : Prop := (∀ n o, w n o < 2) ∧ (∀ n, n < 12 → X (79 + 51 * n) 0 = n + 1 ∧ X (79 + 51 * n) 3 < 2 ∧ X (79 + 51 * n) 4 < 2 ^ 30) ∧
  (∀ o, o < 12 → (∀ j, j < 4 → X (691 + o) j < 2 ^ 30) ∧ X (691 + o) 4 < 2 ∧ X (691 + o) 1 ≤ 240 ∧ X (691 + o) 3 ≤ 240) ∧ (∀ n o b, n < 12 → o < 12 → b < 2 → X (82 + 51 * n + 4 * o + 2 * b) 0 < 2 ^ 30 ∧ X (82 + 51 * n + 4 * o + 2 * b) 1 ≤ 240)

set_option maxHeartbeats 4000000 in
set_option maxRecDepth 100000 in
theorem c_S_countLive (l : Launch) (Ω : sm_Ω) {X : sm_X} {w : Nat → Nat → Nat} (hf : swf X w) : sm_met l Ω y_S_countLive b_S_countLive 3 (some .int) 1 723 [.ref (Ω.2.1 + 0)] X (sm_rf w) (sm_det (some (.int (nI (sm_n (slv X) 12)))) X (sm_rf w)) := by
  refine sm_intro (own := RX6) (L := [some (.ref (Ω.2.1 + 0)), none, none]) (by decide) rfl (by simp [Value.category]) (Nat.le_of_ble_eq_true rfl) rfl ?_
  intro Γ C I
  have hw := hf.1
  have hb : ∀ k, k < 12 → X (79 + 51 * k) 3 < 2 ^ 31 := fun k hk => by have := hf.2.1 k hk; omega
  refine sg_ic (pc := 0) (v := 0) C d_S_countLive_0 (by decide) ?_
  refine sg_is1 (pc := 1) C d_S_countLive_1 ?_
  refine sg_ic (pc := 2) (v := 0) C d_S_countLive_2 (by decide) ?_
  refine sg_is2 (pc := 3) C d_S_countLive_3 ?_
  have loop : ∀ t k, k + t = 12 → sm_G Γ Ω 723 0 0 4 [some (.ref (Ω.2.1 + 0)), some (.int (nI (sm_n (slv X) k))), some (.int (nI k))] [] X (sm_rf w) := by
    intro t
    induction t with
    | zero =>
      intro k hk
      refine sg_iln (pc := 4) C d_S_countLive_4 rfl ?_
      refine sg_bi (pc := 5) (v := 12) C d_S_countLive_5 (by decide) ?_
      refine sg_icge (pc := 7) (tgt := 31) C d_S_countLive_7 (by decide) (by omega) (by omega) (fun h7 => ?_) (fun h7 => absurd h7 (by omega))
      refine sg_iln (pc := 31) C d_S_countLive_31 rfl ?_
      exact sg_iret (pc := 32) C I rfl rfl d_S_countLive_32 ⟨by rw [show k = 12 by omega], rfl, rfl⟩
    | succ t ih =>
      intro k hk
      have hbk := hb k (by omega)
      refine sg_iln (pc := 4) C d_S_countLive_4 rfl ?_
      refine sg_bi (pc := 5) (v := 12) C d_S_countLive_5 (by decide) ?_
      refine sg_icge (pc := 7) (tgt := 31) C d_S_countLive_7 (by decide) (by omega) (by omega) (fun h7 => absurd h7 (by omega)) (fun h7 => ?_)
      refine sg_aln (pc := 10) C d_S_countLive_10 rfl ?_
      refine sg_getr (pc := 11) C fw_S_25 (by omega) rfl rfl rfl d_S_countLive_11 ?_
      refine sg_iln (pc := 14) C d_S_countLive_14 rfl ?_
      refine sg_aald (pc := 15) (n := 12) (t := 4) C (by omega) rfl (by decide) rfl rfl (by omega) (by decide) (rf_nodes (by omega)) d_S_countLive_15 ?_
      refine sg_geti (pc := 16) C fw_S_149 (by omega) (sh_N (by omega)) rfl d_S_countLive_16 ?_
      refine sg_ifeq (pc := 19) (tgt := 25) C d_S_countLive_19 (by decide) (by omega) (fun h19 => ?_) (fun h19 => ?_)
      · refine sg_inc2 (pc := 25) (n := 1) C d_S_countLive_25 (by decide) ?_
        refine sg_goto (pc := 28) (tgt := 4) C d_S_countLive_28 (by decide) ?_
        have h := ih (k + 1) (by omega)
        rw [show sm_n (slv X) (k + 1) = sm_n (slv X) k + (if slv X k = true then 1 else 0) from rfl] at h
        first | (rw [if_neg (by simpa [slv] using h19)] at h; exact h) | (rw [if_pos (by simpa [slv] using h19)] at h; exact h)
      · refine sg_inc1 (pc := 22) (n := 1) C d_S_countLive_22 (by decide) ?_
        refine sg_inc2 (pc := 25) (n := 1) C d_S_countLive_25 (by decide) ?_
        refine sg_goto (pc := 28) (tgt := 4) C d_S_countLive_28 (by decide) ?_
        have h := ih (k + 1) (by omega)
        rw [show sm_n (slv X) (k + 1) = sm_n (slv X) k + (if slv X k = true then 1 else 0) from rfl] at h
        first | (rw [if_neg (by simpa [slv] using h19)] at h; exact h) | (rw [if_pos (by simpa [slv] using h19)] at h; exact h)
  exact loop 12 0 (by omega)

set_option maxHeartbeats 4000000 in
set_option maxRecDepth 100000 in
theorem c_S_isFresh (l : Launch) (Ω : sm_Ω) {X : sm_X} {w : Nat → Nat → Nat} (hf : swf X w) {n o : Nat} (hn : n < 12) (ho : o < 12) : sm_met l Ω y_S_isFresh b_S_isFresh 3 (some .boolean) 1 723 [.ref (Ω.2.1 + 0), .int (nI n), .int (nI o)] X (sm_rf w) (sm_det (some (.int (nI (b2 (sfr X w n o))))) X (sm_rf w)) := by
  refine sm_intro (own := RX6) (L := [some (.ref (Ω.2.1 + 0)), some (.int (nI n)), some (.int (nI o))]) (by decide) rfl (by simp [Value.category]) (Nat.le_of_ble_eq_true rfl) rfl ?_
  intro Γ C I
  have hw := hf.1
  have hwk := hw n o
  have g1 := hf.2.2.2 n o (w n o) hn ho (hw n o)
  have g2 := (hf.2.2.1 o ho).1 0 (by decide)
  refine sg_aln (pc := 0) C d_S_isFresh_0 rfl ?_
  refine sg_getr (pc := 1) C fw_S_25 (by omega) rfl rfl rfl d_S_isFresh_1 ?_
  refine sg_iln (pc := 4) C d_S_isFresh_4 rfl ?_
  refine sg_aald (pc := 5) (n := 12) (t := 4) C (by omega) rfl (by decide) rfl rfl (by omega) (by decide) (rf_nodes (by omega)) d_S_isFresh_5 ?_
  refine sg_getr (pc := 6) C fw_S_174 (by omega) (sh_N (by omega)) rfl (rf_N1 (by omega)) d_S_isFresh_6 ?_
  refine sg_iln (pc := 9) C d_S_isFresh_9 rfl ?_
  refine sg_aald (pc := 10) (n := 12) (t := 6) C (by omega) (sh_Ns (by omega)) (by decide) rfl rfl (by omega) (by decide) (rf_Ns (by omega) (by omega)) d_S_isFresh_10 ?_
  refine sg_geti (pc := 11) C fw_S_178 (by omega) (sh_S (by omega) (by omega) (hw _ _)) rfl d_S_isFresh_11 ?_
  refine sg_aln (pc := 14) C d_S_isFresh_14 rfl ?_
  refine sg_getr (pc := 15) C fw_S_31 (by omega) rfl rfl rfl d_S_isFresh_15 ?_
  refine sg_iln (pc := 18) C d_S_isFresh_18 rfl ?_
  refine sg_aald (pc := 19) (n := 12) (t := 5) C (by omega) rfl (by decide) rfl rfl (by omega) (by decide) (rf_items (by omega)) d_S_isFresh_19 ?_
  refine sg_geti (pc := 20) C fw_S_143 (by omega) (sh_I (by omega)) rfl d_S_isFresh_20 ?_
  refine sg_icne (pc := 23) (tgt := 30) C d_S_isFresh_23 (by decide) (by omega) (by omega) (fun h23 => ?_) (fun h23 => ?_)
  · refine sg_ic (pc := 30) (v := 0) C d_S_isFresh_30 (by decide) ?_
    exact sg_iret (pc := 31) C I rfl (sn_b (by decide)) d_S_isFresh_31 ⟨by rw [show sfr X w n o = false from decide_eq_false h23]; rfl, rfl, rfl⟩
  · refine sg_ic (pc := 26) (v := 1) C d_S_isFresh_26 (by decide) ?_
    refine sg_goto (pc := 27) (tgt := 31) C d_S_isFresh_27 (by decide) ?_
    exact sg_iret (pc := 31) C I rfl (sn_b (by decide)) d_S_isFresh_31 ⟨by rw [show sfr X w n o = true from decide_eq_true h23]; rfl, rfl, rfl⟩

set_option maxHeartbeats 4000000 in
set_option maxRecDepth 100000 in
theorem c_S_countFresh (l : Launch) (Ω : sm_Ω) {X : sm_X} {w : Nat → Nat → Nat} (hf : swf X w) {n : Nat} (hn : n < 12) : sm_met l Ω y_S_countFresh b_S_countFresh 4 (some .int) 2 723 [.ref (Ω.2.1 + 0), .int (nI n)] X (sm_rf w) (sm_det (some (.int (nI (sm_n (fun k => sfr X w n k) 12)))) X (sm_rf w)) := by
  refine sm_intro (own := RX6) (L := [some (.ref (Ω.2.1 + 0)), some (.int (nI n)), none, none]) (by decide) rfl (by simp [Value.category]) (Nat.le_of_ble_eq_true rfl) rfl ?_
  intro Γ C I
  refine sg_ic (pc := 0) (v := 0) C d_S_countFresh_0 (by decide) ?_
  refine sg_is2 (pc := 1) C d_S_countFresh_1 ?_
  refine sg_ic (pc := 2) (v := 0) C d_S_countFresh_2 (by decide) ?_
  refine sg_is3 (pc := 3) C d_S_countFresh_3 ?_
  have loop : ∀ t k, k + t = 12 → sm_G Γ Ω 723 0 0 4 [some (.ref (Ω.2.1 + 0)), some (.int (nI n)), some (.int (nI (sm_n (fun k => sfr X w n k) k))), some (.int (nI k))] [] X (sm_rf w) := by
    intro t
    induction t with
    | zero =>
      intro k hk
      refine sg_iln (pc := 4) C d_S_countFresh_4 rfl ?_
      refine sg_bi (pc := 5) (v := 12) C d_S_countFresh_5 (by decide) ?_
      refine sg_icge (pc := 7) (tgt := 28) C d_S_countFresh_7 (by decide) (by omega) (by omega) (fun h7 => ?_) (fun h7 => absurd h7 (by omega))
      refine sg_iln (pc := 28) C d_S_countFresh_28 rfl ?_
      exact sg_iret (pc := 29) C I rfl rfl d_S_countFresh_29 ⟨by rw [show k = 12 by omega], rfl, rfl⟩
    | succ t ih =>
      intro k hk
      have hb2 := b2_lt (sfr X w n k)
      refine sg_iln (pc := 4) C d_S_countFresh_4 rfl ?_
      refine sg_bi (pc := 5) (v := 12) C d_S_countFresh_5 (by decide) ?_
      refine sg_icge (pc := 7) (tgt := 28) C d_S_countFresh_7 (by decide) (by omega) (by omega) (fun h7 => absurd h7 (by omega)) (fun h7 => ?_)
      refine sg_aln (pc := 10) C d_S_countFresh_10 rfl ?_
      refine sg_iln (pc := 11) C d_S_countFresh_11 rfl ?_
      refine sg_iln (pc := 12) C d_S_countFresh_12 rfl ?_
      refine sm_callV (pc := 13) (As := [.int (nI n), .int (nI k)]) C I (c_S_isFresh l Ω hf hn (by omega)) cw_S_203 iw_S_isFresh (C.1.2.2.2.2 _ (List.mem_cons_of_mem _ se_S_isFresh)) (by omega) rfl rfl rfl rfl (by decide) ⟨by decide, by decide⟩ rfl (Nat.le_of_ble_eq_true rfl) d_S_countFresh_13 (sm_det_i ?_)
      refine sg_ifeq (pc := 16) (tgt := 22) C d_S_countFresh_16 (by decide) (by omega) (fun h16 => ?_) (fun h16 => ?_)
      · refine sg_inc3 (pc := 22) (n := 1) C d_S_countFresh_22 (by decide) ?_
        refine sg_goto (pc := 25) (tgt := 4) C d_S_countFresh_25 (by decide) ?_
        have h := ih (k + 1) (by omega)
        rw [show sm_n (fun k => sfr X w n k) (k + 1) = sm_n (fun k => sfr X w n k) k + (if sfr X w n k = true then 1 else 0) from rfl] at h
        first | (rw [if_neg (by rw [b2_0 h16]; decide)] at h; exact h) | (rw [if_pos (b2_1 h16)] at h; exact h)
      · refine sg_inc2 (pc := 19) (n := 1) C d_S_countFresh_19 (by decide) ?_
        refine sg_inc3 (pc := 22) (n := 1) C d_S_countFresh_22 (by decide) ?_
        refine sg_goto (pc := 25) (tgt := 4) C d_S_countFresh_25 (by decide) ?_
        have h := ih (k + 1) (by omega)
        rw [show sm_n (fun k => sfr X w n k) (k + 1) = sm_n (fun k => sfr X w n k) k + (if sfr X w n k = true then 1 else 0) from rfl] at h
        first | (rw [if_neg (by rw [b2_0 h16]; decide)] at h; exact h) | (rw [if_pos (b2_1 h16)] at h; exact h)
  exact loop 12 0 (by omega)

def saf (X : sm_X) (w : Nat → Nat → Nat) (o m k : Nat) : Bool := decide (m / 2 ^ k % 2 = 1) && (slv X k && sfr X w k o)

set_option maxHeartbeats 4000000 in
set_option maxRecDepth 100000 in
theorem c_S_liveAndFresh (l : Launch) (Ω : sm_Ω) {X : sm_X} {w : Nat → Nat → Nat} (hf : swf X w) {o m : Nat} (ho : o < 12) (hm : m < 4096) : sm_met l Ω y_S_liveAndFresh b_S_liveAndFresh 5 (some .int) 2 723 [.ref (Ω.2.1 + 0), .int (nI o), .int (nI m)] X (sm_rf w) (sm_det (some (.int (nI (sm_k (saf X w o m) 12)))) X (sm_rf w)) := by
  refine sm_intro (own := RX6) (L := [some (.ref (Ω.2.1 + 0)), some (.int (nI o)), some (.int (nI m)), none, none]) (by decide) rfl (by simp [Value.category]) (Nat.le_of_ble_eq_true rfl) rfl ?_
  intro Γ C I
  refine sg_ic (pc := 0) (v := 0) C d_S_liveAndFresh_0 (by decide) ?_
  refine sg_is3 (pc := 1) C d_S_liveAndFresh_1 ?_
  refine sg_ic (pc := 2) (v := 0) C d_S_liveAndFresh_2 (by decide) ?_
  refine sg_is4 (pc := 3) C d_S_liveAndFresh_3 ?_
  have loop : ∀ t k, k + t = 12 → sm_G Γ Ω 723 0 0 5 [some (.ref (Ω.2.1 + 0)), some (.int (nI o)), some (.int (nI m)), some (.int (nI (sm_k (saf X w o m) k))), some (.int (nI k))] [] X (sm_rf w) := by
    intro t
    induction t with
    | zero =>
      intro k hk
      refine sg_il (pc := 5) C d_S_liveAndFresh_5 rfl ?_
      refine sg_bi (pc := 7) (v := 12) C d_S_liveAndFresh_7 (by decide) ?_
      refine sg_icge (pc := 9) (tgt := 58) C d_S_liveAndFresh_9 (by decide) (by omega) (by omega) (fun h9 => ?_) (fun h9 => absurd h9 (by omega))
      refine sg_iln (pc := 58) C d_S_liveAndFresh_58 rfl ?_
      exact sg_iret (pc := 59) C I rfl rfl d_S_liveAndFresh_59 ⟨by rw [show k = 12 by omega], rfl, rfl⟩
    | succ t ih =>
      intro k hk
      have hb2 := b2_lt (sfr X w k o)
      have hbk := hf.2.1 k (by omega)
      have hmk : m / 2 ^ k % 2 < 2 := Nat.mod_lt _ (by decide)
      refine sg_il (pc := 5) C d_S_liveAndFresh_5 rfl ?_
      refine sg_bi (pc := 7) (v := 12) C d_S_liveAndFresh_7 (by decide) ?_
      refine sg_icge (pc := 9) (tgt := 58) C d_S_liveAndFresh_9 (by decide) (by omega) (by omega) (fun h9 => absurd h9 (by omega)) (fun h9 => ?_)
      refine sg_iln (pc := 12) C d_S_liveAndFresh_12 rfl ?_
      refine sg_il (pc := 13) C d_S_liveAndFresh_13 rfl ?_
      refine sr_ishr (pc := 15) C d_S_liveAndFresh_15 (sn_shr (by omega) (by omega)) ?_
      refine sg_ic (pc := 16) (v := 1) C d_S_liveAndFresh_16 (by decide) ?_
      refine sg_and (pc := 17) C d_S_liveAndFresh_17 ?_
      rw [Nat.and_one_is_mod]
      refine sg_ic (pc := 18) (v := 1) C d_S_liveAndFresh_18 (by decide) ?_
      refine sg_icne (pc := 19) (tgt := 52) C d_S_liveAndFresh_19 (by decide) (by omega) (by omega) (fun h19 => ?_) (fun h19 => ?_)
      · refine sg_inc4 (pc := 52) (n := 1) C d_S_liveAndFresh_52 (by decide) ?_
        refine sg_goto (pc := 55) (tgt := 5) C d_S_liveAndFresh_55 (by decide) ?_
        have h := ih (k + 1) (by omega)
        rw [show sm_k (saf X w o m) (k + 1) = sm_k (saf X w o m) k + (if saf X w o m k = true then 2 ^ k else 0) from rfl] at h
        rw [if_neg (by simp [saf, h19]), Nat.add_zero] at h
        exact h
      · refine sg_aln (pc := 22) C d_S_liveAndFresh_22 rfl ?_
        refine sg_getr (pc := 23) C fw_S_25 (by omega) rfl rfl rfl d_S_liveAndFresh_23 ?_
        refine sg_il (pc := 26) C d_S_liveAndFresh_26 rfl ?_
        refine sg_aald (pc := 28) (n := 12) (t := 4) C (by omega) rfl (by decide) rfl rfl (by omega) (by decide) (rf_nodes (by omega)) d_S_liveAndFresh_28 ?_
        refine sg_geti (pc := 29) C fw_S_149 (by omega) (sh_N (by omega)) rfl d_S_liveAndFresh_29 ?_
        refine sg_ifeq (pc := 32) (tgt := 52) C d_S_liveAndFresh_32 (by decide) (by omega) (fun h32 => ?_) (fun h32 => ?_)
        · refine sg_inc4 (pc := 52) (n := 1) C d_S_liveAndFresh_52 (by decide) ?_
          refine sg_goto (pc := 55) (tgt := 5) C d_S_liveAndFresh_55 (by decide) ?_
          have h := ih (k + 1) (by omega)
          rw [show sm_k (saf X w o m) (k + 1) = sm_k (saf X w o m) k + (if saf X w o m k = true then 2 ^ k else 0) from rfl] at h
          rw [if_neg (by simp [saf, slv, h32]), Nat.add_zero] at h
          exact h
        · refine sg_aln (pc := 35) C d_S_liveAndFresh_35 rfl ?_
          refine sg_il (pc := 36) C d_S_liveAndFresh_36 rfl ?_
          refine sg_iln (pc := 38) C d_S_liveAndFresh_38 rfl ?_
          refine sm_callV (pc := 39) (As := [.int (nI k), .int (nI o)]) C I (c_S_isFresh l Ω hf (by omega) ho) cw_S_203 iw_S_isFresh (C.1.2.2.2.2 _ (List.mem_cons_of_mem _ se_S_isFresh)) (by omega) rfl rfl rfl rfl (by decide) ⟨by decide, by decide⟩ rfl (Nat.le_of_ble_eq_true rfl) d_S_liveAndFresh_39 (sm_det_i ?_)
          refine sg_ifeq (pc := 42) (tgt := 52) C d_S_liveAndFresh_42 (by decide) (by omega) (fun h42 => ?_) (fun h42 => ?_)
          · refine sg_inc4 (pc := 52) (n := 1) C d_S_liveAndFresh_52 (by decide) ?_
            refine sg_goto (pc := 55) (tgt := 5) C d_S_liveAndFresh_55 (by decide) ?_
            have h := ih (k + 1) (by omega)
            rw [show sm_k (saf X w o m) (k + 1) = sm_k (saf X w o m) k + (if saf X w o m k = true then 2 ^ k else 0) from rfl] at h
            rw [if_neg (by simp [saf, b2_0 h42]), Nat.add_zero] at h
            exact h
          · refine sg_iln (pc := 45) C d_S_liveAndFresh_45 rfl ?_
            refine sg_ic (pc := 46) (v := 1) C d_S_liveAndFresh_46 (by decide) ?_
            refine sg_il (pc := 47) C d_S_liveAndFresh_47 rfl ?_
            refine sr_ishl (pc := 49) C d_S_liveAndFresh_49 (sn_shl k (by omega)) ?_
            refine sg_or (pc := 50) C d_S_liveAndFresh_50 ?_
            refine sg_is3 (pc := 51) C d_S_liveAndFresh_51 ?_
            refine sg_inc4 (pc := 52) (n := 1) C d_S_liveAndFresh_52 (by decide) ?_
            refine sg_goto (pc := 55) (tgt := 5) C d_S_liveAndFresh_55 (by decide) ?_
            have h := ih (k + 1) (by omega)
            rw [show sm_k (saf X w o m) (k + 1) = sm_k (saf X w o m) k + (if saf X w o m k = true then 2 ^ k else 0) from rfl] at h
            rw [if_pos (by simp [saf, slv, h19, h32, b2_1 h42]), ← sm_k_or] at h
            exact h
  exact loop 12 0 (by omega)

def shs (X : sm_X) (w : Nat → Nat → Nat) (o v k : Nat) : Bool := decide (X (82 + 51 * k + 4 * o + 2 * w k o) 0 = v)
def sm_any (p : Nat → Bool) (n : Nat) : Bool := (List.range n).any p
theorem sm_any_t {p : Nat → Bool} {n k : Nat} (h : k < n) (hp : p k = true) : sm_any p n = true := List.any_eq_true.mpr ⟨k, List.mem_range.mpr h, hp⟩
theorem sm_any_f {p : Nat → Bool} {n : Nat} (h : ∀ k, k < n → p k = false) : sm_any p n = false := by
  apply Bool.eq_false_iff.mpr
  intro q
  obtain ⟨k, hk, hp⟩ := List.any_eq_true.mp q
  rw [h k (List.mem_range.mp hk)] at hp
  cases hp

set_option maxHeartbeats 4000000 in
set_option maxRecDepth 100000 in
theorem c_S_someNodeHasShare (l : Launch) (Ω : sm_Ω) {X : sm_X} {w : Nat → Nat → Nat} (hf : swf X w) {o v : Nat} (ho : o < 12) (hv : v < 2 ^ 31) : sm_met l Ω y_S_someNodeHasShare b_S_someNodeHasShare 4 (some .boolean) 1 723 [.ref (Ω.2.1 + 0), .int (nI o), .int (nI v)] X (sm_rf w) (sm_det (some (.int (nI (b2 (sm_any (shs X w o v) 12))))) X (sm_rf w)) := by
  refine sm_intro (own := RX6) (L := [some (.ref (Ω.2.1 + 0)), some (.int (nI o)), some (.int (nI v)), none]) (by decide) rfl (by simp [Value.category]) (Nat.le_of_ble_eq_true rfl) rfl ?_
  intro Γ C I
  have hw := hf.1
  refine sg_ic (pc := 0) (v := 0) C d_S_someNodeHasShare_0 (by decide) ?_
  refine sg_is3 (pc := 1) C d_S_someNodeHasShare_1 ?_
  have loop : ∀ t k, k + t = 12 → (∀ j, j < k → shs X w o v j = false) → sm_G Γ Ω 723 0 0 2 [some (.ref (Ω.2.1 + 0)), some (.int (nI o)), some (.int (nI v)), some (.int (nI k))] [] X (sm_rf w) := by
    intro t
    induction t with
    | zero =>
      intro k hk hj
      refine sg_iln (pc := 2) C d_S_someNodeHasShare_2 rfl ?_
      refine sg_bi (pc := 3) (v := 12) C d_S_someNodeHasShare_3 (by decide) ?_
      refine sg_icge (pc := 5) (tgt := 34) C d_S_someNodeHasShare_5 (by decide) (by omega) (by omega) (fun h5 => ?_) (fun h5 => absurd h5 (by omega))
      refine sg_ic (pc := 34) (v := 0) C d_S_someNodeHasShare_34 (by decide) ?_
      exact sg_iret (pc := 35) C I rfl (sn_b (by decide)) d_S_someNodeHasShare_35 ⟨by rw [sm_any_f (fun j h => hj j (by omega))]; rfl, rfl, rfl⟩
    | succ t ih =>
      intro k hk hj
      have hwk := hw k o
      have g1 := hf.2.2.2 k o (w k o) (by omega) ho (hw k o)
      refine sg_iln (pc := 2) C d_S_someNodeHasShare_2 rfl ?_
      refine sg_bi (pc := 3) (v := 12) C d_S_someNodeHasShare_3 (by decide) ?_
      refine sg_icge (pc := 5) (tgt := 34) C d_S_someNodeHasShare_5 (by decide) (by omega) (by omega) (fun h5 => absurd h5 (by omega)) (fun h5 => ?_)
      refine sg_aln (pc := 8) C d_S_someNodeHasShare_8 rfl ?_
      refine sg_getr (pc := 9) C fw_S_25 (by omega) rfl rfl rfl d_S_someNodeHasShare_9 ?_
      refine sg_iln (pc := 12) C d_S_someNodeHasShare_12 rfl ?_
      refine sg_aald (pc := 13) (n := 12) (t := 4) C (by omega) rfl (by decide) rfl rfl (by omega) (by decide) (rf_nodes (by omega)) d_S_someNodeHasShare_13 ?_
      refine sg_getr (pc := 14) C fw_S_174 (by omega) (sh_N (by omega)) rfl (rf_N1 (by omega)) d_S_someNodeHasShare_14 ?_
      refine sg_iln (pc := 17) C d_S_someNodeHasShare_17 rfl ?_
      refine sg_aald (pc := 18) (n := 12) (t := 6) C (by omega) (sh_Ns (by omega)) (by decide) rfl rfl (by omega) (by decide) (rf_Ns (by omega) (by omega)) d_S_someNodeHasShare_18 ?_
      refine sg_geti (pc := 19) C fw_S_178 (by omega) (sh_S (by omega) (by omega) (hw _ _)) rfl d_S_someNodeHasShare_19 ?_
      refine sg_iln (pc := 22) C d_S_someNodeHasShare_22 rfl ?_
      refine sg_icne (pc := 23) (tgt := 28) C d_S_someNodeHasShare_23 (by decide) (by omega) (by omega) (fun h23 => ?_) (fun h23 => ?_)
      · refine sg_inc3 (pc := 28) (n := 1) C d_S_someNodeHasShare_28 (by decide) ?_
        refine sg_goto (pc := 31) (tgt := 2) C d_S_someNodeHasShare_31 (by decide) ?_
        exact ih (k + 1) (by omega) (fun j h => (by omega : j < k ∨ j = k).elim (hj j) (fun e => by rw [e]; exact decide_eq_false h23))
      · refine sg_ic (pc := 26) (v := 1) C d_S_someNodeHasShare_26 (by decide) ?_
        exact sg_iret (pc := 27) C I rfl (sn_b (by decide)) d_S_someNodeHasShare_27 ⟨by rw [sm_any_t (by omega : k < 12) (decide_eq_true h23)]; rfl, rfl, rfl⟩
  exact loop 12 0 (by omega) (fun j h => absurd h (Nat.not_lt_zero j))

def snr (X : sm_X) (w : Nat → Nat → Nat) (n o : Nat) : Bool := decide (X (691 + o) 4 = 0) && !sfr X w n o
def slh (X : sm_X) (w : Nat → Nat → Nat) (o m : Nat) : Bool := decide (0 < X (691 + o) 1) && decide (pop (sm_k (saf X w o m) 12) < 8)

set_option maxHeartbeats 4000000 in
set_option maxRecDepth 100000 in
theorem c_S_needsRebuild (l : Launch) (Ω : sm_Ω) {X : sm_X} {w : Nat → Nat → Nat} (hf : swf X w) {n o : Nat} (hn : n < 12) (ho : o < 12) : sm_met l Ω y_S_needsRebuild b_S_needsRebuild 3 (some .boolean) 2 723 [.ref (Ω.2.1 + 0), .int (nI n), .int (nI o)] X (sm_rf w) (sm_det (some (.int (nI (b2 (snr X w n o))))) X (sm_rf w)) := by
  refine sm_intro (own := RX6) (L := [some (.ref (Ω.2.1 + 0)), some (.int (nI n)), some (.int (nI o))]) (by decide) rfl (by simp [Value.category]) (Nat.le_of_ble_eq_true rfl) rfl ?_
  intro Γ C I
  have g2 := hf.2.2.1 o ho
  have hb2 := b2_lt (sfr X w n o)
  refine sg_aln (pc := 0) C d_S_needsRebuild_0 rfl ?_
  refine sg_getr (pc := 1) C fw_S_31 (by omega) rfl rfl rfl d_S_needsRebuild_1 ?_
  refine sg_iln (pc := 4) C d_S_needsRebuild_4 rfl ?_
  refine sg_aald (pc := 5) (n := 12) (t := 5) C (by omega) rfl (by decide) rfl rfl (by omega) (by decide) (rf_items (by omega)) d_S_needsRebuild_5 ?_
  refine sg_geti (pc := 6) C fw_S_100 (by omega) (sh_I (by omega)) rfl d_S_needsRebuild_6 ?_
  refine sg_ifne (pc := 9) (tgt := 25) C d_S_needsRebuild_9 (by decide) (by omega) (fun h9 => ?_) (fun h9 => ?_)
  · refine sg_ic (pc := 25) (v := 0) C d_S_needsRebuild_25 (by decide) ?_
    exact sg_iret (pc := 26) C I rfl (sn_b (by decide)) d_S_needsRebuild_26 ⟨by rw [show snr X w n o = false by simp [snr, h9]]; rfl, rfl, rfl⟩
  · refine sg_aln (pc := 12) C d_S_needsRebuild_12 rfl ?_
    refine sg_iln (pc := 13) C d_S_needsRebuild_13 rfl ?_
    refine sg_iln (pc := 14) C d_S_needsRebuild_14 rfl ?_
    refine sm_callV (pc := 15) (As := [.int (nI n), .int (nI o)]) C I (c_S_isFresh l Ω hf hn ho) cw_S_203 iw_S_isFresh (C.1.2.2.2.2 _ (List.mem_cons_of_mem _ se_S_isFresh)) (by omega) rfl rfl rfl rfl (by decide) ⟨by decide, by decide⟩ rfl (Nat.le_of_ble_eq_true rfl) d_S_needsRebuild_15 (sm_det_i ?_)
    refine sg_ifne (pc := 18) (tgt := 25) C d_S_needsRebuild_18 (by decide) (by omega) (fun h18 => ?_) (fun h18 => ?_)
    · refine sg_ic (pc := 25) (v := 0) C d_S_needsRebuild_25 (by decide) ?_
      exact sg_iret (pc := 26) C I rfl (sn_b (by decide)) d_S_needsRebuild_26 ⟨by rw [show snr X w n o = false by simp [snr, b2_1 h18]]; rfl, rfl, rfl⟩
    · refine sg_ic (pc := 21) (v := 1) C d_S_needsRebuild_21 (by decide) ?_
      refine sg_goto (pc := 22) (tgt := 26) C d_S_needsRebuild_22 (by decide) ?_
      exact sg_iret (pc := 26) C I rfl (sn_b (by decide)) d_S_needsRebuild_26 ⟨by rw [show snr X w n o = true by simp [snr, h9, b2_0 h18]]; rfl, rfl, rfl⟩

set_option maxHeartbeats 4000000 in
set_option maxRecDepth 100000 in
theorem c_S_lacksHelpers (l : Launch) (Ω : sm_Ω) {X : sm_X} {w : Nat → Nat → Nat} (hf : swf X w) {o m : Nat} (ho : o < 12) (hm : m < 4096) : sm_met l Ω y_S_lacksHelpers b_S_lacksHelpers 3 (some .boolean) 3 723 [.ref (Ω.2.1 + 0), .int (nI o), .int (nI m)] X (sm_rf w) (sm_det (some (.int (nI (b2 (slh X w o m))))) X (sm_rf w)) := by
  refine sm_intro (own := RX6) (L := [some (.ref (Ω.2.1 + 0)), some (.int (nI o)), some (.int (nI m))]) (by decide) rfl (by simp [Value.category]) (Nat.le_of_ble_eq_true rfl) rfl ?_
  intro Γ C I
  have g2 := hf.2.2.1 o ho
  have hk := sm_k_lt (saf X w o m) 12
  have hpp : pop (sm_k (saf X w o m) 12) ≤ 12 := sm_n_le _ 12
  refine sg_aln (pc := 0) C d_S_lacksHelpers_0 rfl ?_
  refine sg_getr (pc := 1) C fw_S_31 (by omega) rfl rfl rfl d_S_lacksHelpers_1 ?_
  refine sg_iln (pc := 4) C d_S_lacksHelpers_4 rfl ?_
  refine sg_aald (pc := 5) (n := 12) (t := 5) C (by omega) rfl (by decide) rfl rfl (by omega) (by decide) (rf_items (by omega)) d_S_lacksHelpers_5 ?_
  refine sg_geti (pc := 6) C fw_S_117 (by omega) (sh_I (by omega)) rfl d_S_lacksHelpers_6 ?_
  refine sg_ifle (pc := 9) (tgt := 30) C d_S_lacksHelpers_9 (by decide) (by omega) (fun h9 => ?_) (fun h9 => ?_)
  · refine sg_ic (pc := 30) (v := 0) C d_S_lacksHelpers_30 (by decide) ?_
    exact sg_iret (pc := 31) C I rfl (sn_b (by decide)) d_S_lacksHelpers_31 ⟨by rw [show slh X w o m = false by simp [slh, h9]]; rfl, rfl, rfl⟩
  · refine sg_aln (pc := 12) C d_S_lacksHelpers_12 rfl ?_
    refine sg_iln (pc := 13) C d_S_lacksHelpers_13 rfl ?_
    refine sg_iln (pc := 14) C d_S_lacksHelpers_14 rfl ?_
    refine sm_callV (pc := 15) (As := [.int (nI o), .int (nI m)]) C I (c_S_liveAndFresh l Ω hf ho hm) cw_S_123 iw_S_liveAndFresh (C.1.2.2.2.2 _ (List.mem_cons_of_mem _ se_S_liveAndFresh)) (by omega) rfl rfl rfl rfl (by decide) ⟨by decide, by decide⟩ rfl (Nat.le_of_ble_eq_true rfl) d_S_lacksHelpers_15 (sm_det_i ?_)
    refine sm_callS (pc := 18) (As := [.int (nI (sm_k (saf X w o m) 12))]) C I (c_J_bitCount l Ω (by omega)) cw_S_127 sw_J_bitCount rfl (by decide) ⟨by decide, by decide⟩ rfl (Nat.le_of_ble_eq_true rfl) d_S_lacksHelpers_18 (sm_det_i ?_)
    refine sg_bi (pc := 21) (v := 8) C d_S_lacksHelpers_21 (by decide) ?_
    refine sg_icge (pc := 23) (tgt := 30) C d_S_lacksHelpers_23 (by decide) (by omega) (by omega) (fun h23 => ?_) (fun h23 => ?_)
    · refine sg_ic (pc := 30) (v := 0) C d_S_lacksHelpers_30 (by decide) ?_
      exact sg_iret (pc := 31) C I rfl (sn_b (by decide)) d_S_lacksHelpers_31 ⟨by rw [show slh X w o m = false by simp [slh]; omega]; rfl, rfl, rfl⟩
    · refine sg_ic (pc := 26) (v := 1) C d_S_lacksHelpers_26 (by decide) ?_
      refine sg_goto (pc := 27) (tgt := 31) C d_S_lacksHelpers_27 (by decide) ?_
      exact sg_iret (pc := 31) C I rfl (sn_b (by decide)) d_S_lacksHelpers_31 ⟨by rw [show slh X w o m = true by simp [slh, h9, h23]]; rfl, rfl, rfl⟩
