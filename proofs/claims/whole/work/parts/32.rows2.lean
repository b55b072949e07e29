/-! static tables, the nest mate's call, reading behind writes -/
theorem sm_up_x {X : sm_X} {c j v a k : Nat} (h : a ≠ c ∨ k ≠ j) : sm_up X c j v a k = X a k := if_neg (fun q => h.elim (fun z => z q.1) (fun z => z q.2))
section
variable {Γ : sm_Γ} {Ω : sm_Ω} {cc : ByteArray} {own : String} {nL : Nat} {w0 : Cond} {M cs sl pc : Nat} {L : List (Option Value)} {st : List Value} {X : sm_X} {Y : sm_R} {l : Launch} {d0 mc0 ms0 : Nat} {Pq : Prop}
theorem sg_gets1 (C : sm_C Γ Ω cc own nL w0) {index : Nat} (hl : Cond.fieldLink own index sm_RM "ROW_OF" "[I" ∈ sm_ws) (hd : decode cc pc = .ok (.getstatic index, 3)) (kk : sm_G Γ Ω M cs sl (pc + 3) L (.ref Ω.2.2.2.1 :: st) X Y) : sm_G Γ Ω M cs sl pc L st X Y := by
  intro ls H locs hL hP hS
  exact va_gets C.1.1 C.1.2.1 C.2.2.2.1.1 hS C.1.2.2.2.1 (C.1.2.2.2.2 _ (List.mem_cons_of_mem _ hl)) (fun _ h => h) hd (kk ls H locs hL hP hS)
theorem sg_gets2 (C : sm_C Γ Ω cc own nL w0) {index : Nat} (hl : Cond.fieldLink own index sm_RM "COLUMN_OF" "[I" ∈ sm_ws) (hd : decode cc pc = .ok (.getstatic index, 3)) (kk : sm_G Γ Ω M cs sl (pc + 3) L (.ref Ω.2.2.2.2 :: st) X Y) : sm_G Γ Ω M cs sl pc L st X Y := by
  intro ls H locs hL hP hS
  exact va_gets C.1.1 C.1.2.1 C.2.2.2.1.2.2.1 hS C.1.2.2.2.1 (C.1.2.2.2.2 _ (List.mem_cons_of_mem _ hl)) (fun _ h => h) hd (kk ls H locs hL hP hS)
theorem sg_tald1 (C : sm_C Γ Ω cc own nL w0) {j : Nat} (hj : j < 30) (hd : decode cc pc = .ok (.iaload, 1)) (kk : sm_G Γ Ω M cs sl (pc + 1) L (.int (nI (sm_row j)) :: st) X Y) : sm_G Γ Ω M cs sl pc L (.int (nI j) :: .ref Ω.2.2.2.1 :: st) X Y := by
  intro ls H locs hL hP hS
  exact va_ti C.1.1 C.1.2.1 C.2.2.2.1.2.1 hS (vp_in_nI hj (by decide)) (by rw [nI_clamp (by omega)]) hd (kk ls H locs hL hP hS)
theorem sg_tald2 (C : sm_C Γ Ω cc own nL w0) {j : Nat} (hj : j < 30) (hd : decode cc pc = .ok (.iaload, 1)) (kk : sm_G Γ Ω M cs sl (pc + 1) L (.int (nI (sm_col j)) :: st) X Y) : sm_G Γ Ω M cs sl pc L (.int (nI j) :: .ref Ω.2.2.2.2 :: st) X Y := by
  intro ls H locs hL hP hS
  exact va_ti C.1.1 C.1.2.1 C.2.2.2.1.2.2.2.1 hS (vp_in_nI hj (by decide)) (by rw [nI_clamp (by omega)]) hd (kk ls H locs hL hP hS)
variable {n d : Nat} {ret : Option FieldType} {bytes : ByteArray} {As rest : List Value} {post : Option Value → sm_X → sm_R → Prop}
theorem sm_callSN (C : sm_C Γ Ω cc RX2 nL w0) (I : sm_la Γ = l ∧ sm_rm Γ = sm_room d0 mc0 ms0 ∧ Pq) (hm : sm_met l Ω y_S_stripesOf bytes n ret d M As X Y post) (w1 : Cond.code y_S_stripesOf bytes n ret ∈ sm_ws) (w2 : Cond.initialized RX6 ∈ sm_ws) (hst : Cond.static y_S_stripesOf ∈ sm_ws) (hnn : n ≤ 11)
    (hn : As.length = 1) (hd0 : d + 1 ≤ d0) (hcs : cs ≤ mc0 ∧ sl ≤ ms0) (hLn : L.length = nL) (hrest : (rest.map fun v => v.category).sum ≤ 8) (hd : decode cc pc = .ok (.invokestatic 20, 3)) (kk : ∀ v X' Y', post v X' Y' → sm_G Γ Ω M cs sl (pc + 3) L (v.toList ++ rest) X' Y') : sm_G Γ Ω M cs sl pc L (As.reverse ++ rest) X Y := by
  intro ls H locs hL hP hS
  obtain ⟨h1, h2, -⟩ := I
  subst h1
  have hts := C.1.2.2.2.2
  have cw := va_cnB (R := sm_rm Γ) (s := sm_s Γ) (args := sm_ar Γ) (own := RX2) (host := RX6) (index := 20) (y := y_S_stripesOf) (rm := sm_room d 0 0) (mc := 0) (ms := 0) 1 hts (sm_gi (w0 := w0) w1) rfl rfl rfl C.2.2.2.1.2.2.2.2.1 (hts _ (List.mem_cons_of_mem _ w2)) ⟨by decide, by decide, by decide +kernel⟩ ⟨by rw [h2]; exact hd0, by rw [h2]; show 8 + (n + 11) + 30 * d ≤ 30 * d0; omega⟩
  exact sm_run (va_runSN (As := As) (rest := rest) C.1 hm ⟨cw, hts _ (List.mem_cons_of_mem _ hst), trivial⟩ ⟨sm_blind, fun U hU hW => ⟨rfl, sm_B_of C hP hS hU hW⟩⟩ rfl hn (hL.1.1.trans hLn) rfl (lv_room hrest) hd (by rw [h2]; exact hcs)) hL hS kk
end
