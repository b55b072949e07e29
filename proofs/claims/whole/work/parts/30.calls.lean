/-! calls: a callee's contract is used at the caller's place -/
theorem sm_blind {Ω : sm_Ω} {M : Nat} {X : sm_X} {Y : sm_R} {av : List Value} : FrameBlind (va_Pc av (sm_B Ω M X Y)) := fun a U g mk h =>
  ⟨h.1, h.2.1, va_K.moved (u := U) (U := U.calling g mk a) (Vm.Alike.refl U.vm) h.2.2.1, h.2.2.2.1, sm_S.same (u := U) (U := U.calling g mk a) h.2.2.2.2 rfl⟩
theorem sm_gi {w0 : Cond} {y : MethodName} {cc : ByteArray} {n : Nat} {ret : Option FieldType} (h : Cond.code y cc n ret ∈ sm_ws) : GoodIn (w0 :: sm_ws) (Cond.code y cc n ret :: sm_ws) := by
  intro w hw
  rcases List.mem_cons.mp hw with rfl | hw
  · exact ⟨List.mem_cons_of_mem _ h, (sm_good _ h).2⟩
  · exact ⟨List.mem_cons_of_mem _ hw, (sm_good _ hw).2⟩
/-- what a call needs of the words -/
def sm_cw (own : String) (index : Nat) (y : MethodName) (cc : ByteArray) (n : Nat) (ret : Option FieldType) (na : Nat) : Prop :=
  Cond.code y cc n ret ∈ sm_ws ∧ Cond.initialized y.cls ∈ sm_ws ∧ Cond.methodLink own index y ∈ sm_ws ∧ (y.cls ≠ "java/lang/invoke/MethodHandle" ∧ y.cls ≠ "java/lang/invoke/VarHandle" ∧ (parseMethodDescriptor y.desc).map (fun d => d.parameters.length) = some na) ∧ n ≤ 11
section
variable {Γ : sm_Γ} {Ω : sm_Ω} {cc : ByteArray} {own : String} {nL : Nat} {w0 : Cond} {M cs sl pc : Nat} {L : List (Option Value)} {X : sm_X} {Y : sm_R} {l : Launch} {d0 mc0 ms0 : Nat} {Pq : Prop}
variable {y : MethodName} {bytes : ByteArray} {n index na d i ci : Nat} {ret : Option FieldType} {As rest : List Value} {fl : List Bool} {cr : vw_C} {post : Option Value → sm_X → sm_R → Prop}
theorem sm_run {ls : Array Slot} {H : Heap} {locs : List Loc} {st0 : List Value} {a : Array Value} (hr : va_Run (sm_p Γ) (sm_la Γ) (sm_e Γ) (sm_rm Γ) (sm_s Γ) (sm_m Γ) (sm_ar Γ) (sm_bl Γ) (sm_me Γ) (sm_c Γ) H locs cs sl 0 0 (F0 (sm_m Γ) pc ls st0) rest (sm_Q Ω M post a) (fun q => Ω.2.1 ≤ q))
    (hL : sm_L ls L) (hS : va_S (fun q => Ω.2.1 ≤ q) (sm_s Γ).heap H locs) (kk : ∀ v X' Y', post v X' Y' → sm_G Γ Ω M cs sl (pc + 3) L (v.toList ++ rest) X' Y') : sm_w Γ H locs cs sl (F0 (sm_m Γ) pc ls st0) := by
  intro T hT Z
  obtain ⟨v, st₀, t, T', L', h0, Z', hL', e1, e2, ⟨⟨v', X2, Y2, hv, hp, hB⟩, hz, hk⟩, stp⟩ := hr T hT Z
  cases hv
  rw [h0] at hz hk
  have hS' : va_S (fun q => Ω.2.1 ≤ q) (sm_s Γ).heap T'.heap (locs ++ L') := ⟨Nat.le_trans hS.1 (by rw [e1]; exact hz), fun q h1 h2 => by rw [e1, hk q (Nat.lt_of_lt_of_le h1 hS.1) h2]; exact hS.2.1 q h1 h2, fun q hq => by
      rcases List.mem_append.mp hq with h | h
      · exact hS.2.2 q h
      · exact hL' q h⟩
  obtain ⟨t2, a1, b1⟩ := kk v X2 Y2 hp ls T'.heap (locs ++ L') hL (by rw [e1]; exact hB.1) hS' T' rfl Z'
  exact ⟨t2, stp t2 a1, b1⟩
theorem sm_callV (C : sm_C Γ Ω cc own nL w0) (I : sm_la Γ = l ∧ sm_rm Γ = sm_room d0 mc0 ms0 ∧ Pq) (hm : sm_met l Ω y bytes n ret d M (.ref (Ω.2.1 + i) :: As) X Y post) (hw : sm_cw own index y bytes n ret na) (hin : Cond.instanceMethod y ∈ sm_ws) (hse : (Cond.selects y.cls y y).before (sm_ar Γ) (sm_s Γ) = true) (hi : i < M) (hs : sm_sh i = .inl (ci, fl)) (hc : sm_cl[ci]? = some cr) (hcr : cr.1 = y.cls)
    (hn : As.length = na) (hd0 : d + 1 ≤ d0) (hcs : cs ≤ mc0 ∧ sl ≤ ms0) (hLn : L.length = nL) (hrest : (rest.map fun v => v.category).sum ≤ 8) (hd : decode cc pc = .ok (.invokevirtual index, 3)) (kk : ∀ v X' Y', post v X' Y' → sm_G Γ Ω M cs sl (pc + 3) L (v.toList ++ rest) X' Y') : sm_G Γ Ω M cs sl pc L (As.reverse ++ .ref (Ω.2.1 + i) :: rest) X Y := by
  intro ls H locs hL hP hS
  obtain ⟨h1, h2, -⟩ := I
  subst h1
  obtain ⟨w1, w2, w3, w4, w5⟩ := hw
  have hts := C.1.2.2.2.2
  have cw := callB_of (R := sm_rm Γ) (s := sm_s Γ) (args := sm_ar Γ) (own := own) (index := index) (rm := sm_room d 0 0) (mc := 0) (ms := 0) na hts (sm_gi (w0 := w0) w1) rfl rfl rfl (hts _ (List.mem_cons_of_mem _ w2)) (hts _ (List.mem_cons_of_mem _ w3)) w4 ⟨by rw [h2]; exact hd0, by rw [h2]; show 8 + (n + 11) + 30 * d ≤ 30 * d0; omega⟩
  have he : (sm_W Ω.2.1 Ω.2.2.1 sm_sh M X Y)[i]? = some (Ω.2.1 + i, .inr (ci, sm_f Ω.2.1 fl (X i) (Y i))) := by rw [sm_at hi, hs]; rfl
  have hrecv := va_recv C.2.1 hP hc he
  rw [hcr] at hrecv
  exact sm_run (va_runV (As := As) (rest := rest) (C := y.cls) C.1 hm ⟨cw, hts _ (List.mem_cons_of_mem _ hin), hse⟩ ⟨sm_blind, hrecv, fun U hU hW => ⟨rfl, sm_B_of C hP hS hU hW⟩⟩ rfl hn (hL.1.1.trans hLn) rfl (lv_room hrest) hd (by rw [h2]; exact hcs)) hL hS kk
theorem sm_callS (C : sm_C Γ Ω cc own nL w0) (I : sm_la Γ = l ∧ sm_rm Γ = sm_room d0 mc0 ms0 ∧ Pq) (hm : sm_met l Ω y bytes n ret d M As X Y post) (hw : sm_cw own index y bytes n ret na) (hst : Cond.static y ∈ sm_ws)
    (hn : As.length = na) (hd0 : d + 1 ≤ d0) (hcs : cs ≤ mc0 ∧ sl ≤ ms0) (hLn : L.length = nL) (hrest : (rest.map fun v => v.category).sum ≤ 8) (hd : decode cc pc = .ok (.invokestatic index, 3)) (kk : ∀ v X' Y', post v X' Y' → sm_G Γ Ω M cs sl (pc + 3) L (v.toList ++ rest) X' Y') : sm_G Γ Ω M cs sl pc L (As.reverse ++ rest) X Y := by
  intro ls H locs hL hP hS
  obtain ⟨h1, h2, -⟩ := I
  subst h1
  obtain ⟨w1, w2, w3, w4, w5⟩ := hw
  have hts := C.1.2.2.2.2
  have cw := callB_of (R := sm_rm Γ) (s := sm_s Γ) (args := sm_ar Γ) (own := own) (index := index) (rm := sm_room d 0 0) (mc := 0) (ms := 0) na hts (sm_gi (w0 := w0) w1) rfl rfl rfl (hts _ (List.mem_cons_of_mem _ w2)) (hts _ (List.mem_cons_of_mem _ w3)) w4 ⟨by rw [h2]; exact hd0, by rw [h2]; show 8 + (n + 11) + 30 * d ≤ 30 * d0; omega⟩
  exact sm_run (va_runS (As := As) (rest := rest) C.1 hm ⟨cw, hts _ (List.mem_cons_of_mem _ hst)⟩ ⟨sm_blind, fun U hU hW => ⟨rfl, sm_B_of C hP hS hU hW⟩⟩ rfl hn (hL.1.1.trans hLn) rfl (lv_room hrest) hd (by rw [h2]; exact hcs)) hL hS kk
end
def sm_det (v : Option Value) (X : sm_X) (Y : sm_R) : Option Value → sm_X → sm_R → Prop := fun v' X' Y' => v' = v ∧ X' = X ∧ Y' = Y
theorem sm_det_i {Γ : sm_Γ} {Ω : sm_Ω} {M cs sl pc : Nat} {L : List (Option Value)} {rest : List Value} {X : sm_X} {Y : sm_R} {u : Value} (kk : sm_G Γ Ω M cs sl pc L (u :: rest) X Y) : ∀ v X' Y', sm_det (some u) X Y v X' Y' → sm_G Γ Ω M cs sl pc L (v.toList ++ rest) X' Y' := by
  rintro v X' Y' ⟨rfl, rfl, rfl⟩
  exact kk
theorem sm_det_v {Γ : sm_Γ} {Ω : sm_Ω} {M cs sl pc : Nat} {L : List (Option Value)} {rest : List Value} {X : sm_X} {Y : sm_R} (kk : sm_G Γ Ω M cs sl pc L rest X Y) : ∀ v X' Y', sm_det none X Y v X' Y' → sm_G Γ Ω M cs sl pc L (v.toList ++ rest) X' Y' := by
  rintro v X' Y' ⟨rfl, rfl, rfl⟩
  exact kk
