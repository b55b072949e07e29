/-! The law: rows of long numbers, the script, calls that catch, wrappers' contracts -/
def sm_ncs : List (String × String) := [(eIA, eIO), (eIS, eIO), (eIS, eIA), (eUO, eIO), (eUO, eIA), (eUO, eIS), (eNS, eIO), (eNS, eIA), (eNS, eIS), (eUO, eNS)]
def sm_NC (U : State) : Prop := ∀ q ∈ sm_ncs, va_Nc q.1 q.2 U
theorem sm_NC.to {u U : State} (h : sm_NC u) (hW : u.WarmedH U.vm) : sm_NC U := fun q hq => va_Nc.moved hW.alike (h q hq)
theorem sm_NC.same {u U : State} (h : sm_NC u) (hv : u.vm = U.vm) : sm_NC U := fun q hq => va_Nc.moved (hv ▸ Vm.Alike.refl u.vm) (h q hq)
def sm_BN (Ω : sm_Ω) (X : sm_X) (Y : sm_R) (U : State) : Prop := sm_B Ω 723 X Y U ∧ sm_NC U
def sm_wm (l : Launch) (Ω : sm_Ω) (y : MethodName) (cc : ByteArray) (n : Nat) (hh : List (Nat × Nat × Nat × Nat)) (d mc ms : Nat) (av : List Value) (X : sm_X) (Y : sm_R) (post : Option Value → sm_X → sm_R → Prop) : Prop :=
  Met l y (.codeWith y cc n (some .int) hh :: sm_ws) (sm_room d mc ms) (va_Pc av (sm_BN Ω X Y)) (sm_Q Ω 723 post) mc ms (fun q => Ω.2.1 ≤ q)
theorem sm_blindN {Ω : sm_Ω} {X : sm_X} {Y : sm_R} {av : List Value} : FrameBlind (va_Pc av (sm_BN Ω X Y)) := fun a U g mk h =>
  ⟨h.1, ⟨h.2.1.1, va_K.moved (u := U) (U := U.calling g mk a) (Vm.Alike.refl U.vm) h.2.1.2.1, h.2.1.2.2.1, sm_S.same (u := U) (U := U.calling g mk a) h.2.1.2.2.2 rfl⟩, sm_NC.same (u := U) (U := U.calling g mk a) h.2.2 rfl⟩
theorem sm_introW {l : Launch} {Ω : sm_Ω} {y : MethodName} {cc : ByteArray} {n : Nat} {hh : List (Nat × Nat × Nat × Nat)} {d mc ms : Nat} {av : List Value} {X : sm_X} {Y : sm_R} {post : Option Value → sm_X → sm_R → Prop} {own : String} {L : List (Option Value)}
    (hy : plainName y.cls = true) (hown : y.cls = own) (hav : ∀ v ∈ av, v.category = 1) (hn : av.length ≤ n) (hL : av.map some ++ List.replicate (n - av.length) none = L)
    (h : ∀ Γ : sm_Γ, sm_C Γ Ω cc own n (.codeWith y cc n (some .int) hh) → sm_I Γ Ω l (some .int) d mc ms 723 post → (sm_c Γ).exceptionTable.toList = tableOf hh → sm_NC (sm_s Γ) → sm_G Γ Ω 723 0 0 0 L [] X Y) : sm_wm l Ω y cc n hh d mc ms av X Y post := by
  subst hL
  refine va_MetW (cc := cc) (maxL := n) (ret := some .int) (hh := hh) hy rfl ?_
  intro p e s m args below meth c s₁ B hml hv
  obtain ⟨rfl, ⟨hP, hK, hb, hS⟩, hN⟩ := hv
  have hown' : s.vm.findClass own = some m.cls := by rw [← hown]; exact findClass_of_methodNamed B.named
  have hts := atoms_spec B.pre
  have ht := vx_table (x := y) B (hts _ List.mem_cons_self)
  rw [lg_entry_eq]
  exact h (p, l, e, _, s, m, _, below, meth, c, _) ⟨⟨B.exec, B.bytes, hml, hown', hts⟩, hK, hb, hS, B.notSynchronized⟩ ⟨rfl, rfl, B.returns, rfl⟩ ht hN _ _ [] (sm_L_in av hav hn) hP va_S.rf
section
variable {Γ : sm_Γ} {Ω : sm_Ω} {cc : ByteArray} {own : String} {nL : Nat} {w0 : Cond} {M cs sl pc : Nat} {L : List (Option Value)} {st : List Value} {X : sm_X} {Y : sm_R} {l : Launch}
theorem sg_last (C : sm_C Γ Ω cc own nL w0) {i n j v : Nat} (hi : i < M) (hs : sm_sh i = .inr (n, 2)) (hj : j < n) (hn : n < 2 ^ 31) (hd : decode cc pc = .ok (.lastore, 1)) (kk : sm_G Γ Ω M cs sl (pc + 1) L st (sm_up X i j v) Y) : sm_G Γ Ω M cs sl pc L (.long (lN v) :: .int (nI j) :: .ref (Ω.2.1 + i) :: st) X Y := by
  intro ls H locs hL hP hS
  refine va_last C.1.1 C.1.2.1 C.2.1 hP sm_D hS i 2 (cA := Ω.2.2.1 2) (n := n) (f := fun j => lN (X i j)) (by rw [sm_at hi, hs]; rfl) rfl (vp_in_nI hj hn) hd (fun H1 locs1 h1 _ h3 => kk ls H1 locs1 hL ?_ h3)
  rw [nI_clamp (Nat.lt_trans hj hn), sm_set (X' := sm_up X i j v) (Y' := Y) hi ?_ (fun a ha => ⟨sm_up_o ha, rfl⟩)] at h1
  · exact h1
  · rw [hs]
    show _ = (.inl (Ω.2.2.1 2, n, .inr (.inl (fun k => lN (sm_up X i j v i k)))) : va_E)
    congr 5
    funext k
    by_cases ek : k = j
    · subst ek; rw [sm_up_s]; simp [vp_updL]
    · rw [sm_up_n ek]; simp [vp_updL, ek]
theorem sg_lald (C : sm_C Γ Ω cc own nL w0) {i n j : Nat} (hi : i < M) (hs : sm_sh i = .inr (n, 2)) (hj : j < n) (hn : n < 2 ^ 31) (hd : decode cc pc = .ok (.laload, 1)) (kk : sm_G Γ Ω M cs sl (pc + 1) L (.long (lN (X i j)) :: st) X Y) : sm_G Γ Ω M cs sl pc L (.int (nI j) :: .ref (Ω.2.1 + i) :: st) X Y := by
  intro ls H locs hL hP hS
  refine va_lald C.1.1 C.1.2.1 C.2.1 hP i 2 (cA := Ω.2.2.1 2) (n := n) (f := fun j => lN (X i j)) (by rw [sm_at hi, hs]; rfl) rfl (vp_in_nI hj hn) hd ?_
  rw [nI_clamp (Nat.lt_trans hj hn)]
  exact kk ls H locs hL hP hS
theorem sg_lconst (C : sm_C Γ Ω cc own nL w0) {n : Fin 2} (hd : decode cc pc = .ok (.lconst n, 1)) (kk : sm_G Γ Ω M cs sl (pc + 1) L (.long (lN (n : Nat)) :: st) X Y) : sm_G Γ Ω M cs sl pc L st X Y := by
  intro ls H locs hL hP hS
  exact lv_lconst C.1.1 C.1.2.1 hd rfl (kk ls H locs hL hP hS)
theorem sg_lcmp (C : sm_C Γ Ω cc own nL w0) {x : Int64} (hd : decode cc pc = .ok (.lcmp, 1)) (kk : sm_G Γ Ω M cs sl (pc + 1) L (.int (nI 0) :: st) X Y) : sm_G Γ Ω M cs sl pc L (.long x :: .long x :: st) X Y := by
  intro ls H locs hL hP hS
  refine W.lcmp C.1.1 C.1.2.1 hd ?_
  rw [show lg_cmp x x = nI 0 by simp [lg_cmp]; rfl]
  exact kk ls H locs hL hP hS
theorem sg_newl (C : sm_C Γ Ω cc own nL w0) (h0 : (sm_s Γ).heap.size + cs = Ω.2.1 + M) {n : Nat} (hn : n * 8 ≤ 536870912) (hsh : sm_sh M = .inr (n, 2)) (harr : Cond.arrayClass .long ∈ sm_ws) (hcells : cs + 1 ≤ (sm_rm Γ).cells) (hslots : sl + n ≤ (sm_rm Γ).slots) (hd : decode cc pc = .ok (.newarray .long, 2)) (hX : ∀ j, X M j = 0)
    (kk : sm_G Γ Ω (M + 1) (cs + 1) (sl + n) (pc + 2) L (.ref (Ω.2.1 + M) :: st) X Y) : sm_G Γ Ω M cs sl pc L (.int (nI n) :: st) X Y := by
  intro ls H locs hL hP hS
  refine va_newa (atype := .long) (a0 := (n, .inr (.inl (fun _ => lN 0)))) C.1.1 C.1.2.1 (C.1.2.2.2.2 _ (List.mem_cons_of_mem _ harr)) rfl C.2.1 hP sm_D hS (fun q hq => Nat.le_trans C.2.2.1 hq) (N' := n) (fun cA => rfl) (nI_pos (by omega)) (nI_clamp (by omega)) hn hcells hslots hd (fun q cA H1 hK1 hP1 hD1 hS1 => ?_)
  have eA : cA = Ω.2.2.1 2 := by
    have k1 : _ = some cA := (hK1.2 7 (cA, .long) rfl).2
    have k2 : _ = some (Ω.2.2.1 2) := (C.2.1.2 2 (Ω.2.2.1 2, .long) rfl).2
    exact Option.some.inj (k1.symm.trans k2)
  subst eA
  intro T hT Z
  have hz := Z.heapSize
  rw [hT] at hz
  obtain rfl := sm_adr hP1 hD1 (by omega)
  refine kk ls H1 locs hL ?_ hS1 T hT Z
  rw [sm_W_s, hsh]
  have e : sm_E Ω.2.1 Ω.2.2.1 (.inr (n, 2)) (X M) (Y M) = (.inl (Ω.2.2.1 2, n, .inr (.inl (fun _ => lN 0))) : va_E) := by
    show (.inl (Ω.2.2.1 2, n, .inr (.inl (fun j => lN (X M j)))) : va_E) = _
    congr 5
    funext j
    rw [hX j]
  rw [e]
  exact hP1
/-- the law's script -/
theorem sg_sld (C : sm_C Γ Ω cc own nL w0) {b0 N : Nat} {xs : Nat → Int32} (hX : va_X b0 N xs (sm_s Γ) (sm_s Γ).heap) (hb : b0 < (sm_s Γ).heap.size) (hA : ¬ Ω.2.1 ≤ b0) {j : Nat} (hj : j < N) (hN : N < 2 ^ 31) (hd : decode cc pc = .ok (.iaload, 1)) (kk : sm_G Γ Ω M cs sl (pc + 1) L (.int (xs j) :: st) X Y) : sm_G Γ Ω M cs sl pc L (.int (nI j) :: .ref b0 :: st) X Y := by
  intro ls H locs hL hP hS
  refine va_sld C.1.1 C.1.2.1 hX hb hA hS (vp_in_nI hj hN) hd ?_
  rw [nI_clamp (Nat.lt_trans hj hN)]
  exact kk ls H locs hL hP hS
theorem sg_slen (C : sm_C Γ Ω cc own nL w0) {b0 N : Nat} {xs : Nat → Int32} (hX : va_X b0 N xs (sm_s Γ) (sm_s Γ).heap) (hb : b0 < (sm_s Γ).heap.size) (hA : ¬ Ω.2.1 ≤ b0) (hd : decode cc pc = .ok (.arraylength, 1)) (kk : sm_G Γ Ω M cs sl (pc + 1) L (.int (nI N) :: st) X Y) : sm_G Γ Ω M cs sl pc L (.ref b0 :: st) X Y := by
  intro ls H locs hL hP hS
  exact va_slen C.1.1 C.1.2.1 hX hb hA hS hd (kk ls H locs hL hP hS)
theorem sg_widen {cs' sl' : Nat} (h1 : cs ≤ cs') (h2 : sl ≤ sl') (kk : sm_G Γ Ω M cs' sl' pc L st X Y) : sm_G Γ Ω M cs sl pc L st X Y := by
  intro ls H locs hL hP hS
  exact W.widen h1 h2 (kk ls H locs hL hP hS)
variable {y : MethodName} {bytes : ByteArray} {n index na d d0 i ci : Nat} {ret : Option FieldType} {As rest : List Value} {fl : List Bool} {cr : vw_C} {E : String} {Pq : Prop}
/-- a call that throws what is caught here -/
theorem sm_callVC (C : sm_C Γ Ω cc own nL w0) (I : sm_la Γ = l ∧ sm_rm Γ = sm_room d0 1 6 ∧ Pq) (hm : sm_thr l Ω y bytes n ret d (.ref (Ω.2.1 + i) :: As) X Y E) (hw : sm_cw own index y bytes n ret na) (hin : Cond.instanceMethod y ∈ sm_ws) (hse : (Cond.selects y.cls y y).before (sm_ar Γ) (sm_s Γ) = true) (hi : i < 723) (hs : sm_sh i = .inl (ci, fl)) (hc : sm_cl[ci]? = some cr) (hcr : cr.1 = y.cls)
    (hn : As.length = na) (hd0 : d + 1 ≤ d0) (hLn : L.length = nL) (hrest : (rest.map fun v => v.category).sum ≤ 8) (hd : decode cc pc = .ok (.invokevirtual index, 3))
    (pre : List ExceptionTableEntry) (x : ExceptionTableEntry) (suf : List ExceptionTableEntry) (hsplit : (sm_c Γ).exceptionTable.toList = pre ++ x :: suf)
    (hpass : ∀ z ∈ pre, covers z pc = false ∨ (z.catchType ≠ 0 ∧ ∃ nm : String, Cond.classLink own z.catchType nm ∈ sm_ws ∧ va_Nc E nm (sm_s Γ))) (hx : covers x pc = true) (h0 : x.catchType ≠ 0) (hlink : Cond.classLink own x.catchType E ∈ sm_ws) (hE : E ∈ sm_exs)
    (kk : ∀ q : Nat, sm_G Γ Ω 723 1 6 x.handlerPc L [.ref q] X Y) : sm_G Γ Ω 723 0 0 pc L (As.reverse ++ .ref (Ω.2.1 + i) :: rest) X Y := by
  intro ls H locs hL hP hS
  obtain ⟨h1, h2, -⟩ := I
  obtain ⟨w1, w2, w3, w4, w5⟩ := hw
  have hts := C.1.2.2.2.2
  have cw := callB_of (R := sm_rm Γ) (s := sm_s Γ) (args := sm_ar Γ) (own := own) (index := index) (rm := sm_room d 1 6) (mc := 1) (ms := 6) na hts (sm_gi (w0 := w0) w1) rfl rfl rfl (hts _ (List.mem_cons_of_mem _ w2)) (hts _ (List.mem_cons_of_mem _ w3)) w4 ⟨by rw [h2]; exact hd0, by rw [h2]; show 8 + (n + 11) + 30 * d ≤ 30 * d0; omega⟩
  have he : (sm_W Ω.2.1 Ω.2.2.1 sm_sh 723 X Y)[i]? = some (Ω.2.1 + i, .inr (ci, sm_f Ω.2.1 fl (X i) (Y i))) := by rw [sm_at hi, hs]; rfl
  have hrecv := va_recv C.2.1 hP hc he
  rw [hcr] at hrecv
  have hr := vx_runV (l := sm_la Γ) (e := sm_e Γ) (below := sm_bl Γ) (meth := sm_me Γ) (locs := locs) (cells := 0) (slots := 0) (g := F0 (sm_m Γ) pc ls (As.reverse ++ .ref (Ω.2.1 + i) :: rest)) (As := As) (rest := rest) (C := y.cls) C.1 (by rw [h1]; exact hm) ⟨cw, hts _ (List.mem_cons_of_mem _ hin), hse⟩ ⟨sm_blind, hrecv, fun U hU hW => ⟨rfl, sm_B_of C hP hS hU hW⟩⟩ rfl hn (hL.1.1.trans hLn) rfl (lv_room hrest) hd (by rw [h2]; exact ⟨Nat.le_refl 1, Nat.le_refl 6⟩)
  intro T hT Z
  rcases hr T hT Z with ⟨v, st₀, t, T', L', q0, Z', hL', e1, e2, hF, stp⟩ | ⟨q, st₀, t, T', L', E', ce, q0, Z', hL', e1, e2, ⟨hE', hPt, hz, hk⟩, hce, hcv, hcl, stp⟩
  · exact hF.elim
  · subst hE'
    rw [q0] at hz hk
    have hS' : va_S (fun q => Ω.2.1 ≤ q) (sm_s Γ).heap T'.heap (locs ++ L') := ⟨Nat.le_trans hS.1 (by rw [e1]; exact hz), fun q h1 h2 => by rw [e1, hk q (Nat.lt_of_lt_of_le h1 hS.1) h2]; exact hS.2.1 q h1 h2, fun q hq => by
        rcases List.mem_append.mp hq with h | h
        · exact hS.2.2 q h
        · exact hL' q h⟩
    have ho : vx_W (sm_p Γ) (sm_la Γ) (sm_e Γ) (sm_rm Γ) (sm_s Γ) (sm_m Γ) (sm_ar Γ) (sm_bl Γ) (sm_me Γ) (sm_c Γ) T'.heap (locs ++ L') (0 + 1) (0 + 6) (sm_q Γ) (F0 (sm_m Γ) pc ls rest) q :=
      vx_catch (own := own) (name := E') (E := E') C.1.2.2.2.1 pre x suf hsplit (fun z hz => (hpass z hz).imp id (fun ⟨p1, nm, p2, p3⟩ => ⟨p1, nm, hts _ (List.mem_cons_of_mem _ p2), p3⟩)) hx h0 (hts _ (List.mem_cons_of_mem _ hlink)) (va_Nw.use rfl (C.2.2.2.1.2.2.2.2.2.2.2.2.2.2 E' hE)) (by rw [e1]; exact hce) hcv hcl (kk q ls T'.heap (locs ++ L') hL (by rw [e1]; exact hPt) hS')
    obtain ⟨t2, a1, b1⟩ := ho T' rfl Z'
    exact ⟨t2, stp.trans a1, b1⟩
/-- the law's call of a wrapper -/
theorem sm_callW {hh : List (Nat × Nat × Nat × Nat)} {mc ms mc0 ms0 : Nat} {post : Option Value → sm_X → sm_R → Prop} (C : sm_C Γ Ω cc own nL w0) (I : sm_la Γ = l ∧ sm_rm Γ = sm_room d0 mc0 ms0 ∧ Pq) (hNC : sm_NC (sm_s Γ)) (hm : sm_wm l Ω y bytes n hh d mc ms As X Y post)
    (w1 : Cond.codeWith y bytes n (some .int) hh ∈ sm_ws) (w2 : Cond.initialized y.cls ∈ sm_ws) (w3 : Cond.methodLink own index y ∈ sm_ws) (w4 : y.cls ≠ "java/lang/invoke/MethodHandle" ∧ y.cls ≠ "java/lang/invoke/VarHandle" ∧ (parseMethodDescriptor y.desc).map (fun d => d.parameters.length) = some na) (w5 : n ≤ 11) (hst : Cond.static y ∈ sm_ws)
    (hn : As.length = na) (hd0 : d + 1 ≤ d0) (hcs : cs + mc ≤ mc0 ∧ sl + ms ≤ ms0) (hLn : L.length = nL) (hrest : (rest.map fun v => v.category).sum ≤ 8) (hd : decode cc pc = .ok (.invokestatic index, 3)) (kk : ∀ v X' Y', post v X' Y' → sm_G Γ Ω 723 (cs + mc) (sl + ms) (pc + 3) L (v.toList ++ rest) X' Y') : sm_G Γ Ω 723 cs sl pc L (As.reverse ++ rest) X Y := by
  intro ls H locs hL hP hS
  obtain ⟨h1, h2, -⟩ := I
  subst h1
  have hts := C.1.2.2.2.2
  have hg : GoodIn (w0 :: sm_ws) (Cond.codeWith y bytes n (some .int) hh :: sm_ws) := by
    intro w hw
    rcases List.mem_cons.mp hw with rfl | hw
    · exact ⟨List.mem_cons_of_mem _ w1, (sm_good _ w1).2⟩
    · exact ⟨List.mem_cons_of_mem _ hw, (sm_good _ hw).2⟩
  have hc : Cond.codeWith y bytes n (some .int) hh ∈ Cond.codeWith y bytes n (some .int) hh :: sm_ws := List.mem_cons_self
  have cw : vx_CSW (sm_rm Γ) (sm_s Γ) (sm_ar Γ) own index y bytes n (some .int) hh (Cond.codeWith y bytes n (some .int) hh :: sm_ws) (sm_room d mc ms) mc ms na := by
    refine ⟨⟨rfl, rfl, by rw [h2]; exact hd0, by rw [h2]; show 8 + (n + 11) + 30 * d ≤ 30 * d0; omega, pay_in hts hg, hc⟩, hts _ (List.mem_cons_of_mem _ w1), hts _ (List.mem_cons_of_mem _ w2), ⟨w4.1, w4.2.1⟩, fun sig h => ?_, hts _ (List.mem_cons_of_mem _ w3), hts _ (List.mem_cons_of_mem _ hst)⟩
    have h3 := w4.2.2
    rw [h] at h3
    exact (Option.some.inj h3).symm
  have hr := vx_runSW (l := sm_la Γ) (e := sm_e Γ) (below := sm_bl Γ) (meth := sm_me Γ) (locs := locs) (cells := cs) (slots := sl) (g := F0 (sm_m Γ) pc ls (As.reverse ++ rest)) (As := As) (rest := rest) (H := H) C.1 hm cw ⟨sm_blindN, fun U hU hW => ⟨rfl, sm_B_of C hP hS hU hW, hNC.to hW⟩⟩ rfl hn (hL.1.1.trans hLn) rfl (lv_room hrest) hd (by rw [h2]; exact hcs)
  intro T hT Z
  obtain ⟨v, st₀, t, T', L', q0, Z', hL', e1, e2, ⟨⟨v', X2, Y2, hv, hp, hB⟩, hz, hk⟩, stp⟩ := hr T hT Z
  cases hv
  rw [q0] at hz hk
  have hS' : va_S (fun q => Ω.2.1 ≤ q) (sm_s Γ).heap T'.heap (locs ++ L') := ⟨Nat.le_trans hS.1 (by rw [e1]; exact hz), fun q h1 h2 => by rw [e1, hk q (Nat.lt_of_lt_of_le h1 hS.1) h2]; exact hS.2.1 q h1 h2, fun q hq => by
      rcases List.mem_append.mp hq with h | h
      · exact hS.2.2 q h
      · exact hL' q h⟩
  obtain ⟨t2, a1, b1⟩ := kk v X2 Y2 hp ls T'.heap (locs ++ L') hL (by rw [e1]; exact hB.1) hS' T' rfl Z'
  exact ⟨t2, stp t2 a1, b1⟩
end
/-! numbers of the script -/
theorem sn_dec (x : Int32) {n : Nat} (hn : n < 2 ^ 31) : (x < 0 ∨ nI n ≤ x) ∨ ∃ i, i < n ∧ x = nI i := by
  rcases pk_ix x hn with h | h | h
  · exact Or.inl (Or.inl h)
  · exact Or.inl (Or.inr h)
  · exact Or.inr h
theorem sn_dec2 (x : Int32) {n : Nat} (hn : n + 1 < 2 ^ 31) : (x < 0 ∨ nI n < x) ∨ ∃ i, i < n + 1 ∧ x = nI i := by
  rcases sn_dec x hn with h | h
  · exact Or.inl (sn_ix hn h)
  · exact Or.inr h
