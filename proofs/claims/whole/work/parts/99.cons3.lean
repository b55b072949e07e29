/-! Constructors: their contracts -/
theorem va_AOA.moved {t : FieldType} {u U : State} (hvm : u.vm.Alike U.vm) (h : va_AOA t u) : va_AOA t U := by
  have e := Cond.arrayOver_setVmC (args := #[]) (s := u) (vm' := U.vm) hvm (.array t)
  exact e.trans h
/-- what the constructors need besides: nest links, classes of rows of references -/
def sm_O (U : State) : Prop := va_Nw (.methodLinkNest RX6 18 y_M_init RX6) U ∧ va_Nw (.methodLinkNest RX6 37 y_T_init RX6) U ∧ va_Nw (.methodLinkNest RX6 62 y_I_init RX6) U ∧ va_Nw (.methodLinkNest RX3 31 y_H_init RX6) U ∧ va_AO RX1 U ∧ va_AO RX3 U ∧ va_AO RX4 U ∧ va_AOA .int U
theorem sm_O.to {u U : State} (h : sm_O u) (hW : u.WarmedH U.vm) : sm_O U := ⟨va_Nw.warmM hW h.1, va_Nw.warmM hW h.2.1, va_Nw.warmM hW h.2.2.1, va_Nw.warmM hW h.2.2.2.1, va_AO.moved hW.alike h.2.2.2.2.1, va_AO.moved hW.alike h.2.2.2.2.2.1, va_AO.moved hW.alike h.2.2.2.2.2.2.1, va_AOA.moved hW.alike h.2.2.2.2.2.2.2⟩
theorem sm_O.same {u U : State} (h : sm_O u) (hv : u.vm = U.vm) : sm_O U := ⟨h.1.same rfl hv, h.2.1.same rfl hv, h.2.2.1.same rfl hv, h.2.2.2.1.same rfl hv, h.2.2.2.2.1.moved (hv ▸ Vm.Alike.refl u.vm), h.2.2.2.2.2.1.moved (hv ▸ Vm.Alike.refl u.vm), h.2.2.2.2.2.2.1.moved (hv ▸ Vm.Alike.refl u.vm), h.2.2.2.2.2.2.2.moved (hv ▸ Vm.Alike.refl u.vm)⟩
def sm_BZ (Ω : sm_Ω) (M : Nat) (X : sm_X) (Y : sm_R) (U : State) : Prop := sm_B Ω M X Y U ∧ U.heap.size = Ω.2.1 + M ∧ sm_O U
/-- makes dc cells of ds slots, returns nothing -/
def sm_con (l : Launch) (Ω : sm_Ω) (y : MethodName) (cc : ByteArray) (n d M dc ds : Nat) (av : List Value) (X : sm_X) (Y : sm_R) (post : Option Value → sm_X → sm_R → Prop) : Prop :=
  Met l y (.code y cc n none :: sm_ws) (sm_room d dc ds) (va_Pc av (sm_BZ Ω M X Y)) (sm_Q Ω (M + dc) post) dc ds (fun q => Ω.2.1 ≤ q)
theorem sm_introC {l : Launch} {Ω : sm_Ω} {y : MethodName} {cc : ByteArray} {n : Nat} {d M dc ds : Nat} {av : List Value} {X : sm_X} {Y : sm_R} {post : Option Value → sm_X → sm_R → Prop} {own : String} {L : List (Option Value)}
    (hy : plainName y.cls = true) (hown : y.cls = own) (hav : ∀ v ∈ av, v.category = 1) (hn : av.length ≤ n) (hL : av.map some ++ List.replicate (n - av.length) none = L)
    (h : ∀ Γ : sm_Γ, sm_C Γ Ω cc own n (.code y cc n none) → sm_I Γ Ω l none d dc ds (M + dc) post → (sm_s Γ).heap.size = Ω.2.1 + M → sm_O (sm_s Γ) → sm_G Γ Ω M 0 0 0 L [] X Y) : sm_con l Ω y cc n d M dc ds av X Y post := by
  subst hL
  refine Met.ofW (cc := cc) (maxL := n) (ret := none) hy rfl ?_
  intro p e s m args below meth c s₁ B hml hv
  obtain ⟨rfl, ⟨hP, hK, hb, hS⟩, hz, hO⟩ := hv
  have hown' : s.vm.findClass own = some m.cls := by rw [← hown]; exact findClass_of_methodNamed B.named
  rw [lg_entry_eq]
  exact h (p, l, e, _, s, m, _, below, meth, c, _) ⟨⟨B.exec, B.bytes, hml, hown', atoms_spec B.pre⟩, hK, hb, hS, B.notSynchronized⟩ ⟨rfl, rfl, B.returns, rfl⟩ hz hO _ _ [] (sm_L_in av hav hn) hP va_S.rf
theorem sm_blindZ {Ω : sm_Ω} {M : Nat} {X : sm_X} {Y : sm_R} {av : List Value} : FrameBlind (va_Pc av (sm_BZ Ω M X Y)) := fun a U g mk h =>
  ⟨h.1, ⟨h.2.1.1, va_K.moved (u := U) (U := U.calling g mk a) (Vm.Alike.refl U.vm) h.2.1.2.1, h.2.1.2.2.1, sm_S.same (u := U) (U := U.calling g mk a) h.2.1.2.2.2 rfl⟩, h.2.2.1, sm_O.same (u := U) (U := U.calling g mk a) h.2.2.2 rfl⟩
section
variable {Γ : sm_Γ} {Ω : sm_Ω} {M cs sl pc : Nat} {L : List (Option Value)} {X : sm_X} {Y : sm_R}
/-- in a constructor the heap ends behind the store -/
theorem sm_hz (h0 : (sm_s Γ).heap.size + cs = Ω.2.1 + M) (hb : Ω.2.1 ≤ (sm_s Γ).heap.size) {H : Heap} {locs : List Loc} {T : State} (hP : va_P Ω.1 sm_cl (sm_W Ω.2.1 Ω.2.2.1 sm_sh M X Y) H) (hS : va_S (fun q => Ω.2.1 ≤ q) (sm_s Γ).heap H locs) (hT : T.heap = H) (Z : Stand (sm_p Γ) (sm_la Γ) (sm_e Γ) (sm_rm Γ) (sm_s Γ) (sm_m Γ) (sm_ar Γ) (sm_bl Γ) (sm_me Γ) (sm_c Γ) T locs cs sl) : H.size = Ω.2.1 + M := by
  have hz := Z.heapSize
  rw [hT] at hz
  by_cases e : M = 0
  · have := hS.1
    omega
  · have h1 : Ω.2.1 + (M - 1) < H.size := (hP (M - 1) _ (sm_at (by omega))).lt
    omega
theorem sm_runC {dc ds : Nat} {post : Option Value → sm_X → sm_R → Prop} {rest : List Value} {ls : Array Slot} {H : Heap} {locs : List Loc} {st0 : List Value} {a : Array Value} (hr : va_Run (sm_p Γ) (sm_la Γ) (sm_e Γ) (sm_rm Γ) (sm_s Γ) (sm_m Γ) (sm_ar Γ) (sm_bl Γ) (sm_me Γ) (sm_c Γ) H locs cs sl dc ds (F0 (sm_m Γ) pc ls st0) rest (sm_Q Ω (M + dc) post a) (fun q => Ω.2.1 ≤ q))
    (hL : sm_L ls L) (hS : va_S (fun q => Ω.2.1 ≤ q) (sm_s Γ).heap H locs) (kk : ∀ v X' Y', post v X' Y' → sm_G Γ Ω (M + dc) (cs + dc) (sl + ds) (pc + 3) L (v.toList ++ rest) X' Y') : sm_w Γ H locs cs sl (F0 (sm_m Γ) pc ls st0) := by
  intro T hT Z
  obtain ⟨v, st₀, t, T', L', h0, Z', hL', e1, e2, ⟨⟨v', X2, Y2, hv, hp, hB⟩, hz, hk⟩, stp⟩ := hr T hT Z
  cases hv
  rw [h0] at hz hk
  have hS' : va_S (fun q => Ω.2.1 ≤ q) (sm_s Γ).heap T'.heap (locs ++ L') := ⟨Nat.le_trans hS.1 (by rw [e1]; exact hz), fun q h1 h2 => by rw [e1, hk q (Nat.lt_of_lt_of_le h1 hS.1) h2]; exact hS.2.1 q h1 h2, fun q hq => by
      rcases List.mem_append.mp hq with h | h
      · exact hS.2.2 q h
      · exact hL' q h⟩
  obtain ⟨t2, a1, b1⟩ := kk v X2 Y2 hp ls T'.heap (locs ++ L') hL (by rw [e1]; exact hB.1) hS' T' rfl Z'
  exact ⟨t2, stp t2 a1, b1⟩
theorem sm_callI {cc : ByteArray} {own : String} {nL : Nat} {w0 : Cond} {l : Launch} {d0 mc0 ms0 : Nat} {Pq : Prop} {y : MethodName} {bytes : ByteArray} {n index na d i dc ds : Nat} {As rest : List Value} {post : Option Value → sm_X → sm_R → Prop} (C : sm_C Γ Ω cc own nL w0) (I : sm_la Γ = l ∧ sm_rm Γ = sm_room d0 mc0 ms0 ∧ Pq) (h0 : (sm_s Γ).heap.size + cs = Ω.2.1 + M) (hO : sm_O (sm_s Γ)) (hm : sm_con l Ω y bytes n d M dc ds (.ref (Ω.2.1 + i) :: As) X Y post) (hw : sm_cw own index y bytes n none na) (hy : y.name = "<init>") (hin : Cond.instanceMethod y ∈ sm_ws)
    (hn : As.length = na) (hd0 : d + 1 ≤ d0) (hcs : cs + dc ≤ mc0 ∧ sl + ds ≤ ms0) (hLn : L.length = nL) (hrest : (rest.map fun v => v.category).sum ≤ 8) (hd : decode cc pc = .ok (.invokespecial index, 3)) (kk : ∀ v X' Y', post v X' Y' → sm_G Γ Ω (M + dc) (cs + dc) (sl + ds) (pc + 3) L (v.toList ++ rest) X' Y') : sm_G Γ Ω M cs sl pc L (As.reverse ++ .ref (Ω.2.1 + i) :: rest) X Y := by
  intro ls H locs hL hP hS T hT Z
  have hsz := sm_hz h0 C.2.2.1 hP hS hT Z
  obtain ⟨h1, h2, -⟩ := I
  subst h1
  obtain ⟨w1, w2, w3, w4, w5⟩ := hw
  have hts := C.1.2.2.2.2
  have cw := callB_of (R := sm_rm Γ) (s := sm_s Γ) (args := sm_ar Γ) (own := own) (index := index) (rm := sm_room d dc ds) (mc := dc) (ms := ds) na hts (sm_gi (w0 := w0) w1) rfl rfl rfl (hts _ (List.mem_cons_of_mem _ w2)) (hts _ (List.mem_cons_of_mem _ w3)) w4 ⟨by rw [h2]; exact hd0, by rw [h2]; show 8 + (n + 11) + 30 * d ≤ 30 * d0; omega⟩
  exact sm_runC (va_runI (As := As) (rest := rest) C.1 hm ⟨cw, hy, hts _ (List.mem_cons_of_mem _ hin)⟩ ⟨sm_blindZ, fun U hU hW => ⟨rfl, sm_B_of C hP hS hU hW, by rw [hU]; exact hsz, hO.to hW⟩⟩ rfl hn (hL.1.1.trans hLn) rfl (lv_room hrest) hd (by rw [h2]; exact hcs)) hL hS kk T hT Z
theorem sm_callIN {cc : ByteArray} {own host : String} {nL : Nat} {w0 : Cond} {l : Launch} {d0 mc0 ms0 : Nat} {Pq : Prop} {y : MethodName} {bytes : ByteArray} {n index na d i dc ds : Nat} {As rest : List Value} {post : Option Value → sm_X → sm_R → Prop} (C : sm_C Γ Ω cc own nL w0) (I : sm_la Γ = l ∧ sm_rm Γ = sm_room d0 mc0 ms0 ∧ Pq) (h0 : (sm_s Γ).heap.size + cs = Ω.2.1 + M) (hO : sm_O (sm_s Γ)) (hk : va_Nw (.methodLinkNest own index y host) (sm_s Γ)) (hm : sm_con l Ω y bytes n d M dc ds (.ref (Ω.2.1 + i) :: As) X Y post) (w1 : Cond.code y bytes n none ∈ sm_ws) (w2 : Cond.initialized y.cls ∈ sm_ws) (w4 : y.cls ≠ "java/lang/invoke/MethodHandle" ∧ y.cls ≠ "java/lang/invoke/VarHandle" ∧ (parseMethodDescriptor y.desc).map (fun d => d.parameters.length) = some na) (hnn : n ≤ 11) (hy : y.name = "<init>") (hin : Cond.instanceMethod y ∈ sm_ws)
    (hn : As.length = na) (hd0 : d + 1 ≤ d0) (hcs : cs + dc ≤ mc0 ∧ sl + ds ≤ ms0) (hLn : L.length = nL) (hrest : (rest.map fun v => v.category).sum ≤ 8) (hd : decode cc pc = .ok (.invokespecial index, 3)) (kk : ∀ v X' Y', post v X' Y' → sm_G Γ Ω (M + dc) (cs + dc) (sl + ds) (pc + 3) L (v.toList ++ rest) X' Y') : sm_G Γ Ω M cs sl pc L (As.reverse ++ .ref (Ω.2.1 + i) :: rest) X Y := by
  intro ls H locs hL hP hS T hT Z
  have hsz := sm_hz h0 C.2.2.1 hP hS hT Z
  obtain ⟨h1, h2, -⟩ := I
  subst h1
  have hts := C.1.2.2.2.2
  have cw := va_cnB (R := sm_rm Γ) (s := sm_s Γ) (args := sm_ar Γ) (own := own) (host := host) (index := index) (y := y) (rm := sm_room d dc ds) (mc := dc) (ms := ds) na hts (sm_gi (w0 := w0) w1) rfl rfl rfl hk (hts _ (List.mem_cons_of_mem _ w2)) w4 ⟨by rw [h2]; exact hd0, by rw [h2]; show 8 + (n + 11) + 30 * d ≤ 30 * d0; omega⟩
  exact sm_runC (va_runIN (As := As) (rest := rest) C.1 hm ⟨cw, hy, hts _ (List.mem_cons_of_mem _ hin)⟩ ⟨sm_blindZ, fun U hU hW => ⟨rfl, sm_B_of C hP hS hU hW, by rw [hU]; exact hsz, hO.to hW⟩⟩ rfl hn (hL.1.1.trans hLn) rfl (lv_room hrest) hd (by rw [h2]; exact hcs)) hL hS kk T hT Z
end
