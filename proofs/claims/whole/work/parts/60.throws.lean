/-! Methods that throw: nothing of the store is written; one cell of six slots comes -/
def sm_XC (Ω : sm_Ω) (E : String) (X : sm_X) (Y : sm_R) : String → State → State → Prop := fun E' st t => E' = E ∧ va_P Ω.1 sm_cl (sm_W Ω.2.1 Ω.2.2.1 sm_sh 723 X Y) t.heap ∧ va_F (fun q => Ω.2.1 ≤ q) st t
def sm_thr (l : Launch) (Ω : sm_Ω) (y : MethodName) (cc : ByteArray) (n : Nat) (ret : Option FieldType) (d : Nat) (av : List Value) (X : sm_X) (Y : sm_R) (E : String) : Prop :=
  vx_Met l y (.code y cc n ret :: sm_ws) (sm_room d 1 6) (va_Pc av (sm_B Ω 723 X Y)) (fun _ _ _ _ => False) (sm_XC Ω E X Y) 1 6 (fun q => Ω.2.1 ≤ q)
def sm_J (Γ : sm_Γ) (Ω : sm_Ω) (l : Launch) (d : Nat) (E : String) (X : sm_X) (Y : sm_R) : Prop :=
  sm_la Γ = l ∧ sm_rm Γ = sm_room d 1 6 ∧ (∀ x ∈ (sm_c Γ).exceptionTable.toList, False) ∧ sm_q Γ = vx_MQ (sm_bl Γ) (fun _ _ _ _ => False) (sm_XC Ω E X Y) (sm_ar Γ) (sm_s Γ) 1 6 (fun q => Ω.2.1 ≤ q)
theorem sm_introX {l : Launch} {Ω : sm_Ω} {y : MethodName} {cc : ByteArray} {n : Nat} {ret : Option FieldType} {d : Nat} {av : List Value} {X : sm_X} {Y : sm_R} {E : String} {own : String} {L : List (Option Value)}
    (hy : plainName y.cls = true) (hown : y.cls = own) (hav : ∀ v ∈ av, v.category = 1) (hn : av.length ≤ n) (hL : av.map some ++ List.replicate (n - av.length) none = L)
    (h : ∀ Γ : sm_Γ, sm_C Γ Ω cc own n (.code y cc n ret) → sm_J Γ Ω l d E X Y → sm_G Γ Ω 723 0 0 0 L [] X Y) : sm_thr l Ω y cc n ret d av X Y E := by
  subst hL
  refine vx_ofW (cc := cc) (maxL := n) (ret := ret) hy rfl ?_
  intro p e s m args below meth c s₁ B hml hex hv
  obtain ⟨rfl, hP, hK, hb, hS⟩ := hv
  have hown' : s.vm.findClass own = some m.cls := by rw [← hown]; exact findClass_of_methodNamed B.named
  rw [lg_entry_eq]
  exact h (p, l, e, _, s, m, _, below, meth, c, _) ⟨⟨B.exec, B.bytes, hml, hown', atoms_spec B.pre⟩, hK, hb, hS, B.notSynchronized⟩ ⟨rfl, rfl, hex, rfl⟩ _ _ [] (sm_L_in av hav hn) hP va_S.rf
abbrev sm_nms : List String := ["java/lang/RuntimeException", "java/lang/Exception"]
def sm_dec (E : String) : List Cond := [.castable E E, .declares (Bundle.init0 "java/lang/RuntimeException"), .declares (Bundle.init0 "java/lang/Exception"), .declares (Bundle.init0 Bundle.tN)]
def sm_tw (own : String) (ik ic : Nat) (E : String) : Prop := Bundle.fit E = true ∧ E ∈ sm_exs ∧ Cond.classLink own ik E ∈ sm_ws ∧ Cond.initialized E ∈ sm_ws ∧ (∀ w ∈ (vx_at0 own ic E sm_nms).filter goodWord, w ∈ sm_ws) ∧ (∀ w ∈ (vx_at0 own ic E sm_nms).filter (fun w => !goodWord w), w ∈ sm_dec E) ∧ ∀ w ∈ Cond.classLink own ik E :: Cond.initialized E :: vx_at0 own ic E sm_nms, vx_ot w = true
section
variable {Γ : sm_Γ} {Ω : sm_Ω} {cc : ByteArray} {own : String} {nL : Nat} {w0 : Cond} {pc : Nat} {L : List (Option Value)} {st : List Value} {X : sm_X} {Y : sm_R} {l : Launch} {d d0 : Nat} {E : String}
theorem sg_throw (C : sm_C Γ Ω cc own nL w0) (J : sm_J Γ Ω l d E X Y) (hl : l.stackTraces = false) {ik ic : Nat} (hE : sm_tw own ik ic E) (h0 : decode cc pc = .ok (.new ik, 3)) (h3 : decode cc (pc + 3) = .ok (.dup, 1)) (h4 : decode cc (pc + 4) = .ok (.invokespecial ic, 3)) (h7 : decode cc (pc + 7) = .ok (.athrow, 1))
    (hd : 6 ≤ d) (hLn : L.length = nL) (hrest : (st.map fun v => v.category).sum ≤ 8) : sm_G Γ Ω 723 0 0 pc L st X Y := by
  intro ls H locs hL hP hS
  obtain ⟨j1, j2, j3, j4⟩ := J
  obtain ⟨e1, e0, e2, e3, e4, e5, e6⟩ := hE
  have hts := C.1.2.2.2.2
  have hD := C.2.2.2.1.2.2.2.2
  unfold sm_w
  rw [j4]
  refine vx_throw0 (names := sm_nms) (A := fun q => Ω.2.1 ≤ q) C.1.1 C.1.2.1 (by rw [j1]; exact hl) C.1.2.2.2.1 e1 (by decide) (hts _ (List.mem_cons_of_mem _ e2)) (hts _ (List.mem_cons_of_mem _ e3))
    (vx_hat (fun w hw => hts w (List.mem_cons_of_mem _ (e4 w hw))) e5 (vx_c (va_Nw.use rfl (hD.2.2.2.2.2.2 E e0)) (vx_c (va_Nw.use rfl hD.2.2.2.1) (vx_c (va_Nw.use rfl hD.2.2.2.2.1) (vx_c (va_Nw.use rfl hD.2.2.2.2.2.1) vx_n))))) e6 hD.2.1 hD.2.2.1 hS (hL.1.1.trans (hLn.trans C.1.2.2.1.symm)) h0 h3 h4 h7
    (fun x hx => (j3 x hx).elim) (by rw [j2]; show 2 + 3 < d; omega) (by rw [j2]; show _ + (13 * (2 + 1) + 42) ≤ 30 * d; omega) (by rw [j2]; exact Nat.le_refl 1) (by rw [j2]; exact Nat.le_refl 6) C.2.2.2.2
    (fun t hvm hz hq => ⟨rfl, hP.kept (fun k q hk => hq q.1 ((hP k q hk).lt)), Nat.le_trans hS.1 hz, fun q h1 h2 => (hq q (Nat.lt_of_lt_of_le h1 hS.1)).trans (hS.2.1 q h1 h2)⟩) hS.2.2 (Nat.le_refl 1) (Nat.le_refl 6)
variable {y : MethodName} {bytes : ByteArray} {n index na i ci : Nat} {ret : Option FieldType} {As rest : List Value} {fl : List Bool} {cr : vw_C}
theorem sm_runX {ls : Array Slot} {H : Heap} {locs : List Loc} {st0 : List Value} {Qa : State → Outcome → State → Prop} (C : sm_C Γ Ω cc own nL w0) (J : sm_J Γ Ω l d0 E X Y) (hQ : ∀ st o t, ¬ Qa st o t)
    (hr : vx_Run (sm_p Γ) (sm_la Γ) (sm_e Γ) (sm_rm Γ) (sm_s Γ) (sm_m Γ) (sm_ar Γ) (sm_bl Γ) (sm_me Γ) (sm_c Γ) H locs 0 0 1 6 (F0 (sm_m Γ) pc ls st0) rest Qa (sm_XC Ω E X Y) (fun q => Ω.2.1 ≤ q))
    (hS : va_S (fun q => Ω.2.1 ≤ q) (sm_s Γ).heap H locs) : sm_w Γ H locs 0 0 (F0 (sm_m Γ) pc ls st0) := by
  obtain ⟨j1, j2, j3, j4⟩ := J
  intro T hT Z
  rcases hr T hT Z with ⟨v, st₀, t, T', L', h0, Z', hL', e1, e2, hF, stp⟩ | ⟨q, st₀, t, T', L', E', ce, h0, Z', hL', e1, e2, ⟨hE, hPt, hz, hk⟩, hce, hcv, hcl, stp⟩
  · exact (hQ _ _ _ hF).elim
  · subst hE
    rw [h0] at hz hk
    have hS' : va_S (fun q => Ω.2.1 ≤ q) (sm_s Γ).heap T'.heap (locs ++ L') := ⟨Nat.le_trans hS.1 (by rw [e1]; exact hz), fun q h1 h2 => by rw [e1, hk q (Nat.lt_of_lt_of_le h1 hS.1) h2]; exact hS.2.1 q h1 h2, fun q hq => by
        rcases List.mem_append.mp hq with h | h
        · exact hS.2.2 q h
        · exact hL' q h⟩
    have ho : vx_W (sm_p Γ) (sm_la Γ) (sm_e Γ) (sm_rm Γ) (sm_s Γ) (sm_m Γ) (sm_ar Γ) (sm_bl Γ) (sm_me Γ) (sm_c Γ) T'.heap (locs ++ L') (0 + 1) (0 + 6) (vx_MQ (sm_bl Γ) (fun _ _ _ _ => False) (sm_XC Ω E' X Y) (sm_ar Γ) (sm_s Γ) 1 6 (fun q => Ω.2.1 ≤ q)) (F0 (sm_m Γ) pc ls rest) q :=
      vx_out (E := E') (fun x hx => (j3 x hx).elim) C.2.2.2.2 (by rw [e1]; exact hce) hcv hcl (fun t2 ht2 _ => ⟨rfl, by rw [ht2, e1]; exact hPt, hS'.F ht2⟩) hS'.2.2 (Nat.le_refl 1) (Nat.le_refl 6)
    obtain ⟨t2, a1, b1⟩ := ho T' rfl Z'
    exact ⟨t2, stp.trans a1, by rw [j4]; exact b1⟩
theorem sm_callSX (C : sm_C Γ Ω cc own nL w0) (J : sm_J Γ Ω l d0 E X Y) (hm : sm_thr l Ω y bytes n ret d As X Y E) (hw : sm_cw own index y bytes n ret na) (hst : Cond.static y ∈ sm_ws)
    (hn : As.length = na) (hd0 : d + 1 ≤ d0) (hLn : L.length = nL) (hrest : (rest.map fun v => v.category).sum ≤ 8) (hd : decode cc pc = .ok (.invokestatic index, 3)) : sm_G Γ Ω 723 0 0 pc L (As.reverse ++ rest) X Y := by
  intro ls H locs hL hP hS
  have J0 := J
  obtain ⟨h1, h2, -⟩ := J
  obtain ⟨w1, w2, w3, w4, w5⟩ := hw
  have hts := C.1.2.2.2.2
  have cw := callB_of (R := sm_rm Γ) (s := sm_s Γ) (args := sm_ar Γ) (own := own) (index := index) (rm := sm_room d 1 6) (mc := 1) (ms := 6) na hts (sm_gi (w0 := w0) w1) rfl rfl rfl (hts _ (List.mem_cons_of_mem _ w2)) (hts _ (List.mem_cons_of_mem _ w3)) w4 ⟨by rw [h2]; exact hd0, by rw [h2]; show 8 + (n + 11) + 30 * d ≤ 30 * d0; omega⟩
  exact sm_runX C J0 (fun _ _ _ h => h) (vx_runS (As := As) (rest := rest) C.1 (h1 ▸ hm) ⟨cw, hts _ (List.mem_cons_of_mem _ hst)⟩ ⟨sm_blind, fun U hU hW => ⟨rfl, sm_B_of C hP hS hU hW⟩⟩ rfl hn (hL.1.1.trans hLn) rfl (lv_room hrest) hd (by rw [h2]; exact ⟨Nat.le_refl 1, Nat.le_refl 6⟩)) hS
theorem sm_callVX (C : sm_C Γ Ω cc own nL w0) (J : sm_J Γ Ω l d0 E X Y) (hm : sm_thr l Ω y bytes n ret d (.ref (Ω.2.1 + i) :: As) X Y E) (hw : sm_cw own index y bytes n ret na) (hin : Cond.instanceMethod y ∈ sm_ws) (hse : (Cond.selects y.cls y y).before (sm_ar Γ) (sm_s Γ) = true) (hi : i < 723) (hs : sm_sh i = .inl (ci, fl)) (hc : sm_cl[ci]? = some cr) (hcr : cr.1 = y.cls)
    (hn : As.length = na) (hd0 : d + 1 ≤ d0) (hLn : L.length = nL) (hrest : (rest.map fun v => v.category).sum ≤ 8) (hd : decode cc pc = .ok (.invokevirtual index, 3)) : sm_G Γ Ω 723 0 0 pc L (As.reverse ++ .ref (Ω.2.1 + i) :: rest) X Y := by
  intro ls H locs hL hP hS
  have J0 := J
  obtain ⟨h1, h2, -⟩ := J
  obtain ⟨w1, w2, w3, w4, w5⟩ := hw
  have hts := C.1.2.2.2.2
  have cw := callB_of (R := sm_rm Γ) (s := sm_s Γ) (args := sm_ar Γ) (own := own) (index := index) (rm := sm_room d 1 6) (mc := 1) (ms := 6) na hts (sm_gi (w0 := w0) w1) rfl rfl rfl (hts _ (List.mem_cons_of_mem _ w2)) (hts _ (List.mem_cons_of_mem _ w3)) w4 ⟨by rw [h2]; exact hd0, by rw [h2]; show 8 + (n + 11) + 30 * d ≤ 30 * d0; omega⟩
  have he : (sm_W Ω.2.1 Ω.2.2.1 sm_sh 723 X Y)[i]? = some (Ω.2.1 + i, .inr (ci, sm_f Ω.2.1 fl (X i) (Y i))) := by rw [sm_at hi, hs]; rfl
  have hrecv := va_recv C.2.1 hP hc he
  rw [hcr] at hrecv
  exact sm_runX C J0 (fun _ _ _ h => h) (vx_runV (As := As) (rest := rest) (C := y.cls) C.1 (h1 ▸ hm) ⟨cw, hts _ (List.mem_cons_of_mem _ hin), hse⟩ ⟨sm_blind, hrecv, fun U hU hW => ⟨rfl, sm_B_of C hP hS hU hW⟩⟩ rfl hn (hL.1.1.trans hLn) rfl (lv_room hrest) hd (by rw [h2]; exact ⟨Nat.le_refl 1, Nat.le_refl 6⟩)) hS
end

theorem tw_S_200 : sm_tw RX6 200 202 eIO := ⟨by decide +kernel, by decide +kernel, sm_inT 199 (by decide +kernel) (by decide +kernel), sm_inT 12 (by decide +kernel) (by decide +kernel), by decide +kernel, by decide +kernel, by decide +kernel⟩
theorem tw_S_67 : sm_tw RX6 67 69 eIA := ⟨by decide +kernel, by decide +kernel, sm_inT 274 (by decide +kernel) (by decide +kernel), sm_inT 13 (by decide +kernel) (by decide +kernel), by decide +kernel, by decide +kernel, by decide +kernel⟩
theorem tw_S_77 : sm_tw RX6 77 79 eUO := ⟨by decide +kernel, by decide +kernel, sm_inT 312 (by decide +kernel) (by decide +kernel), sm_inT 15 (by decide +kernel) (by decide +kernel), by decide +kernel, by decide +kernel, by decide +kernel⟩
theorem tw_S_104 : sm_tw RX6 104 106 eIS := ⟨by decide +kernel, by decide +kernel, sm_inT 293 (by decide +kernel) (by decide +kernel), sm_inT 14 (by decide +kernel) (by decide +kernel), by decide +kernel, by decide +kernel, by decide +kernel⟩
theorem tw_S_120 : sm_tw RX6 120 122 eNS := ⟨by decide +kernel, by decide +kernel, sm_inT 412 (by decide +kernel) (by decide +kernel), sm_inT 16 (by decide +kernel) (by decide +kernel), by decide +kernel, by decide +kernel, by decide +kernel⟩
