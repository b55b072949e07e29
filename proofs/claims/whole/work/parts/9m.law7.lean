/-! The law's entry -/
theorem en_ac {args : Array Value} {s : State} {ty : FieldType} (h : (Cond.arrayClass ty).before args s = true) : ∃ c, ArrOfT s c ty ∧ s.vm.findClass ("[" ++ ty.toString) = some c := by
  obtain ⟨c, k, comp, h1, h2, h3⟩ := Cond.arrayClass_spec h
  exact ⟨c, fun n z => ⟨fun q hq => (by cases hq), k, h2, comp, h3⟩, h1⟩
theorem en_ao {s : State} {C : String} (h : va_AO C s) : ∃ c, ArrOfT s c (.object C) ∧ va_RA s c (.object C) := by
  obtain ⟨comp, c, k, h1, h2, h3, h4, h5⟩ := Cond.arrayOver_spec h
  exact ⟨c, fun n z => ⟨fun q hq => (by cases hq), k, h3, comp, h4⟩, k, comp, h3, h4, h1, h5⟩
theorem en_aoa {s : State} {t : FieldType} (h : va_AOA t s) : ∃ c, ArrOfT s c (.array t) ∧ s.vm.findClass ("[" ++ (FieldType.array t).toString) = some c := by
  have h : (Cond.arrayOver (.array t)).holds #[] s none s [] = true := h
  simp only [Cond.holds, Cond.value, beq_iff_eq] at h
  cases hc : s.vm.findClass (FieldType.array t).toString with
  | none => simp [hc] at h
  | some comp =>
    simp only [hc, Option.bind_some, Option.bind_eq_some_iff, Option.map_eq_some_iff] at h
    obtain ⟨c, hi, k, hk, hb⟩ := h
    cases hkind : k.kind with
    | array component ty =>
      rw [hkind] at hb
      simp at hb
      obtain ⟨hb1, hb2⟩ := hb
      subst hb1
      exact ⟨c, fun n z => ⟨fun q hq => (by cases hq), k, hk, component, hkind⟩, hb2⟩
    | _ => rw [hkind] at hb; simp at hb
theorem en_row : ∀ j, j < 30 → Cond.eq (.elem (.static sm_RM "ROW_OF" "[I") (.int (Int32.ofNat j))) (.int (nI (sm_row j))) ∈ flatC (Jvm.Cond.and given_1 narrow_1) := by decide +kernel
theorem en_col : ∀ j, j < 30 → Cond.eq (.elem (.static sm_RM "COLUMN_OF" "[I") (.int (Int32.ofNat j))) (.int (nI (sm_col j))) ∈ flatC (Jvm.Cond.and given_1 narrow_1) := by decide +kernel
theorem en_nc : ∀ q ∈ sm_ncs, Cond.not (.castable q.1 q.2) ∈ flatC (Jvm.Cond.and given_1 narrow_1) := by decide +kernel
set_option maxHeartbeats 4000000 in
set_option maxRecDepth 100000 in
theorem en_Ω {s : State} {args : Array Value} (hts : ∀ w ∈ lw_tbl, w.before args s = true) (hf : ∀ c ∈ flatC (Jvm.Cond.and given_1 narrow_1), c.before args s = true) :
    ∃ Ω : sm_Ω, Ω.2.1 = s.heap.size ∧ va_K Ω.1 sm_cl (sm_T Ω.2.2.1) s ∧ sm_S Ω s s.heap ∧ sm_O s ∧ sm_NC s := by
  have hws : ∀ w ∈ sm_ws, w.before args s = true := fun w hw => hts w (List.mem_filter.mp hw).1
  obtain ⟨c0, i0, k0⟩ := u_known (C := RX0) (T := TX0) (N := 2) (n := 2) hws in_X0 (hws _ (sm_inT 28 (by decide +kernel) (by decide +kernel)))
  obtain ⟨c1, i1, k1⟩ := u_known (C := RX1) (T := TX1) (N := 5) (n := 5) hws in_X1 (hws _ (sm_inT 131 (by decide +kernel) (by decide +kernel)))
  obtain ⟨c2, i2, k2⟩ := u_known (C := RX2) (T := TX2) (N := 2) (n := 2) hws in_X2 (hws _ (sm_inT 42 (by decide +kernel) (by decide +kernel)))
  obtain ⟨c3, i3, k3⟩ := u_known (C := RX3) (T := TX3) (N := 5) (n := 5) hws in_X3 (hws _ (sm_inT 81 (by decide +kernel) (by decide +kernel)))
  obtain ⟨c4, i4, k4⟩ := u_known (C := RX4) (T := TX4) (N := 3) (n := 3) hws in_X4 (hws _ (sm_inT 88 (by decide +kernel) (by decide +kernel)))
  obtain ⟨c5, i5, k5⟩ := u_known (C := RX5) (T := TX5) (N := 3) (n := 3) hws in_X5 (hws _ (sm_inT 61 (by decide +kernel) (by decide +kernel)))
  obtain ⟨c6, i6, k6⟩ := u_known (C := RX6) (T := TX6) (N := 10) (n := 10) hws in_X6 (hws _ (sm_inT 20 (by decide +kernel) (by decide +kernel)))
  obtain ⟨c7, i7, k7⟩ := u_known (C := RX7) (T := TX7) (N := 21) (n := 21) hws in_X7 (hws _ (sm_inT 592 (by decide +kernel) (by decide +kernel)))
  obtain ⟨a0, p0, q0⟩ := en_ac (hws _ ha_int)
  obtain ⟨a1, p1, q1⟩ := en_ac (hws _ ha_bool)
  obtain ⟨a2, p2, q2⟩ := en_ac (hws _ ha_long)
  have o3' : (Cond.arrayOver (.array .int)).before args s = true := (hts _ (List.mem_append_right _ (List.mem_of_getElem? (i := 48) (by decide +kernel))))
  have o3 : va_AOA .int s := o3'
  have o4 : va_AO RX3 s := va_AO.of (hts _ (List.mem_append_right _ (List.mem_of_getElem? (i := 57) (by decide +kernel))))
  have o5 : va_AO RX1 s := va_AO.of (hts _ (List.mem_append_right _ (List.mem_of_getElem? (i := 59) (by decide +kernel))))
  have o6 : va_AO RX4 s := va_AO.of (hts _ (List.mem_append_right _ (List.mem_of_getElem? (i := 87) (by decide +kernel))))
  obtain ⟨a3, p3, q3⟩ := en_aoa o3
  obtain ⟨a4, p4, q4⟩ := en_ao o4
  obtain ⟨a5, p5, q5⟩ := en_ao o5
  obtain ⟨a6, p6, q6⟩ := en_ao o6
  have hA : ∀ a : Nat, a < s.heap.size → ¬ (fun q => s.heap.size ≤ q) a := fun a h1 h2 => absurd h1 (Nat.not_lt.mpr h2)
  have hM : (Cond.initialized sm_RM).before args s = true := (hts _ (List.mem_append_right _ (List.mem_of_getElem? (i := 3) (by decide +kernel))))
  have hT : (Cond.initialized Bundle.tN).before args s = true := (hts _ (List.mem_append_right _ (List.mem_of_getElem? (i := 9) (by decide +kernel))))
  obtain ⟨t1, v1, T1⟩ := va_Tof (ty := .int) (N := 30) (f := fun j => .int (nI (sm_row j))) (A := fun q => s.heap.size ≤ q) (by decide) (hf (.arrayOf (.static sm_RM "ROW_OF" "[I") .int) (by decide +kernel)) (va_eqt (hf (.eq (.length (.static sm_RM "ROW_OF" "[I")) (.int 30)) (by decide +kernel))) (fun j hj => va_eqt (hf _ (en_row j hj))) hA
  obtain ⟨t2, v2, T2⟩ := va_Tof (ty := .int) (N := 30) (f := fun j => .int (nI (sm_col j))) (A := fun q => s.heap.size ≤ q) (by decide) (hf (.arrayOf (.static sm_RM "COLUMN_OF" "[I") .int) (by decide +kernel)) (va_eqt (hf (.eq (.length (.static sm_RM "COLUMN_OF" "[I")) (.int 30)) (by decide +kernel))) (fun j hj => va_eqt (hf _ (en_col j hj))) hA
  refine ⟨((fun c => [c0, c1, c2, c3, c4, c5, c6, c7].getD c c0, fun c => [i0, i1, i2, i3, i4, i5, i6, i7].getD c i0), s.heap.size, (fun t => [a0, a1, a2, a3, a4, a5, a6].getD t a0), t1, t2), rfl, ⟨fun c q hq => ?_, fun k q hq => ?_⟩, ⟨?_, T1, ?_, T2, ?_, ?_, ?_, ?_, ?_, ?_, ?_⟩, ?_, ?_⟩
  · have hc : c < 8 := (List.getElem?_eq_some_iff.mp hq).1
    rcases (by omega : c = 0 ∨ c = 1 ∨ c = 2 ∨ c = 3 ∨ c = 4 ∨ c = 5 ∨ c = 6 ∨ c = 7) with rfl | rfl | rfl | rfl | rfl | rfl | rfl | rfl <;> cases hq
    · exact k0
    · exact k1
    · exact k2
    · exact k3
    · exact k4
    · exact k5
    · exact k6
    · exact k7
  · have hc : k < 7 := (List.getElem?_eq_some_iff.mp hq).1
    rcases (by omega : k = 0 ∨ k = 1 ∨ k = 2 ∨ k = 3 ∨ k = 4 ∨ k = 5 ∨ k = 6) with rfl | rfl | rfl | rfl | rfl | rfl | rfl <;> cases hq
    · exact ⟨p0, q0⟩
    · exact ⟨p1, q1⟩
    · exact ⟨p2, q2⟩
    · exact ⟨p3, q3⟩
    · exact ⟨p4, q4⟩
    · exact ⟨p5, q5⟩
    · exact ⟨p6, q6⟩
  · exact va_Zref (hts _ (List.mem_append_right _ (List.mem_of_getElem? (i := 347) (by decide +kernel)))) hM v1 hA
  · exact va_Zref (hts _ (List.mem_append_right _ (List.mem_of_getElem? (i := 349) (by decide +kernel)))) hM v2 hA
  · exact va_Nw.of (w := sm_nest) rfl (hts _ (List.mem_append_right _ (List.mem_of_getElem? (i := 343) (by decide +kernel))))
  · exact vx_Zqof (hts _ (List.mem_append_right _ (List.mem_of_getElem? (i := 226) (by decide +kernel)))) hT (hf _ (by decide +kernel)) hA
  · exact vx_Zqof (hts _ (List.mem_append_right _ (List.mem_of_getElem? (i := 228) (by decide +kernel)))) hT (hf _ (by decide +kernel)) hA
  · exact va_Nw.of (w := .declares (Bundle.init0 "java/lang/RuntimeException")) rfl (hts _ (List.mem_append_right _ (List.mem_of_getElem? (i := 202) (by decide +kernel))))
  · exact va_Nw.of (w := .declares (Bundle.init0 "java/lang/Exception")) rfl (hts _ (List.mem_append_right _ (List.mem_of_getElem? (i := 204) (by decide +kernel))))
  · exact va_Nw.of (w := .declares (Bundle.init0 Bundle.tN)) rfl (hts _ (List.mem_append_right _ (List.mem_of_getElem? (i := 206) (by decide +kernel))))
  · have key : va_Nw (.castable "java/lang/IndexOutOfBoundsException" "java/lang/IndexOutOfBoundsException") s ∧ va_Nw (.castable "java/lang/IllegalArgumentException" "java/lang/IllegalArgumentException") s ∧ va_Nw (.castable "java/lang/IllegalStateException" "java/lang/IllegalStateException") s ∧ va_Nw (.castable "java/lang/UnsupportedOperationException" "java/lang/UnsupportedOperationException") s ∧ va_Nw (.castable "java/util/NoSuchElementException" "java/util/NoSuchElementException") s := ⟨va_Nw.of (w := .castable "java/lang/IndexOutOfBoundsException" "java/lang/IndexOutOfBoundsException") rfl (hts _ (List.mem_append_right _ (List.mem_of_getElem? (i := 201) (by decide +kernel)))), va_Nw.of (w := .castable "java/lang/IllegalArgumentException" "java/lang/IllegalArgumentException") rfl (hts _ (List.mem_append_right _ (List.mem_of_getElem? (i := 276) (by decide +kernel)))), va_Nw.of (w := .castable "java/lang/IllegalStateException" "java/lang/IllegalStateException") rfl (hts _ (List.mem_append_right _ (List.mem_of_getElem? (i := 295) (by decide +kernel)))), va_Nw.of (w := .castable "java/lang/UnsupportedOperationException" "java/lang/UnsupportedOperationException") rfl (hts _ (List.mem_append_right _ (List.mem_of_getElem? (i := 314) (by decide +kernel)))), va_Nw.of (w := .castable "java/util/NoSuchElementException" "java/util/NoSuchElementException") rfl (hts _ (List.mem_append_right _ (List.mem_of_getElem? (i := 414) (by decide +kernel))))⟩
    exact List.forall_mem_cons.mpr ⟨key.1, List.forall_mem_cons.mpr ⟨key.2.1, List.forall_mem_cons.mpr ⟨key.2.2.1, List.forall_mem_cons.mpr ⟨key.2.2.2.1, List.forall_mem_cons.mpr ⟨key.2.2.2.2, fun _ h => absurd h List.not_mem_nil⟩⟩⟩⟩⟩
  · exact ⟨va_Nw.of (w := .methodLinkNest RX6 18 y_M_init RX6) rfl (hts _ (List.mem_append_right _ (List.mem_of_getElem? (i := 43) (by decide +kernel)))), va_Nw.of (w := .methodLinkNest RX6 37 y_T_init RX6) rfl (hts _ (List.mem_append_right _ (List.mem_of_getElem? (i := 62) (by decide +kernel)))), va_Nw.of (w := .methodLinkNest RX6 62 y_I_init RX6) rfl (hts _ (List.mem_append_right _ (List.mem_of_getElem? (i := 132) (by decide +kernel)))), va_Nw.of (w := .methodLinkNest RX3 31 y_H_init RX6) rfl (hts _ (List.mem_append_right _ (List.mem_of_getElem? (i := 89) (by decide +kernel)))), o5, o4, o6, o3⟩
  · exact fun q hq => va_Nc.of (hf _ (en_nc q hq))
set_option maxHeartbeats 4000000 in
set_option maxRecDepth 100000 in
/-- the two objects are made, the loop runs -/
theorem law_run {Γ : sm_Γ} {Ω : sm_Ω} {w0 : Cond} {l : Launch} {b N : Nat} {xs : Nat → Int32} (C : sm_C Γ Ω code RL 7 w0) (I : sm_la Γ = l ∧ sm_rm Γ = sm_room 11 601024 7293033 ∧ True) (hl : l.stackTraces = false) (hNC : sm_NC (sm_s Γ)) (hO : sm_O (sm_s Γ)) (hz : (sm_s Γ).heap.size = Ω.2.1) (hX : va_X b N xs (sm_s Γ) (sm_s Γ).heap) (hb : b < (sm_s Γ).heap.size) (hN : N ≤ 2048)
    (kend : ∀ (c : Nat) (u5 u6 : Option Value) X w, sm_G Γ Ω 723 601024 7293033 997 [some (.ref b), some (.ref (Ω.2.1 + 0)), some (.ref (Ω.2.1 + 703)), some (.ref (Ω.2.1 + 722)), some (.int (nI (4 * c))), u5, u6] [] X (sm_rf w)) :
    sm_G Γ Ω 0 0 0 0 [some (.ref b), none, none, none, none, none, none] [] (fun _ _ => 0) (yc (fun a _ => a < 0)) := by
  have hr1 : (sm_rm Γ).cells = 601024 := by rw [I.2.1]
  have hr2 : (sm_rm Γ).slots = 7293033 := by rw [I.2.1]
  refine sg_cewo (pc := 0) C (by omega) nw_L_8 rfl (fun _ => rfl) (fun j => by (try dsimp only); omega) (by omega) (by omega) d_L_law_0 ?_
  refine sm_Gn (M' := 1) (cs' := 1) (sl' := 10) (by omega) (by omega) (by omega) ?_
  refine sg_dup (pc := 3) C d_L_law_3 rfl ?_
  refine sm_callI (pc := 4) (As := []) C I (by omega) hO (c_S_init l Ω (fun _ _ => rfl)) cw_L_68 rfl iw_S_init rfl (by decide) ⟨by omega, by omega⟩ rfl (Nat.le_of_ble_eq_true rfl) d_L_law_4 (fun v Z Y1 hp => ?_)
  obtain ⟨rfl, hZ, rfl⟩ := hp
  refine sm_dn ?_
  refine sm_Gn (M' := 703) (cs' := 703) (sl' := 21341) (by omega) (by omega) (by omega) ?_
  have hZ0 : ∀ a j, 703 ≤ a → Z a j = 0 := fun a j ha => hZ.2.2.2 a j (by omega) (by omega) (by omega) (by omega)
  refine sg_as1 (pc := 7) C d_L_law_7 ?_
  refine sg_cewo (pc := 8) C (by omega) nw_L_69 rfl (fun j => hZ0 _ j (by omega)) (fun j => by (try dsimp only); omega) (by omega) (by omega) d_L_law_8 ?_
  refine sm_Gn (M' := 704) (cs' := 704) (sl' := 21362) (by omega) (by omega) (by omega) ?_
  refine sg_dup (pc := 11) C d_L_law_11 rfl ?_
  refine sm_callI (pc := 12) (As := []) C I (by omega) hO (c_R_init l Ω hZ0) cw_L_71 rfl iw_R_init rfl (by decide) ⟨by omega, by omega⟩ rfl (Nat.le_of_ble_eq_true rfl) d_L_law_12 (sm_det_v ?_)
  refine sm_Gn (M' := 722) (cs' := 722) (sl' := 91710) (by omega) (by omega) (by omega) ?_
  have hs := fr_sim hZ rfl
  have h22 : ∀ j, sm_up Z 703 4 4294967295 722 j = 0 := fun j => by rw [sm_up_x (Or.inl (by decide))]; exact hZ0 722 j (by decide)
  generalize sm_up Z 703 4 4294967295 = X at hs h22 ⊢
  refine sg_as2 (pc := 15) C d_L_law_15 ?_
  refine sg_ic (pc := 16) (v := 1) C d_L_law_16 (by decide) ?_
  refine sg_newl (pc := 17) (n := 1) C (by omega) (by decide) rfl ha_long (by omega) (by omega) d_L_law_17 h22 ?_
  refine sm_Gn (M' := 723) (cs' := 723) (sl' := 91711) (by omega) (by omega) (by omega) ?_
  refine sg_as3 (pc := 19) C d_L_law_19 ?_
  refine sg_ic (pc := 20) (v := 0) C d_L_law_20 (by decide) ?_
  refine sg_is4 (pc := 21) C d_L_law_21 ?_
  rw [yc_all]
  exact law_loop (S0 := 91711) C I hl hNC hX hb (by omega) hN (by decide) kend 513 0 rfl X (fun _ _ => 0) _ _ none none hs
