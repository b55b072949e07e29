/-! Constructors: rows that make cells; the new cell stands behind the others -/
theorem sm_W_s {b : Nat} {cA : Nat → ClassId} {sh : Nat → sm_K} {M : Nat} {X : sm_X} {Y : sm_R} : sm_W b cA sh (M + 1) X Y = sm_W b cA sh M X Y ++ [(b + M, sm_E b cA (sh M) (X M) (Y M))] := by
  unfold sm_W
  rw [List.range_succ, List.map_append]
  rfl
theorem sm_W_c {b : Nat} {cA : Nat → ClassId} {sh : Nat → sm_K} {M : Nat} {X X' : sm_X} {Y Y' : sm_R} (h : ∀ i, i < M → X' i = X i ∧ Y' i = Y i) : sm_W b cA sh M X' Y' = sm_W b cA sh M X Y := by
  unfold sm_W
  refine List.map_congr_left (fun i hi => ?_)
  rw [(h i (List.mem_range.mp hi)).1, (h i (List.mem_range.mp hi)).2]
/-- where the new cell stands -/
theorem sm_adr {D : va_G} {cl : List vw_C} {b : Nat} {cA : Nat → ClassId} {sh : Nat → sm_K} {M q : Nat} {X : sm_X} {Y : sm_R} {en : va_E} {H : Heap} (hP : va_P D cl (sm_W b cA sh M X Y ++ [(q, en)]) H) (hD : va_D (fun q => b ≤ q) (sm_W b cA sh M X Y ++ [(q, en)])) (hH : H.size ≤ b + M + 1) : q = b + M := by
  have e : (sm_W b cA sh M X Y ++ [(q, en)])[M]? = some (q, en) := by
    rw [List.getElem?_append_right (by rw [sm_len]; exact Nat.le_refl M), sm_len, Nat.sub_self]
    rfl
  have h1 := (hP M _ e).lt
  have h2 : b ≤ q := hD.2 M _ e
  by_cases h3 : q < b + M
  · have e2 : (sm_W b cA sh M X Y ++ [(q, en)])[q - b]? = some (b + (q - b), sm_E b cA (sh (q - b)) (X (q - b)) (Y (q - b))) := by
      rw [List.getElem?_append_left (by rw [sm_len]; omega)]
      exact sm_at (by omega)
    have h4 := hD.1 (q - b) M _ _ e2 e (by show b + (q - b) = q; omega)
    omega
  · have : q < H.size := h1
    omega
section
variable {Γ : sm_Γ} {Ω : sm_Ω} {cc : ByteArray} {own : String} {nL : Nat} {w0 : Cond} {M cs sl pc : Nat} {L : List (Option Value)} {st : List Value} {X : sm_X} {Y : sm_R}
theorem sg_newi (C : sm_C Γ Ω cc own nL w0) (h0 : (sm_s Γ).heap.size + cs = Ω.2.1 + M) {n : Nat} (hn : n * 4 ≤ 536870912) (hsh : sm_sh M = .inr (n, 0)) (harr : Cond.arrayClass .int ∈ sm_ws) (hcells : cs + 1 ≤ (sm_rm Γ).cells) (hslots : sl + n ≤ (sm_rm Γ).slots) (hd : decode cc pc = .ok (.newarray .int, 2))
    (kk : sm_G Γ Ω (M + 1) (cs + 1) (sl + n) (pc + 2) L (.ref (Ω.2.1 + M) :: st) (sm_uf X M (fun _ => 0)) Y) : sm_G Γ Ω M cs sl pc L (.int (nI n) :: st) X Y := by
  intro ls H locs hL hP hS
  refine va_newa (atype := .int) (a0 := (n, .inl (fun _ => nI 0))) C.1.1 C.1.2.1 (C.1.2.2.2.2 _ (List.mem_cons_of_mem _ harr)) rfl C.2.1 hP sm_D hS (fun q hq => Nat.le_trans C.2.2.1 hq) (N' := n) (fun cA => rfl) (nI_pos (by omega)) (nI_clamp (by omega)) hn hcells hslots hd (fun q cA H1 hK1 hP1 hD1 hS1 => ?_)
  have eA : cA = Ω.2.2.1 0 := by
    have k1 := (hK1.2 7 (cA, .int) rfl).2
    have k2 := (C.2.1.2 0 (Ω.2.2.1 0, .int) rfl).2
    exact Option.some.inj ((va_nm_int k1).symm.trans (va_nm_int k2))
  subst eA
  intro T hT Z
  have hz := Z.heapSize
  rw [hT] at hz
  obtain rfl := sm_adr hP1 hD1 (by omega)
  refine kk ls H1 locs hL ?_ hS1 T hT Z
  rw [sm_W_s, sm_W_c (X := X) (Y := Y) (fun i hi => ⟨funext fun j => sm_uf_o (by omega), rfl⟩), hsh]
  have e : sm_E Ω.2.1 Ω.2.2.1 (.inr (n, 0)) (sm_uf X M (fun _ => 0) M) (Y M) = (.inl (Ω.2.2.1 0, n, .inl (fun _ => nI 0)) : va_E) := by
    show (.inl (Ω.2.2.1 0, n, .inl (fun j => nI (sm_uf X M (fun _ => 0) M j))) : va_E) = _
    congr 4
    funext j
    rw [sm_uf_s]
  rw [e]
  exact hP1
theorem sg_newo (C : sm_C Γ Ω cc own nL w0) (h0 : (sm_s Γ).heap.size + cs = Ω.2.1 + M) {ci N ix : Nat} {Cn : String} {T : u_T} {fl : List Bool} {ty : Nat → FieldType} (hc : sm_cl[ci]? = some (Cn, T, N)) (hsh : sm_sh M = .inl (ci, fl)) (hfl : fl.length = N) (hty : ∀ k, k < N → parseFieldDescriptor (T k).2.2.1 = some (ty k)) (hdf : ∀ j, j < N → defaultValue (ty j) = if fl.getD j false = true then .null else .int 0)
    (hin : ∀ w ∈ u_ws Cn T N, w ∈ sm_ws) (hcl : Cond.classLink own ix Cn ∈ sm_ws) (hinst : Cond.instantiable Cn N ∈ sm_ws) (hini : Cond.initialized Cn ∈ sm_ws) (hcells : cs + 1 ≤ (sm_rm Γ).cells) (hslots : sl + N ≤ (sm_rm Γ).slots) (hd : decode cc pc = .ok (.new ix, 3))
    (kk : sm_G Γ Ω (M + 1) (cs + 1) (sl + N) (pc + 3) L (.ref (Ω.2.1 + M) :: st) (sm_uf X M (fun _ => 0)) (fun a => if a = M then fun _ => none else Y a)) : sm_G Γ Ω M cs sl pc L st X Y := by
  intro ls H locs hL hP hS
  have hts := C.1.2.2.2.2
  refine va_new (ci := ci) (fs := sm_f Ω.2.1 fl (fun _ => 0) (fun _ => none)) (C := Cn) (T := T) (N := N) C.1.1 C.1.2.1 hts (fun w hw => List.mem_cons_of_mem _ (hin w hw)) ty hty C.1.2.2.2.1 (hts _ (List.mem_cons_of_mem _ hcl)) (hts _ (List.mem_cons_of_mem _ hinst)) (hts _ (List.mem_cons_of_mem _ hini)) C.2.1 hP sm_D hS (fun q hq => Nat.le_trans C.2.2.1 hq) hc (fun j hj => ?_) hcells hslots hd (fun q H1 hP1 hD1 hS1 => ?_)
  · unfold vp_V
    rw [List.getD_eq_getElem?_getD, sm_f_at (by omega), hdf j hj]
    rfl
  · intro T hT Z
    have hz := Z.heapSize
    rw [hT] at hz
    obtain rfl := sm_adr hP1 hD1 (by omega)
    refine kk ls H1 locs hL ?_ hS1 T hT Z
    rw [sm_W_s, sm_W_c (X := X) (Y := Y) (fun i hi => ⟨funext fun j => sm_uf_o (by omega), if_neg (by omega)⟩), hsh]
    have e : sm_E Ω.2.1 Ω.2.2.1 (.inl (ci, fl)) (sm_uf X M (fun _ => 0) M) (if M = M then fun _ => none else Y M) = (.inr (ci, sm_f Ω.2.1 fl (fun _ => 0) (fun _ => none)) : va_E) := by
      rw [if_pos rfl, show sm_uf X M (fun _ => 0) M = fun _ => 0 from funext fun j => sm_uf_s]
      rfl
    rw [e]
    exact hP1
theorem sg_newq (C : sm_C Γ Ω cc own nL w0) (h0 : (sm_s Γ).heap.size + cs = Ω.2.1 + M) {n t ix : Nat} {Cn : String} (ht : 3 < t) (hT : (sm_T Ω.2.2.1)[t]? = some (Ω.2.2.1 t, .object Cn)) (hn : n * 4 ≤ 536870912) (hsh : sm_sh M = .inr (n, t)) (hcl : Cond.classLink own ix Cn ∈ sm_ws) (hov : va_AO Cn (sm_s Γ)) (hcells : cs + 1 ≤ (sm_rm Γ).cells) (hslots : sl + n ≤ (sm_rm Γ).slots) (hd : decode cc pc = .ok (.anewarray ix, 3))
    (kk : sm_G Γ Ω (M + 1) (cs + 1) (sl + n) (pc + 3) L (.ref (Ω.2.1 + M) :: st) X (fun a => if a = M then fun _ => none else Y a)) : sm_G Γ Ω M cs sl pc L (.int (nI n) :: st) X Y := by
  intro ls H locs hL hP hS
  refine va_newq C.1.1 C.1.2.1 C.1.2.2.2.1 (C.1.2.2.2.2 _ (List.mem_cons_of_mem _ hcl)) hov C.2.1 hP sm_D hS (fun q hq => Nat.le_trans C.2.2.1 hq) (N' := n) (nI_pos (by omega)) (nI_clamp (by omega)) hn hcells hslots hd (fun q cA H1 hK1 hP1 hD1 hS1 => ?_)
  have eA : cA = Ω.2.2.1 t := by
    obtain ⟨_, _, -, -, -, k1⟩ := (hK1.2 7 (cA, .object Cn) rfl).2
    obtain ⟨_, _, -, -, -, k2⟩ := (C.2.1.2 t (Ω.2.2.1 t, .object Cn) hT).2
    exact Option.some.inj (k1.symm.trans k2)
  subst eA
  intro T hT Z
  have hz := Z.heapSize
  rw [hT] at hz
  obtain rfl := sm_adr hP1 hD1 (by omega)
  refine kk ls H1 locs hL ?_ hS1 T hT Z
  rw [sm_W_s, sm_W_c (X := X) (Y := Y) (fun i hi => ⟨rfl, if_neg (by omega)⟩), hsh]
  have e : sm_E Ω.2.1 Ω.2.2.1 (.inr (n, t)) (X M) (if M = M then fun _ => none else Y M) = (.inl (Ω.2.2.1 t, n, .inr (.inr (.inr (.inr (fun _ => none))))) : va_E) := by
    rw [if_pos rfl]
    show (.inl (Ω.2.2.1 t, n, sm_v Ω.2.1 t (X M) (fun _ => none)) : va_E) = _
    unfold sm_v
    rw [if_neg (by omega), if_neg (by omega)]
    rfl
  rw [e]
  exact hP1
theorem sg_newb (C : sm_C Γ Ω cc own nL w0) (h0 : (sm_s Γ).heap.size + cs = Ω.2.1 + M) {n : Nat} (hn : n * 4 ≤ 536870912) (hsh : sm_sh M = .inr (n, 1)) (harr : Cond.arrayClass .boolean ∈ sm_ws) (hcells : cs + 1 ≤ (sm_rm Γ).cells) (hslots : sl + n ≤ (sm_rm Γ).slots) (hd : decode cc pc = .ok (.newarray .boolean, 2))
    (kk : sm_G Γ Ω (M + 1) (cs + 1) (sl + n) (pc + 2) L (.ref (Ω.2.1 + M) :: st) (sm_uf X M (fun _ => 0)) Y) : sm_G Γ Ω M cs sl pc L (.int (nI n) :: st) X Y := by
  intro ls H locs hL hP hS
  refine va_newa (atype := .boolean) (a0 := (n, .inl (fun _ => nI 0))) C.1.1 C.1.2.1 (C.1.2.2.2.2 _ (List.mem_cons_of_mem _ harr)) rfl C.2.1 hP sm_D hS (fun q hq => Nat.le_trans C.2.2.1 hq) (N' := n) (fun cA => rfl) (nI_pos (by omega)) (nI_clamp (by omega)) (by show n * 1 ≤ _; omega) hcells hslots hd (fun q cA H1 hK1 hP1 hD1 hS1 => ?_)
  have eA : cA = Ω.2.2.1 1 := by
    have k1 : _ = some cA := (hK1.2 7 (cA, .boolean) rfl).2
    have k2 : _ = some (Ω.2.2.1 1) := (C.2.1.2 1 (Ω.2.2.1 1, .boolean) rfl).2
    exact Option.some.inj (k1.symm.trans k2)
  subst eA
  intro T hT Z
  have hz := Z.heapSize
  rw [hT] at hz
  obtain rfl := sm_adr hP1 hD1 (by omega)
  refine kk ls H1 locs hL ?_ hS1 T hT Z
  rw [sm_W_s, sm_W_c (X := X) (Y := Y) (fun i hi => ⟨funext fun j => sm_uf_o (by omega), rfl⟩), hsh]
  have e : sm_E Ω.2.1 Ω.2.2.1 (.inr (n, 1)) (sm_uf X M (fun _ => 0) M) (Y M) = (.inl (Ω.2.2.1 1, n, .inl (fun _ => nI 0)) : va_E) := by
    show (.inl (Ω.2.2.1 1, n, .inl (fun j => nI (sm_uf X M (fun _ => 0) M j))) : va_E) = _
    congr 4
    funext j
    rw [sm_uf_s]
  rw [e]
  exact hP1
end
