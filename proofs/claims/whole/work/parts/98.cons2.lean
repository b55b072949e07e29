/-! Constructors: new int[N][K]; the outer row, then the inner ones, behind the others -/
section
variable {Γ : sm_Γ} {Ω : sm_Ω} {cc : ByteArray} {own : String} {nL : Nat} {w0 : Cond} {M cs sl pc : Nat} {L : List (Option Value)} {st : List Value} {X : sm_X} {Y : sm_R}
def mnX (X : sm_X) (M : Nat) : sm_X := fun a j => if M ≤ a then 0 else X a j
def mnY (Y : sm_R) (M N : Nat) : sm_R := fun a j => if a = M then (if j < N then some (M + 1 + j) else none) else Y a j
theorem mn_in (c : ClassId) (K : Nat) : Jvm.Free.Multi.innerC c K (defaultValue .int) = vp_cell c (K, .inl (fun _ => nI 0)) := arrV_new c K (.int 0)
theorem sg_mna (C : sm_C Γ Ω cc own nL w0) (h0 : (sm_s Γ).heap.size + cs = Ω.2.1 + M) {N K ix : Nat} (hN : N < 2 ^ 20) (hK : K < 2 ^ 20) (hsh : sm_sh M = .inr (N, 3)) (hsr : ∀ i, i < N → sm_sh (M + 1 + i) = .inr (K, 0)) (hcl : Cond.classLink own ix "[[I" ∈ sm_ws) (hov : va_AOA .int (sm_s Γ)) (harr : Cond.arrayClass .int ∈ sm_ws) (hcells : cs + (1 + N) ≤ (sm_rm Γ).cells) (hslots : sl + (N + N * K) ≤ (sm_rm Γ).slots) (hd : decode cc pc = .ok (.multianewarray ix 2, 4))
    (kk : sm_G Γ Ω (M + 1 + N) (cs + 1 + N) (sl + N + N * K) (pc + 4) L (.ref (Ω.2.1 + M) :: st) (mnX X M) (mnY Y M N)) : sm_G Γ Ω M cs sl pc L (.int (nI K) :: .int (nI N) :: st) X Y := by
  intro ls H locs hL hP hS T hT Xs
  have hts := C.1.2.2.2.2
  have eN : (nI N).toNatClampNeg = N := nI_clamp (by omega)
  have eK : (nI K).toNatClampNeg = K := nI_clamp (by omega)
  have hge : Ω.2.1 + M ≤ H.size := by
    by_cases e : M = 0
    · have := hS.1
      have := C.2.2.1
      omega
    · have h1 : Ω.2.1 + (M - 1) < H.size := (hP (M - 1) _ (sm_at (by omega))).lt
      omega
  have hz := Xs.heapSize
  rw [hT] at hz
  have hsz : H.size = Ω.2.1 + M := by omega
  obtain ⟨vm₁, cA, comp, -, fA, fC, hO, -, X', step⟩ := Xs.multianewarray2F (ty := .int) C.1.1 C.1.2.2.2.1 (hts _ (List.mem_cons_of_mem _ hcl)) (va_AOA.use hov) (hts _ (List.mem_cons_of_mem _ harr)) (g := F0 (sm_m Γ) pc ls (.int (nI K) :: .int (nI N) :: st)) rfl (by rw [C.1.2.1]; exact hd) rfl (nI_pos (by omega)) (nI_pos (by omega)) (by rw [eN]; omega) (by rw [eK]; show K * 4 ≤ _; omega) (by rw [eK]; omega) rfl rfl (by rw [eN]; exact hcells) (by rw [eN, eK]; exact hslots)
  have ec : some (Ω.2.2.1 0) = some comp := (va_nm_int (C.2.1.2 0 (Ω.2.2.1 0, .int) rfl).2).symm.trans fC
  cases ec
  have eA : cA = Ω.2.2.1 3 := by
    have k2 : _ = some (Ω.2.2.1 3) := (C.2.1.2 3 (Ω.2.2.1 3, .array .int) rfl).2
    exact Option.some.inj (fA.symm.trans k2)
  subst eA
  rw [eN, eK] at X' step
  generalize hF : Jvm.Free.Multi.fill (T.setVm vm₁) (Ω.2.2.1 3) (Ω.2.2.1 0) N K (defaultValue .int) N = F at X' step
  have hTh : (T.setVm vm₁).heap = H := hT
  obtain ⟨f1, f2, -, -⟩ := Jvm.Free.Multi.fill_facts (T.setVm vm₁) (Ω.2.2.1 3) (Ω.2.2.1 0) N K (defaultValue .int) N
  rw [hF, hTh] at f1 f2
  have hold : ∀ x : Nat, x < H.size → F.heap[x]? = H[x]? := fun x hx => by
    have := Jvm.Free.Multi.fill_old (T.setVm vm₁) (Ω.2.2.1 3) (Ω.2.2.1 0) N K (defaultValue .int) (a := x) (by rw [hTh]; exact hx) N
    rw [hF, hTh] at this
    exact this
  have hrow : ∀ j : Nat, j < N → F.heap[H.size + 1 + j]? = some (vp_cell (Ω.2.2.1 0) (K, .inl (fun _ => nI 0))) := fun j hj => by
    have := Jvm.Free.Multi.fill_inner (T.setVm vm₁) (Ω.2.2.1 3) (Ω.2.2.1 0) N K (defaultValue .int) N j hj
    rw [hF, hTh] at this
    rw [this]
    exact congrArg some (mn_in (Ω.2.2.1 0) K)
  have hout : Jvm.Free.Multi.outerC (Ω.2.2.1 3) N H.size N = vp_cell (Ω.2.2.1 3) (N, .inr (.inr (.inr (.inr (fun i => if i < N then some (H.size + 1 + i) else none))))) := by
    rw [vp_cell_q]
    exact vr_outer (Ω.2.2.1 3) N H.size N
  rw [hout] at f2
  have hPn : va_P Ω.1 sm_cl (sm_W Ω.2.1 Ω.2.2.1 sm_sh (M + 1 + N) (mnX X M) (mnY Y M N)) F.heap := by
    intro k q hk
    by_cases hkM : k < M + 1 + N
    · rw [sm_at hkM] at hk
      cases hk
      by_cases h1 : k < M
      · have h2 := hP.kept (H1 := F.heap) (fun k9 x hx => hold x.1 ((hP k9 x hx).lt)) k _ (sm_at h1)
        rw [show mnX X M k = X k from funext fun j => if_neg (by omega), show mnY Y M N k = Y k from funext fun j => if_neg (by omega)]
        exact h2
      · rw [show mnX X M k = fun _ => 0 from funext fun j => if_pos (by omega)]
        by_cases h3 : k = M
        · subst h3
          rw [hsh, show mnY Y k N k = fun j => if j < N then some (k + 1 + j) else none from funext fun j => if_pos rfl]
          show F.heap[Ω.2.1 + k]? = some (vp_cell (Ω.2.2.1 3) (N, .inr (.inr (.inr (.inr (fun j => (if j < N then some (k + 1 + j) else none).map (fun i => Ω.2.1 + i)))))))
          rw [← hsz, f2]
          congr 7
          funext i
          by_cases h4 : i < N
          · rw [if_pos h4, if_pos h4, hsz]
            show some (Ω.2.1 + k + 1 + i) = some (Ω.2.1 + (k + 1 + i))
            congr 1
            omega
          · rw [if_neg h4, if_neg h4]
            rfl
        · obtain ⟨i, rfl⟩ : ∃ i, k = M + 1 + i := ⟨k - (M + 1), by omega⟩
          rw [hsr i (by omega)]
          show F.heap[Ω.2.1 + (M + 1 + i)]? = some (vp_cell (Ω.2.2.1 0) (K, .inl (fun _ => nI 0)))
          rw [show Ω.2.1 + (M + 1 + i) = H.size + 1 + i by omega]
          exact hrow i (by omega)
    · rw [sm_off hkM] at hk
      cases hk
  obtain ⟨t, a1, b1⟩ := kk ls F.heap locs hL hPn ⟨by rw [f1]; have := hS.1; omega, fun x h1 h2 => (hold x (Nat.lt_of_lt_of_le h1 hS.1)).trans (hS.2.1 x h1 h2), hS.2.2⟩ F rfl X'
  refine ⟨t, step t ?_, b1⟩
  have e : T.heap.size = Ω.2.1 + M := by rw [hT, hsz]
  rw [e]
  exact a1
end
