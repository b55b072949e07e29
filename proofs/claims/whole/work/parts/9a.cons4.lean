/-! Constructors: Object's -/
section
variable {Γ : sm_Γ} {Ω : sm_Ω} {cc : ByteArray} {own : String} {nL : Nat} {w0 : Cond} {M cs sl pc : Nat} {L : List (Option Value)} {st : List Value} {X : sm_X} {Y : sm_R}
theorem sg_oinit (C : sm_C Γ Ω cc own nL w0) {q ix : Nat} (hlk : Cond.methodLink own ix objectInit ∈ sm_ws) (hin : Cond.instanceMethod objectInit ∈ sm_ws) (hco : Cond.code objectInit ⟨#[0xb1]⟩ 1 none ∈ sm_ws) (hLn : L.length = nL) (hfr : 1 ≤ (sm_rm Γ).frames) (hlo : (st.map fun v => v.category).sum + 12 ≤ (sm_rm Γ).locals) (hd : decode cc pc = .ok (.invokespecial ix, 3))
    (kk : sm_G Γ Ω M cs sl (pc + 3) L st X Y) : sm_G Γ Ω M cs sl pc L (.ref q :: st) X Y := by
  intro ls H locs hL hP hS
  have hts := C.1.2.2.2.2
  refine W.objInit C.1.1 C.1.2.1 C.1.2.2.2.1 (hts _ (List.mem_cons_of_mem _ hlk)) (hts _ (List.mem_cons_of_mem _ hin)) (hts _ (List.mem_cons_of_mem _ hco)) rfl ((hL.1.1.trans hLn).trans C.1.2.2.1.symm) rfl hd hfr (by show 2 * 0 + _ + 12 ≤ _; omega) ?_
  exact kk ls H locs hL hP hS
end
