/-! The law's loop -/
theorem sm_shr {p : Program} {l : Launch} {e : Env} {R R' : Room} {s : State} {m : MethodId} {args : Array Value} {below : List Frame} {meth : Method} {c : Code} {T : State} {locs : List Loc} {cells slots : Nat} (X : Stand p l e R s m args below meth c T locs cells slots) (hf : R'.frames ≤ R.frames) (hl : R'.locals ≤ R.locals) (hc : R'.cells ≤ R.cells) (hs : R'.slots ≤ R.slots) : Stand p l e R' s m args below meth c T locs cells slots := by
  refine ⟨X.admits, X.cas, X.clock, X.frames, ?_, X.hears, X.method, X.code, X.here, X.tail, X.warmed, X.limits, X.bytes, X.same⟩
  have h := X.room
  simp only [State.hasRoom, Bool.and_eq_true, decide_eq_true_eq] at h ⊢
  obtain ⟨⟨⟨⟨h1, h2, h3, h4, h5, h6⟩, h7⟩, h8⟩, h9⟩ := h
  exact ⟨⟨⟨⟨by omega, by omega, by omega, by omega, by omega, h6⟩, by omega⟩, by omega⟩, h9⟩
theorem sm_shrW {p : Program} {l : Launch} {e : Env} {R R' : Room} {s : State} {m : MethodId} {args : Array Value} {below : List Frame} {meth : Method} {c : Code} {H : Heap} {locs : List Loc} {cells slots : Nat} {Q : State → Prop} {g : JFrame} (hf : R'.frames ≤ R.frames) (hl : R'.locals ≤ R.locals) (hc : R'.cells ≤ R.cells) (hs : R'.slots ≤ R.slots) (h : W p l e R' s m args below meth c H locs cells slots Q g) : W p l e R s m args below meth c H locs cells slots Q g :=
  fun T hT X => h T hT (sm_shr X hf hl hc hs)
theorem lw_cmp {N c : Nat} (hN : N ≤ 2048) (hc : c ≤ 513) : nI N - nI 4 < nI (4 * c) ↔ N < 4 * c + 4 := by
  rw [Int32.lt_iff_toInt_lt, pk_sub_toInt (by omega) (by decide), nI_toInt (by omega)]
  omega
section
variable {Γ : sm_Γ} {Ω : sm_Ω} {cc : ByteArray} {own : String} {nL : Nat} {w0 : Cond} {M cs sl pc : Nat} {L : List (Option Value)} {st : List Value} {X : sm_X} {Y : sm_R}
theorem sg_tin (C : sm_C Γ Ω cc own nL w0) {dflt lo hi : Int} {offs : Array Int} {len : Nat} {x : Int32} {off : Int} {tgt : Nat} (hd : decode cc pc = .ok (.tableswitch dflt lo hi offs, len)) (h1 : ¬ x.toInt < lo) (h2 : ¬ hi < x.toInt) (ho : offs[(x.toInt - lo).toNat]? = some off) (ht : (pc : Int) + off = (tgt : Int)) (kk : sm_G Γ Ω M cs sl tgt L st X Y) : sm_G Γ Ω M cs sl pc L (.int x :: st) X Y := by
  intro ls H locs hL hP hS
  exact lv_tableIn C.1.1 C.1.2.1 hd h1 h2 ho ht (kk ls H locs hL hP hS)
theorem sg_tout (C : sm_C Γ Ω cc own nL w0) {dflt lo hi : Int} {offs : Array Int} {len : Nat} {x : Int32} {tgt : Nat} (hd : decode cc pc = .ok (.tableswitch dflt lo hi offs, len)) (h : x.toInt < lo ∨ hi < x.toInt) (ht : (pc : Int) + dflt = (tgt : Int)) (kk : sm_G Γ Ω M cs sl tgt L st X Y) : sm_G Γ Ω M cs sl pc L (.int x :: st) X Y := by
  intro ls H locs hL hP hS
  exact lv_tableOut C.1.1 C.1.2.1 hd h ht (kk ls H locs hL hP hS)
end
set_option maxHeartbeats 4000000 in
set_option maxRecDepth 100000 in
theorem law_loop {Γ : sm_Γ} {Ω : sm_Ω} {w0 : Cond} {l : Launch} {b0 N S0 : Nat} {xs : Nat → Int32} (C : sm_C Γ Ω code RL 7 w0) (I : sm_la Γ = l ∧ sm_rm Γ = sm_room 11 601024 7293033 ∧ True) (hl : l.stackTraces = false) (hNC : sm_NC (sm_s Γ)) (hX : va_X b0 N xs (sm_s Γ) (sm_s Γ).heap) (hb : b0 < (sm_s Γ).heap.size) (hA : ¬ Ω.2.1 ≤ b0) (hN : N ≤ 2048) (hS0 : S0 < 1000000)
    (kend : ∀ (c : Nat) (u5 u6 : Option Value) X w, sm_G Γ Ω 723 601024 7293033 997 [some (.ref b0), some (.ref (Ω.2.1 + 0)), some (.ref (Ω.2.1 + 703)), some (.ref (Ω.2.1 + 722)), some (.int (nI (4 * c))), u5, u6] [] X (sm_rf w)) :
    ∀ t c, c + t = 513 → ∀ X w CT LN (u5 u6 : Option Value), sim X X w CT LN c → sm_G Γ Ω 723 (723 + c) (S0 + 6 * c) 23 [some (.ref b0), some (.ref (Ω.2.1 + 0)), some (.ref (Ω.2.1 + 703)), some (.ref (Ω.2.1 + 722)), some (.int (nI (4 * c))), u5, u6] [] X (sm_rf w) := by
  intro t
  induction t with
  | zero =>
      intro c hc X w CT LN u5 u6 h
      refine sg_il (pc := 23) C d_L_law_23 rfl ?_
      refine sg_aln (pc := 25) C d_L_law_25 rfl ?_
      refine sg_slen (pc := 26) C hX hb hA d_L_law_26 ?_
      refine sg_ic (pc := 27) (v := 4) C d_L_law_27 (by decide) ?_
      refine sr_isub (pc := 28) C d_L_law_28 rfl ?_
      exact sr_icgt (pc := 29) (tgt := 997) C d_L_law_29 (by decide) (fun _ => sg_widen (by omega) (by omega) (kend c u5 u6 X w)) (fun q => absurd ((lw_cmp hN (by omega)).mpr (by omega)) q)
  | succ t ih =>
      intro c hc X w CT LN u5 u6 h
      refine sg_il (pc := 23) C d_L_law_23 rfl ?_
      refine sg_aln (pc := 25) C d_L_law_25 rfl ?_
      refine sg_slen (pc := 26) C hX hb hA d_L_law_26 ?_
      refine sg_ic (pc := 27) (v := 4) C d_L_law_27 (by decide) ?_
      refine sr_isub (pc := 28) C d_L_law_28 rfl ?_
      refine sr_icgt (pc := 29) (tgt := 997) C d_L_law_29 (by decide) (fun _ => sg_widen (by omega) (by omega) (kend c u5 u6 X w)) (fun q => ?_)
      have hc4 : 4 * c + 4 ≤ N := Nat.le_of_not_lt (fun z => q ((lw_cmp hN (by omega)).mpr z))
      have kk : ∀ (v5 v6 : Option Value) X2 w2 CT2 LN2, sim X2 X2 w2 CT2 LN2 (c + 1) → sm_G Γ Ω 723 (724 + c) (S0 + 6 * c + 6) 991 [some (.ref b0), some (.ref (Ω.2.1 + 0)), some (.ref (Ω.2.1 + 703)), some (.ref (Ω.2.1 + 722)), some (.int (nI (4 * c))), v5, v6] [] X2 (sm_rf w2) := by
        intro v5 v6 X2 w2 CT2 LN2 h2
        refine sg_inc4 (pc := 991) (n := 4) C d_L_law_991 (by decide) ?_
        refine sg_goto (pc := 994) (tgt := 23) C d_L_law_994 (by decide) ?_
        have hi := ih (c + 1) (by omega) X2 w2 CT2 LN2 v5 v6 h2
        rw [show 723 + (c + 1) = 724 + c by omega, show S0 + 6 * (c + 1) = S0 + 6 * c + 6 by omega, show 4 * (c + 1) = 4 * c + 4 by omega] at hi
        exact hi
      refine sg_aln (pc := 32) C d_L_law_32 rfl ?_
      refine sg_il (pc := 33) C d_L_law_33 rfl ?_
      refine sg_sld (pc := 35) C hX hb hA (by omega) (by omega) d_L_law_35 ?_
      refine sg_bi (pc := 36) (v := 15) C d_L_law_36 (by decide) ?_
      obtain ⟨j, hj, ej⟩ := pk_andE (xs (4 * c)) (m := nI 15) 4 (by decide)
      refine sr_iand (pc := 38) C d_L_law_38 ej ?_
      rcases (by omega : j = 0 ∨ j = 1 ∨ j = 2 ∨ j = 3 ∨ j = 4 ∨ j = 5 ∨ j = 6 ∨ j = 7 ∨ j = 8 ∨ j = 9 ∨ j = 10 ∨ j = 11 ∨ j = 12 ∨ j = 13 ∨ j = 14 ∨ j = 15) with rfl | rfl | rfl | rfl | rfl | rfl | rfl | rfl | rfl | rfl | rfl | rfl | rfl | rfl | rfl | rfl
      · exact sg_tin (pc := 39) (tgt := 108) (off := 69) C d_L_law_39 (by decide) (by decide) (by decide) (by decide) (lb_load C I hl hNC hX hb hA hN hc4 hS0 h u5 u6 kk)
      · exact sg_tin (pc := 39) (tgt := 156) (off := 117) C d_L_law_39 (by decide) (by decide) (by decide) (by decide) (lb_put C I hl hNC hX hb hA hN hc4 hS0 h u5 u6 kk)
      · exact sg_tin (pc := 39) (tgt := 224) (off := 185) C d_L_law_39 (by decide) (by decide) (by decide) (by decide) (lb_cut C I hl hNC hX hb hA hN hc4 hS0 h u5 u6 kk)
      · exact sg_tin (pc := 39) (tgt := 260) (off := 221) C d_L_law_39 (by decide) (by decide) (by decide) (by decide) (lb_settle C I hl hNC hX hb hA hN hc4 hS0 h u5 u6 kk)
      · exact sg_tin (pc := 39) (tgt := 323) (off := 284) C d_L_law_39 (by decide) (by decide) (by decide) (by decide) (lb_get C I hl hNC hX hb hA hN hc4 hS0 h u5 u6 kk)
      · exact sg_tin (pc := 39) (tgt := 391) (off := 352) C d_L_law_39 (by decide) (by decide) (by decide) (by decide) (lb_out C I hl hNC hX hb hA hN hc4 hS0 h u5 u6 kk)
      · exact sg_tin (pc := 39) (tgt := 447) (off := 408) C d_L_law_39 (by decide) (by decide) (by decide) (by decide) (lb_object C I hl hNC hX hb hA hN hc4 hS0 h u5 u6 kk)
      · exact sg_tin (pc := 39) (tgt := 515) (off := 476) C d_L_law_39 (by decide) (by decide) (by decide) (by decide) (lb_fail C I hl hNC hX hb hA hN hc4 hS0 h u5 u6 kk)
      · exact sg_tin (pc := 39) (tgt := 551) (off := 512) C d_L_law_39 (by decide) (by decide) (by decide) (by decide) (by
            by_cases he : xs (4 * c + 2) = 0
            · exact lb_back0 C I hl hNC hX hb hA hN hc4 hS0 h he u5 u6 kk
            · exact lb_back1 C I hl hNC hX hb hA hN hc4 hS0 h he u5 u6 kk)
      · exact sg_tin (pc := 39) (tgt := 615) (off := 576) C d_L_law_39 (by decide) (by decide) (by decide) (by decide) (lb_rebuild C I hl hNC hX hb hA hN hc4 hS0 h u5 u6 kk)
      · exact sg_tin (pc := 39) (tgt := 683) (off := 644) C d_L_law_39 (by decide) (by decide) (by decide) (by decide) (lb_node C I hl hNC hX hb hA hN hc4 hS0 h u5 u6 kk)
      · exact sg_tin (pc := 39) (tgt := 751) (off := 712) C d_L_law_39 (by decide) (by decide) (by decide) (by decide) (lb_share C I hl hNC hX hb hA hN hc4 hS0 h u5 u6 kk)
      · exact sg_tin (pc := 39) (tgt := 831) (off := 792) C d_L_law_39 (by decide) (by decide) (by decide) (by decide) (lb_byteAt C I hl hNC hX hb hA hN hc4 hS0 h u5 u6 kk)
      · exact sg_tin (pc := 39) (tgt := 911) (off := 872) C d_L_law_39 (by decide) (by decide) (by decide) (by decide) (lb_field C I hl hNC hX hb hA hN hc4 hS0 h u5 u6 kk)
      · exact sg_tout (pc := 39) (tgt := 991) C d_L_law_39 (by decide) (by decide) (sg_widen (by omega) (by omega) (kk u5 u6 X w CT LN (pr_same h (Nat.le_succ c) (fun _ _ _ _ => rfl))))
      · exact sg_tout (pc := 39) (tgt := 991) C d_L_law_39 (by decide) (by decide) (sg_widen (by omega) (by omega) (kk u5 u6 X w CT LN (pr_same h (Nat.le_succ c) (fun _ _ _ _ => rfl))))
