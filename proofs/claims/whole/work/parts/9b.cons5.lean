/-! Constructors: the store in the making -/
/-- of the references only those of P are written -/
noncomputable def yc (P : Nat → Nat → Prop) : sm_R := fun a j => @ite _ (P a j) (Classical.propDecidable _) (sm_rf (fun _ _ => 0) a j) none
theorem yc_t {P : Nat → Nat → Prop} {a j : Nat} (h : P a j) : yc P a j = sm_rf (fun _ _ => 0) a j := @if_pos _ (Classical.propDecidable _) h _ _ _
theorem yc_f {P : Nat → Nat → Prop} {a j : Nat} (h : ¬ P a j) : yc P a j = none := @if_neg _ (Classical.propDecidable _) h _ _ _
theorem yc_r {P : Nat → Nat → Prop} {a j q : Nat} (hq : sm_rf (fun _ _ => 0) a j = some q) (h : P a j) : yc P a j = some q := (yc_t h).trans hq
theorem yc_up {P P' : Nat → Nat → Prop} {a j q : Nat} (hq : sm_rf (fun _ _ => 0) a j = some q) (h : ∀ b k, P' b k ↔ P b k ∨ (b = a ∧ k = j)) : sm_ur (yc P) a j (some q) = yc P' := by
  funext b k
  unfold sm_ur
  by_cases e : b = a ∧ k = j
  · rw [if_pos e, yc_t ((h b k).mpr (Or.inr e)), e.1, e.2, hq]
  · rw [if_neg e]
    by_cases p : P b k
    · rw [yc_t p, yc_t ((h b k).mpr (Or.inl p))]
    · rw [yc_f p, yc_f (fun q => ((h b k).mp q).elim p e)]
theorem yc_w {P P' : Nat → Nat → Prop} (h1 : ∀ a j, P a j → P' a j) (h2 : ∀ a j, P' a j → P a j ∨ sm_rf (fun _ _ => 0) a j = none) : yc P = yc P' := by
  funext a j
  by_cases p : P a j
  · rw [yc_t p, yc_t (h1 a j p)]
  · rw [yc_f p]
    by_cases q : P' a j
    · rw [yc_t q]
      exact ((h2 a j q).elim (fun z => absurd z p) id).symm
    · rw [yc_f q]
theorem yc_c {P P' : Nat → Nat → Prop} (h : ∀ a j, P a j ↔ P' a j) : yc P = yc P' := yc_w (fun a j => (h a j).mp) (fun a j q => Or.inl ((h a j).mpr q))
theorem sm_introK {l : Launch} {Ω : sm_Ω} {y : MethodName} {cc : ByteArray} {n : Nat} {d M dc ds : Nat} {av : List Value} {X : sm_X} {Y : sm_R} {post : Option Value → sm_X → sm_R → Prop} {own : String} {L : List (Option Value)}
    (hy : plainName y.cls = true) (hown : y.cls = own) (hav : ∀ v ∈ av, v.category = 1) (hn : av.length ≤ n) (hL : av.map some ++ List.replicate (n - av.length) none = L)
    (h : ∀ Γ : sm_Γ, sm_C Γ Ω cc own n (.code y cc n none) → sm_I Γ Ω l none d dc ds (M + dc) post → (sm_s Γ).heap.size = Ω.2.1 + M → sm_O (sm_s Γ) → (sm_me Γ).name = y.name → sm_G Γ Ω M 0 0 0 L [] X Y) : sm_con l Ω y cc n d M dc ds av X Y post := by
  subst hL
  refine Met.ofW (cc := cc) (maxL := n) (ret := none) hy rfl ?_
  intro p e s m args below meth c s₁ B hml hv
  obtain ⟨rfl, ⟨hP, hK, hb, hS⟩, hz, hO⟩ := hv
  have hown' : s.vm.findClass own = some m.cls := by rw [← hown]; exact findClass_of_methodNamed B.named
  rw [lg_entry_eq]
  exact h (p, l, e, _, s, m, _, below, meth, c, _) ⟨⟨B.exec, B.bytes, hml, hown', atoms_spec B.pre⟩, hK, hb, hS, B.notSynchronized⟩ ⟨rfl, rfl, B.returns, rfl⟩ hz hO (name_of_methodNamed B.named B.method).1 _ _ [] (sm_L_in av hav hn) hP va_S.rf
def sm_pF (own : String) (index ci k : Nat) (ty : FieldType) : Prop := ∃ (Cn : String) (T : u_T) (N : Nat) (ty0 : Nat → FieldType), sm_cl[ci]? = some (Cn, T, N) ∧ (∀ w ∈ u_ws Cn T N, w ∈ sm_ws) ∧ k < N ∧ Cond.fieldLink own index (T k).1 (T k).2.1 (T k).2.2.1 ∈ sm_ws ∧
  (∀ k, k < N → parseFieldDescriptor (T k).2.2.1 = some (ty0 k)) ∧ (∀ a, a < N → ∀ b, b < N → a ≠ b → (T a).2.1 ≠ (T b).2.1) ∧ (T k).2.2.2 = true ∧ (T k).1 = own ∧ parseFieldDescriptor (T k).2.2.1 = some ty
section
variable {Γ : sm_Γ} {Ω : sm_Ω} {cc : ByteArray} {own : String} {nL : Nat} {w0 : Cond} {M cs sl pc : Nat} {L : List (Option Value)} {st : List Value} {X : sm_X} {Y : sm_R}
theorem sm_Gn {M' cs' sl' : Nat} (h1 : M = M') (h2 : cs = cs') (h3 : sl = sl') (h : sm_G Γ Ω M' cs' sl' pc L st X Y) : sm_G Γ Ω M cs sl pc L st X Y := by
  subst h1; subst h2; subst h3
  exact h
theorem sg_putFi (C : sm_C Γ Ω cc own nL w0) (hin : (sm_me Γ).name = "<init>") {index ci k : Nat} {ty : FieldType} (hw : sm_pF own index ci k ty) {i v : Nat} {fl : List Bool} (hi : i < M) (hs : sm_sh i = .inl (ci, fl)) (hf : fl[k]? = some false) (hn : narrow ty (.int (nI v)) = .int (nI v)) (hft : fits ty (.int (nI v)) = true) (hd : decode cc pc = .ok (.putfield index, 3)) (kk : sm_G Γ Ω M cs sl (pc + 3) L st (sm_up X i k v) Y) : sm_G Γ Ω M cs sl pc L (.int (nI v) :: .ref (Ω.2.1 + i) :: st) X Y := by
  intro ls H locs hL hP hS
  obtain ⟨Cn, T, N, ty0, hc, hin', hk, hl, hty, hnm, hfin, hdc, hdd⟩ := hw
  refine va_putF C.1.1 C.1.2.1 C.1.2.2.2.2 (fun w h => List.mem_cons_of_mem _ (hin' w h)) ty0 hty hnm C.1.2.2.2.1 C.2.1 hP sm_D hS i (fs := sm_f Ω.2.1 fl (X i) (Y i)) (by rw [sm_at hi, hs]; rfl) hc k hk (C.1.2.2.2.2 _ (List.mem_cons_of_mem _ hl)) (fun _ h => h) hfin hin hdc hdd hn hft (by rw [sm_f_len]; exact (List.getElem?_eq_some_iff.mp hf).1) hd (fun H1 locs1 h1 _ h3 => kk ls H1 locs1 hL ?_ h3)
  rw [sm_f_seti hf, sm_set (X' := sm_up X i k v) (Y' := Y) hi (by rw [hs]; rfl) (fun a ha => ⟨sm_up_o ha, rfl⟩)] at h1
  exact h1
theorem sg_putFr (C : sm_C Γ Ω cc own nL w0) (hin : (sm_me Γ).name = "<init>") {index ci k : Nat} {ty : FieldType} (hw : sm_pF own index ci k ty) {i q : Nat} {fl : List Bool} (hi : i < M) (hs : sm_sh i = .inl (ci, fl)) (hf : fl[k]? = some true) (hn : narrow ty (.ref (Ω.2.1 + q)) = .ref (Ω.2.1 + q)) (hft : fits ty (.ref (Ω.2.1 + q)) = true) {P P' : Nat → Nat → Prop} (hq : sm_rf (fun _ _ => 0) i k = some q) (hPP : ∀ b k', P' b k' ↔ P b k' ∨ (b = i ∧ k' = k)) (hd : decode cc pc = .ok (.putfield index, 3)) (kk : sm_G Γ Ω M cs sl (pc + 3) L st X (yc P')) : sm_G Γ Ω M cs sl pc L (.ref (Ω.2.1 + q) :: .ref (Ω.2.1 + i) :: st) X (yc P) := by
  intro ls H locs hL hP hS
  obtain ⟨Cn, T, N, ty0, hc, hin', hk, hl, hty, hnm, hfin, hdc, hdd⟩ := hw
  refine va_putF C.1.1 C.1.2.1 C.1.2.2.2.2 (fun w h => List.mem_cons_of_mem _ (hin' w h)) ty0 hty hnm C.1.2.2.2.1 C.2.1 hP sm_D hS i (fs := sm_f Ω.2.1 fl (X i) (yc P i)) (by rw [sm_at hi, hs]; rfl) hc k hk (C.1.2.2.2.2 _ (List.mem_cons_of_mem _ hl)) (fun _ h => h) hfin hin hdc hdd hn hft (by rw [sm_f_len]; exact (List.getElem?_eq_some_iff.mp hf).1) hd (fun H1 locs1 h1 _ h3 => kk ls H1 locs1 hL ?_ h3)
  rw [sm_f_setr hf, sm_set (X' := X) (Y' := sm_ur (yc P) i k (some q)) hi (by rw [hs]; rfl) (fun a ha => ⟨rfl, sm_ur_o ha⟩), yc_up hq hPP] at h1
  exact h1
theorem sg_aasty (C : sm_C Γ Ω cc own nL w0) {i n t j q ci : Nat} {fl : List Bool} {cr : vw_C} (hi : i < M) (hs : sm_sh i = .inr (n, t)) (h3 : 3 ≤ t) (ht : (sm_T Ω.2.2.1)[t]? = some (Ω.2.2.1 t, .object cr.1)) (hq : q < M) (hsq : sm_sh q = .inl (ci, fl)) (hc : sm_cl[ci]? = some cr) (hj : j < n) (hn : n < 2 ^ 31) {P P' : Nat → Nat → Prop} (hr : sm_rf (fun _ _ => 0) i j = some q) (hPP : ∀ b k, P' b k ↔ P b k ∨ (b = i ∧ k = j)) (hd : decode cc pc = .ok (.aastore, 1)) (kk : sm_G Γ Ω M cs sl (pc + 1) L st X (yc P')) : sm_G Γ Ω M cs sl pc L (.ref (Ω.2.1 + q) :: .int (nI j) :: .ref (Ω.2.1 + i) :: st) X (yc P) :=
  sg_aast C hi hs h3 ht hq hsq hc hj hn hd (by rw [yc_up hr hPP]; exact kk)
theorem sm_uf_0 {X : sm_X} {M : Nat} (hX : ∀ j, X M j = 0) : sm_uf X M (fun _ => 0) = X := by
  funext a k
  unfold sm_uf
  split
  · rename_i h; rw [h, hX k]
  · rfl
theorem sm_up_0 {X : sm_X} {a j : Nat} (hX : X a j = 0) : sm_up X a j 0 = X := by
  funext b k
  unfold sm_up
  split
  · rename_i h; rw [h.1, h.2, hX]
  · rfl
theorem yc_M {P : Nat → Nat → Prop} {M : Nat} (hY : ∀ j, ¬ P M j) : (fun a => if a = M then fun _ => none else yc P a) = yc P := by
  funext a
  split
  · rename_i h; subst h; funext j; exact (yc_f (hY j)).symm
  · rfl
theorem sg_cewi (C : sm_C Γ Ω cc own nL w0) {n : Nat} (h0 : (sm_s Γ).heap.size + cs = Ω.2.1 + M) (hn : n * 4 ≤ 536870912) (hsh : sm_sh M = .inr (n, 0)) (hX : ∀ j, X M j = 0) (harr : Cond.arrayClass .int ∈ sm_ws) (hcells : cs + 1 ≤ (sm_rm Γ).cells) (hslots : sl + n ≤ (sm_rm Γ).slots) (hd : decode cc pc = .ok (.newarray .int, 2))
    (kk : sm_G Γ Ω (M + 1) (cs + 1) (sl + n) (pc + 2) L (.ref (Ω.2.1 + M) :: st) X Y) : sm_G Γ Ω M cs sl pc L (.int (nI n) :: st) X Y := sg_newi C h0 hn hsh harr hcells hslots hd (by rw [sm_uf_0 hX]; exact kk)
theorem sg_cewb (C : sm_C Γ Ω cc own nL w0) {n : Nat} (h0 : (sm_s Γ).heap.size + cs = Ω.2.1 + M) (hn : n * 4 ≤ 536870912) (hsh : sm_sh M = .inr (n, 1)) (hX : ∀ j, X M j = 0) (harr : Cond.arrayClass .boolean ∈ sm_ws) (hcells : cs + 1 ≤ (sm_rm Γ).cells) (hslots : sl + n ≤ (sm_rm Γ).slots) (hd : decode cc pc = .ok (.newarray .boolean, 2))
    (kk : sm_G Γ Ω (M + 1) (cs + 1) (sl + n) (pc + 2) L (.ref (Ω.2.1 + M) :: st) X Y) : sm_G Γ Ω M cs sl pc L (.int (nI n) :: st) X Y := sg_newb C h0 hn hsh harr hcells hslots hd (by rw [sm_uf_0 hX]; exact kk)
def sm_nw (own : String) (ix ci N : Nat) (fl : List Bool) : Prop := ∃ (Cn : String) (T : u_T) (ty : Nat → FieldType), sm_cl[ci]? = some (Cn, T, N) ∧ fl.length = N ∧ (∀ k, k < N → parseFieldDescriptor (T k).2.2.1 = some (ty k)) ∧ (∀ j, j < N → defaultValue (ty j) = if fl.getD j false = true then .null else .int 0) ∧ (∀ w ∈ u_ws Cn T N, w ∈ sm_ws) ∧ Cond.classLink own ix Cn ∈ sm_ws ∧ Cond.instantiable Cn N ∈ sm_ws ∧ Cond.initialized Cn ∈ sm_ws
theorem sg_cewo (C : sm_C Γ Ω cc own nL w0) {ci N ix : Nat} {fl : List Bool} (h0 : (sm_s Γ).heap.size + cs = Ω.2.1 + M) (hw : sm_nw own ix ci N fl) (hsh : sm_sh M = .inl (ci, fl)) (hX : ∀ j, X M j = 0) {P : Nat → Nat → Prop} (hY : ∀ j, ¬ P M j) (hcells : cs + 1 ≤ (sm_rm Γ).cells) (hslots : sl + N ≤ (sm_rm Γ).slots) (hd : decode cc pc = .ok (.new ix, 3))
    (kk : sm_G Γ Ω (M + 1) (cs + 1) (sl + N) (pc + 3) L (.ref (Ω.2.1 + M) :: st) X (yc P)) : sm_G Γ Ω M cs sl pc L st X (yc P) := by
  obtain ⟨Cn, T, ty, h1, h2, h3, h4, h5, h6, h7, h8⟩ := hw
  exact sg_newo C h0 h1 hsh h2 h3 h4 h5 h6 h7 h8 hcells hslots hd (by rw [sm_uf_0 hX, yc_M hY]; exact kk)
theorem sg_cewq (C : sm_C Γ Ω cc own nL w0) {n t ix : Nat} {Cn : String} (h0 : (sm_s Γ).heap.size + cs = Ω.2.1 + M) (ht : 3 < t) (hT : (sm_T Ω.2.2.1)[t]? = some (Ω.2.2.1 t, .object Cn)) (hn : n * 4 ≤ 536870912) (hsh : sm_sh M = .inr (n, t)) {P : Nat → Nat → Prop} (hY : ∀ j, ¬ P M j) (hcl : Cond.classLink own ix Cn ∈ sm_ws) (hov : va_AO Cn (sm_s Γ)) (hcells : cs + 1 ≤ (sm_rm Γ).cells) (hslots : sl + n ≤ (sm_rm Γ).slots) (hd : decode cc pc = .ok (.anewarray ix, 3))
    (kk : sm_G Γ Ω (M + 1) (cs + 1) (sl + n) (pc + 3) L (.ref (Ω.2.1 + M) :: st) X (yc P)) : sm_G Γ Ω M cs sl pc L (.int (nI n) :: st) X (yc P) :=
  sg_newq C h0 ht hT hn hsh hcl hov hcells hslots hd (by rw [yc_M hY]; exact kk)
theorem sg_ldc (C : sm_C Γ Ω cc own nL w0) {v ix : Nat} (hw : Cond.constant own ix (nI v) ∈ sm_ws) (hd : decode cc pc = .ok (.ldc ix, 2)) (kk : sm_G Γ Ω M cs sl (pc + 2) L (.int (nI v) :: st) X Y) : sm_G Γ Ω M cs sl pc L st X Y := by
  intro ls H locs hL hP hS
  exact lv_ldc C.1.1 C.1.2.1 C.1.2.2.2.1 (C.1.2.2.2.2 _ (List.mem_cons_of_mem _ hw)) hd (kk ls H locs hL hP hS)
theorem sm_Gi {P P' : Nat → Nat → Prop} (h : ∀ a j, P a j ↔ P' a j) (kk : sm_G Γ Ω M cs sl pc L st X (yc P')) : sm_G Γ Ω M cs sl pc L st X (yc P) := by
  rw [yc_c h]
  exact kk
theorem sm_dn (kk : sm_G Γ Ω M cs sl pc L st X Y) : sm_G Γ Ω M cs sl pc L ((none : Option Value).toList ++ st) X Y := kk
/-- the same cells: where there is no reference, or a row of ints -/
theorem sm_Gy {P P' : Nat → Nat → Prop} (h : ∀ a j, a < M → ¬ (P a j ↔ P' a j) → sm_rf (fun _ _ => 0) a j = none ∨ ∃ n, sm_sh a = .inr (n, 0)) (kk : sm_G Γ Ω M cs sl pc L st X (yc P')) : sm_G Γ Ω M cs sl pc L st X (yc P) := by
  have e : sm_W Ω.2.1 Ω.2.2.1 sm_sh M X (yc P') = sm_W Ω.2.1 Ω.2.2.1 sm_sh M X (yc P) := by
    unfold sm_W
    refine List.map_congr_left (fun i hi => ?_)
    by_cases hn : ∃ n, sm_sh i = .inr (n, 0)
    · obtain ⟨n, hn⟩ := hn
      rw [hn]
      rfl
    · have : yc P' i = yc P i := by
        funext j
        by_cases hp : P i j ↔ P' i j
        · by_cases q : P i j
          · rw [yc_t q, yc_t (hp.mp q)]
          · rw [yc_f q, yc_f (fun z => q (hp.mpr z))]
        · have hz := (h i j (List.mem_range.mp hi) hp).elim id (fun z => absurd z hn)
          by_cases q : P i j
          · rw [yc_t q, hz]
            by_cases q' : P' i j
            · rw [yc_t q', hz]
            · rw [yc_f q']
          · rw [yc_f q]
            by_cases q' : P' i j
            · rw [yc_t q', hz]
            · rw [yc_f q']
      rw [this]
  intro ls H locs hL hP hS
  exact kk ls H locs hL (by rw [e]; exact hP) hS
end
/-- new int[64][8], in the making -/
theorem yc_mn {P P' : Nat → Nat → Prop} (h : ∀ b k, P' b k ↔ P b k ∨ (b = 5 ∧ k < 64)) (hP : ∀ j, ¬ P 5 j) : mnY (yc P) 5 64 = yc P' := by
  funext b k
  unfold mnY
  by_cases e : b = 5
  · subst e
    rw [if_pos rfl]
    by_cases q : k < 64
    · rw [if_pos q, yc_t ((h 5 k).mpr (Or.inr ⟨rfl, q⟩)), rf_rows q]
    · rw [if_neg q, yc_f (fun z => ((h 5 k).mp z).elim (hP k) (fun y => q y.2))]
  · rw [if_neg e]
    by_cases p : P b k
    · rw [yc_t p, yc_t ((h b k).mpr (Or.inl p))]
    · rw [yc_f p, yc_f (fun z => ((h b k).mp z).elim p (fun y => e y.1))]
theorem mnX_0 {X : sm_X} {M : Nat} (h : ∀ a j, M ≤ a → X a j = 0) : mnX X M = X := by
  funext a j
  unfold mnX
  split
  · rename_i q; rw [h a j q]
  · rfl
/-! what is not a reference -/
theorem rf_n1 {a j : Nat} {w : Nat → Nat → Nat} (h : a = 2 ∨ a = 3 ∨ (6 ≤ a ∧ a < 71) ∨ (74 ≤ a ∧ a < 79) ∨ (691 ≤ a ∧ a < 703) ∨ 703 < a) : sm_rf w a j = none := by
  unfold sm_rf
  by_cases h6 : a < 6
  · rw [if_pos h6, if_neg (by omega), if_neg (by omega), if_neg (by omega), if_neg (by omega)]
  · rw [if_neg h6]
    by_cases h7 : a < 79
    · rw [if_pos h7, if_neg (by omega), if_neg (by omega), if_neg (by omega)]
    · rw [if_neg h7, if_neg (by omega), if_neg (by omega)]
theorem rf_n2 {j : Nat} {w : Nat → Nat → Nat} (h : 2 ≤ j) : sm_rf w 1 j = none ∧ sm_rf w 4 j = none ∧ sm_rf w 73 j = none := by
  refine ⟨?_, ?_, ?_⟩ <;>
  · show ([some _, some _] : List (Option Nat)).getD j none = none
    rw [List.getD_eq_getElem?_getD, List.getElem?_eq_none (by simpa using h)]
    rfl
theorem rf_n3 {j : Nat} {w : Nat → Nat → Nat} (h : 8 ≤ j) : sm_rf w 0 j = none := by
  show ([some _, some _, some _, some _, some _, some _, some _, some _] : List (Option Nat)).getD j none = none
  rw [List.getD_eq_getElem?_getD, List.getElem?_eq_none (by simpa using h)]
  rfl
theorem rf_n5 {j : Nat} {w : Nat → Nat → Nat} : (64 ≤ j → sm_rf w 5 j = none) ∧ (12 ≤ j → sm_rf w 71 j = none ∧ sm_rf w 72 j = none) := by
  refine ⟨fun h => ?_, fun h => ⟨?_, ?_⟩⟩
  · show (if j < 64 then some (6 + j) else none) = none
    rw [if_neg (by omega)]
  · show (if j < 12 then some (79 + 51 * j) else none) = none
    rw [if_neg (by omega)]
  · show (if j < 12 then some (691 + j) else none) = none
    rw [if_neg (by omega)]
theorem rf_nN {n j : Nat} {w : Nat → Nat → Nat} (hn : n < 12) : (j = 0 ∨ 3 ≤ j → sm_rf w (79 + 51 * n) j = none) ∧ (12 ≤ j → sm_rf w (80 + 51 * n) j = none ∧ sm_rf w (81 + 51 * n) j = none) := by
  refine ⟨fun h => ?_, fun h => ⟨?_, ?_⟩⟩
  · unfold sm_rf
    rw [if_neg (by omega), if_neg (by omega), if_pos (by omega), if_pos (by omega), if_neg (by omega), if_neg (by omega)]
  · unfold sm_rf
    rw [if_neg (by omega), if_neg (by omega), if_pos (by omega), if_neg (by omega), if_pos (by omega), if_neg (by omega)]
  · unfold sm_rf
    rw [if_neg (by omega), if_neg (by omega), if_pos (by omega), if_neg (by omega), if_neg (by omega), if_pos (by omega), if_neg (by omega)]
theorem rf_nS {n i j : Nat} {w : Nat → Nat → Nat} (hn : n < 12) (h1 : 82 + 51 * n ≤ i) (h2 : i < 130 + 51 * n) (h : j ≠ 2) : sm_rf w i j = none := by
  unfold sm_rf
  rw [if_neg (by omega), if_neg (by omega), if_pos (by omega), if_neg (by omega), if_neg (by omega), if_neg (by omega), if_neg h]
theorem rf_nR {j : Nat} {w : Nat → Nat → Nat} (h : j = 0 ∨ j = 2 ∨ j = 4 ∨ 21 ≤ j) : sm_rf w 703 j = none := by
  show ([none, some 704, none, some 705, none, some 706, some 707, some 708, some 709, some 710, some 711, some 712, some 713, some 714, some 715, some 716, some 717, some 718, some 719, some 720, some 721] : List (Option Nat)).getD j none = none
  rcases h with rfl | rfl | rfl | h
  · rfl
  · rfl
  · rfl
  · rw [List.getD_eq_getElem?_getD, List.getElem?_eq_none (by simpa using h)]
    rfl
