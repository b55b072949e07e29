/-! A method's frame over the store: what its rows need (sm_C), where it stands (sm_G), its contract (sm_met) -/
abbrev sm_Ω : Type := va_G × Nat × (Nat → ClassId) × Nat × Nat
abbrev sm_Γ : Type := Program × Launch × Env × Room × State × MethodId × Array Value × List Frame × Method × Code × (State → Prop)
abbrev sm_p (Γ : sm_Γ) : Program := Γ.1
abbrev sm_la (Γ : sm_Γ) : Launch := Γ.2.1
abbrev sm_e (Γ : sm_Γ) : Env := Γ.2.2.1
abbrev sm_rm (Γ : sm_Γ) : Room := Γ.2.2.2.1
abbrev sm_s (Γ : sm_Γ) : State := Γ.2.2.2.2.1
abbrev sm_m (Γ : sm_Γ) : MethodId := Γ.2.2.2.2.2.1
abbrev sm_ar (Γ : sm_Γ) : Array Value := Γ.2.2.2.2.2.2.1
abbrev sm_bl (Γ : sm_Γ) : List Frame := Γ.2.2.2.2.2.2.2.1
abbrev sm_me (Γ : sm_Γ) : Method := Γ.2.2.2.2.2.2.2.2.1
abbrev sm_c (Γ : sm_Γ) : Code := Γ.2.2.2.2.2.2.2.2.2.1
abbrev sm_q (Γ : sm_Γ) : State → Prop := Γ.2.2.2.2.2.2.2.2.2.2
abbrev sm_w (Γ : sm_Γ) (H : Heap) (locs : List Loc) (cs sl : Nat) (g : JFrame) : Prop := W (sm_p Γ) (sm_la Γ) (sm_e Γ) (sm_rm Γ) (sm_s Γ) (sm_m Γ) (sm_ar Γ) (sm_bl Γ) (sm_me Γ) (sm_c Γ) H locs cs sl (sm_q Γ) g
abbrev eIO : String := "java/lang/IndexOutOfBoundsException"
abbrev eIA : String := "java/lang/IllegalArgumentException"
abbrev eIS : String := "java/lang/IllegalStateException"
abbrev eUO : String := "java/lang/UnsupportedOperationException"
abbrev eNS : String := "java/util/NoSuchElementException"
def sm_exs : List String := [eIO, eIA, eIS, eUO, eNS]
/-- what nobody writes: the two tables, and the one private member that a nest mate calls -/
def sm_S (Ω : sm_Ω) (U : State) (H : Heap) : Prop :=
  va_Z sm_RM "ROW_OF" "[I" (.ref Ω.2.2.2.1) (fun q => Ω.2.1 ≤ q) U H ∧ va_T .int Ω.2.2.2.1 30 (fun j => .int (nI (sm_row j))) (fun q => Ω.2.1 ≤ q) U H ∧
  va_Z sm_RM "COLUMN_OF" "[I" (.ref Ω.2.2.2.2) (fun q => Ω.2.1 ≤ q) U H ∧ va_T .int Ω.2.2.2.2 30 (fun j => .int (nI (sm_col j))) (fun q => Ω.2.1 ≤ q) U H ∧ va_Nw sm_nest U ∧
  vx_Zq Bundle.tN "UNASSIGNED_STACK" Bundle.steD (fun q => Ω.2.1 ≤ q) U H ∧ vx_Zq Bundle.tN "SUPPRESSED_SENTINEL" Bundle.listD (fun q => Ω.2.1 ≤ q) U H ∧ va_Nw (.declares (Bundle.init0 "java/lang/RuntimeException")) U ∧ va_Nw (.declares (Bundle.init0 "java/lang/Exception")) U ∧ va_Nw (.declares (Bundle.init0 Bundle.tN)) U ∧ ∀ E ∈ sm_exs, va_Nw (.castable E E) U
theorem sm_S.to {Ω : sm_Ω} {u U : State} {H H1 : Heap} (h : sm_S Ω u H) (hW : u.WarmedH U.vm) (hq : ∀ a : Nat, a < H.size → ¬ Ω.2.1 ≤ a → H1[a]? = H[a]?) : sm_S Ω U H1 :=
  ⟨(h.1.moved hW.alike).kept hq, (h.2.1.moved hW.alike).kept hq, (h.2.2.1.moved hW.alike).kept hq, (h.2.2.2.1.moved hW.alike).kept hq, va_Nw.warmM hW h.2.2.2.2.1, (h.2.2.2.2.2.1.moved hW.alike).kept hq, (h.2.2.2.2.2.2.1.moved hW.alike).kept hq, va_Nw.warmD hW h.2.2.2.2.2.2.2.1, va_Nw.warmD hW h.2.2.2.2.2.2.2.2.1, va_Nw.warmD hW h.2.2.2.2.2.2.2.2.2.1, fun E hE => va_Nw.warmC hW (h.2.2.2.2.2.2.2.2.2.2 E hE)⟩
theorem sm_S.same {Ω : sm_Ω} {u U : State} {H : Heap} (h : sm_S Ω u H) (hv : u.vm = U.vm) : sm_S Ω U H :=
  ⟨h.1.moved (hv ▸ Vm.Alike.refl u.vm), h.2.1.moved (hv ▸ Vm.Alike.refl u.vm), h.2.2.1.moved (hv ▸ Vm.Alike.refl u.vm), h.2.2.2.1.moved (hv ▸ Vm.Alike.refl u.vm), h.2.2.2.2.1.same rfl hv, h.2.2.2.2.2.1.moved (hv ▸ Vm.Alike.refl u.vm), h.2.2.2.2.2.2.1.moved (hv ▸ Vm.Alike.refl u.vm), h.2.2.2.2.2.2.2.1.same rfl hv, h.2.2.2.2.2.2.2.2.1.same rfl hv, h.2.2.2.2.2.2.2.2.2.1.same rfl hv, fun E hE => (h.2.2.2.2.2.2.2.2.2.2 E hE).same rfl hv⟩
def sm_C (Γ : sm_Γ) (Ω : sm_Ω) (cc : ByteArray) (own : String) (nL : Nat) (w0 : Cond) : Prop :=
  CallFix (sm_p Γ) (sm_m Γ) (sm_c Γ) cc nL (sm_s Γ) (sm_ar Γ) (w0 :: sm_ws) own ∧ va_K Ω.1 sm_cl (sm_T Ω.2.2.1) (sm_s Γ) ∧ Ω.2.1 ≤ (sm_s Γ).heap.size ∧ sm_S Ω (sm_s Γ) (sm_s Γ).heap ∧ (sm_me Γ).locks = false
def sm_G (Γ : sm_Γ) (Ω : sm_Ω) (M cs sl pc : Nat) (L : List (Option Value)) (st : List Value) (X : sm_X) (Y : sm_R) : Prop :=
  ∀ (ls : Array Slot) (H : Heap) (locs : List Loc), sm_L ls L → va_P Ω.1 sm_cl (sm_W Ω.2.1 Ω.2.2.1 sm_sh M X Y) H → va_S (fun q => Ω.2.1 ≤ q) (sm_s Γ).heap H locs → sm_w Γ H locs cs sl (F0 (sm_m Γ) pc ls st)
/-- the world at a method's start and end -/
def sm_B (Ω : sm_Ω) (M : Nat) (X : sm_X) (Y : sm_R) (U : State) : Prop :=
  va_P Ω.1 sm_cl (sm_W Ω.2.1 Ω.2.2.1 sm_sh M X Y) U.heap ∧ va_K Ω.1 sm_cl (sm_T Ω.2.2.1) U ∧ Ω.2.1 ≤ U.heap.size ∧ sm_S Ω U U.heap
def sm_Q (Ω : sm_Ω) (M : Nat) (post : Option Value → sm_X → sm_R → Prop) : Array Value → State → Outcome → State → Prop := fun _ st oc t =>
  (∃ (v : Option Value) (X : sm_X) (Y : sm_R), oc = .returned v ∧ post v X Y ∧ sm_B Ω M X Y t) ∧ va_F (fun q => Ω.2.1 ≤ q) st t
abbrev sm_room (d mc ms : Nat) : Room := { frames := d, cells := mc, slots := ms, locals := 30 * d }
def sm_met (l : Launch) (Ω : sm_Ω) (y : MethodName) (cc : ByteArray) (n : Nat) (ret : Option FieldType) (d M : Nat) (av : List Value) (X : sm_X) (Y : sm_R) (post : Option Value → sm_X → sm_R → Prop) : Prop :=
  Met l y (.code y cc n ret :: sm_ws) (sm_room d 0 0) (va_Pc av (sm_B Ω M X Y)) (sm_Q Ω M post) 0 0 (fun q => Ω.2.1 ≤ q)
/-- inside a method: what is known of it -/
def sm_I (Γ : sm_Γ) (Ω : sm_Ω) (l : Launch) (ret : Option FieldType) (d mc ms M : Nat) (post : Option Value → sm_X → sm_R → Prop) : Prop :=
  sm_la Γ = l ∧ sm_rm Γ = sm_room d mc ms ∧ (sm_me Γ).sig.returnType = ret ∧ sm_q Γ = MQ (sm_bl Γ) (sm_Q Ω M post) (sm_ar Γ) (sm_s Γ) mc ms (fun q => Ω.2.1 ≤ q)
theorem sm_intro {l : Launch} {Ω : sm_Ω} {y : MethodName} {cc : ByteArray} {n : Nat} {ret : Option FieldType} {d M : Nat} {av : List Value} {X : sm_X} {Y : sm_R} {post : Option Value → sm_X → sm_R → Prop} {own : String} {L : List (Option Value)}
    (hy : plainName y.cls = true) (hown : y.cls = own) (hav : ∀ v ∈ av, v.category = 1) (hn : av.length ≤ n) (hL : av.map some ++ List.replicate (n - av.length) none = L)
    (h : ∀ Γ : sm_Γ, sm_C Γ Ω cc own n (.code y cc n ret) → sm_I Γ Ω l ret d 0 0 M post → sm_G Γ Ω M 0 0 0 L [] X Y) : sm_met l Ω y cc n ret d M av X Y post := by
  subst hL
  refine Met.ofW (cc := cc) (maxL := n) (ret := ret) hy rfl ?_
  intro p e s m args below meth c s₁ B hml hv
  obtain ⟨rfl, hP, hK, hb, hS⟩ := hv
  have hown' : s.vm.findClass own = some m.cls := by rw [← hown]; exact findClass_of_methodNamed B.named
  rw [lg_entry_eq]
  exact h (p, l, e, _, s, m, _, below, meth, c, _) ⟨⟨B.exec, B.bytes, hml, hown', atoms_spec B.pre⟩, hK, hb, hS, B.notSynchronized⟩ ⟨rfl, rfl, B.returns, rfl⟩ _ _ [] (sm_L_in av hav hn) hP va_S.rf
section
variable {Γ : sm_Γ} {Ω : sm_Ω} {cc : ByteArray} {own : String} {nL : Nat} {w0 : Cond} {M cs sl pc : Nat} {L : List (Option Value)} {st : List Value} {X : sm_X} {Y : sm_R} {l : Launch} {ret : Option FieldType} {d mc ms : Nat} {post : Option Value → sm_X → sm_R → Prop}
theorem sm_B_of (C : sm_C Γ Ω cc own nL w0) {t : State} {H : Heap} {locs : List Loc} (hP : va_P Ω.1 sm_cl (sm_W Ω.2.1 Ω.2.2.1 sm_sh M X Y) H) (hS : va_S (fun q => Ω.2.1 ≤ q) (sm_s Γ).heap H locs) (ht : t.heap = H) (hW : (sm_s Γ).WarmedH t.vm) : sm_B Ω M X Y t :=
  ⟨by rw [ht]; exact hP, va_K.moved hW.alike C.2.1, by rw [ht]; exact Nat.le_trans C.2.2.1 hS.1, by rw [ht]; exact C.2.2.2.1.to hW hS.2.1⟩
theorem sg_iret (C : sm_C Γ Ω cc own nL w0) (I : sm_I Γ Ω l ret d cs sl M post) {v : Int32} {ty : FieldType} (hr : ret = some ty) (hn : narrow ty (.int v) = .int v) (hd : decode cc pc = .ok (.ireturn, 1)) (hp : post (some (.int v)) X Y) : sm_G Γ Ω M cs sl pc L [.int v] X Y := by
  intro ls H locs hL hP hS
  obtain ⟨-, -, h3, h4⟩ := I
  unfold sm_w
  rw [h4]
  exact W.zret C.1.1 C.1.2.1 (h3.trans hr) hn (fun t ht hW => ⟨⟨_, X, Y, rfl, hp, sm_B_of C hP hS ht hW⟩, hS.F ht⟩) hS.2.2 hd C.2.2.2.2
theorem sg_vret (C : sm_C Γ Ω cc own nL w0) (I : sm_I Γ Ω l ret d cs sl M post) (hr : ret = none) (hd : decode cc pc = .ok (.return_, 1)) (hp : post none X Y) : sm_G Γ Ω M cs sl pc L [] X Y := by
  intro ls H locs hL hP hS
  obtain ⟨-, -, h3, h4⟩ := I
  unfold sm_w
  rw [h4]
  exact W.vret C.1.1 C.1.2.1 (h3.trans hr) (fun t ht hW => ⟨⟨_, X, Y, rfl, hp, sm_B_of C hP hS ht hW⟩, hS.F ht⟩) hS.2.2 hd C.2.2.2.2
end
