/-! The store: a block of cells from the address b on. Names: sm_ -/
abbrev sm_X : Type := Nat → Nat → Nat
abbrev sm_R : Type := Nat → Nat → Option Nat
/-- what a cell is: an object of the class number ci with these slots (true: a reference); or a row: its length and kind (0 int, 1 boolean, 2 long, from 3 on references) -/
abbrev sm_K : Type := (Nat × List Bool) ⊕ (Nat × Nat)
def sm_f (b : Nat) (fl : List Bool) (x : Nat → Nat) (r : Nat → Option Nat) : List Value := (List.range fl.length).map (fun j => if fl.getD j false = true then va_rf ((r j).map (fun i => b + i)) else .int (nI (x j)))
def sm_v (b t : Nat) (x : Nat → Nat) (r : Nat → Option Nat) : (Nat → Int32) ⊕ (Nat → Int64) ⊕ (Nat → UInt32) ⊕ (Nat → UInt64) ⊕ (Nat → Option Nat) :=
  if t < 2 then .inl (fun j => nI (x j)) else if t = 2 then .inr (.inl (fun j => lN (x j))) else .inr (.inr (.inr (.inr (fun j => (r j).map (fun i => b + i)))))
def sm_E (b : Nat) (cA : Nat → ClassId) (k : sm_K) (x : Nat → Nat) (r : Nat → Option Nat) : va_E := match k with
  | .inl o => .inr (o.1, sm_f b o.2 x r)
  | .inr a => .inl (cA a.2, a.1, sm_v b a.2 x r)
def sm_W (b : Nat) (cA : Nat → ClassId) (sh : Nat → sm_K) (M : Nat) (X : sm_X) (Y : sm_R) : va_W := (List.range M).map (fun i => (b + i, sm_E b cA (sh i) (X i) (Y i)))
def sm_up (X : sm_X) (c j v : Nat) : sm_X := fun a k => if a = c ∧ k = j then v else X a k
def sm_ur (Y : sm_R) (c j : Nat) (o : Option Nat) : sm_R := fun a k => if a = c ∧ k = j then o else Y a k
section
variable {b : Nat} {cA : Nat → ClassId} {sh : Nat → sm_K} {M : Nat} {X X' : sm_X} {Y Y' : sm_R}
theorem sm_at {i : Nat} (h : i < M) : (sm_W b cA sh M X Y)[i]? = some (b + i, sm_E b cA (sh i) (X i) (Y i)) := by
  unfold sm_W
  rw [List.getElem?_map, List.getElem?_range h]
  rfl
theorem sm_off {i : Nat} (h : ¬ i < M) : (sm_W b cA sh M X Y)[i]? = none := by
  unfold sm_W
  rw [List.getElem?_map, List.getElem?_eq_none (by rw [List.length_range]; omega)]
  rfl
theorem sm_len : (sm_W b cA sh M X Y).length = M := by
  unfold sm_W
  rw [List.length_map, List.length_range]
theorem sm_set {i : Nat} {e : va_E} (h : i < M) (he : e = sm_E b cA (sh i) (X' i) (Y' i)) (ho : ∀ a, a ≠ i → X' a = X a ∧ Y' a = Y a) : (sm_W b cA sh M X Y).set i (b + i, e) = sm_W b cA sh M X' Y' := by
  subst he
  apply List.ext_getElem?
  intro j
  by_cases ej : j = i
  · subst ej
    rw [List.getElem?_set_self (by rw [sm_len]; exact h), sm_at h]
  · rw [List.getElem?_set_ne (Ne.symm ej)]
    by_cases hj : j < M
    · rw [sm_at hj, sm_at hj, (ho j ej).1, (ho j ej).2]
    · rw [sm_off hj, sm_off hj]
theorem sm_up_o {c j v a : Nat} (h : a ≠ c) : sm_up X c j v a = X a := by
  funext k
  exact if_neg (fun q => h q.1)
theorem sm_up_s {c j v : Nat} : sm_up X c j v c j = v := if_pos ⟨rfl, rfl⟩
theorem sm_up_n {c j v k : Nat} (h : k ≠ j) : sm_up X c j v c k = X c k := if_neg (fun q => h q.2)
theorem sm_ur_o {c j a : Nat} {o : Option Nat} (h : a ≠ c) : sm_ur Y c j o a = Y a := by
  funext k
  exact if_neg (fun q => h q.1)
theorem sm_ur_s {c j : Nat} {o : Option Nat} : sm_ur Y c j o c j = o := if_pos ⟨rfl, rfl⟩
theorem sm_ur_n {c j k : Nat} {o : Option Nat} (h : k ≠ j) : sm_ur Y c j o c k = Y c k := if_neg (fun q => h q.2)
/-- apart, by their numbers -/
theorem sm_D : va_D (fun q => b ≤ q) (sm_W b cA sh M X Y) := by
  have key : ∀ (k : Nat) (q : Nat × va_E), (sm_W b cA sh M X Y)[k]? = some q → q.1 = b + k := by
    intro k q hk
    by_cases hM : k < M
    · rw [sm_at hM] at hk
      cases hk
      rfl
    · rw [sm_off hM] at hk
      cases hk
  refine ⟨fun i j x y hi hj hxy => ?_, fun k q hk => ?_⟩
  · have h1 := key i x hi
    have h2 := key j y hj
    omega
  · show b ≤ q.1
    rw [key k q hk]
    omega
theorem sm_f_len {fl : List Bool} {x : Nat → Nat} {r : Nat → Option Nat} : (sm_f b fl x r).length = fl.length := by
  unfold sm_f
  rw [List.length_map, List.length_range]
theorem sm_f_at {fl : List Bool} {x : Nat → Nat} {r : Nat → Option Nat} {k : Nat} (h : k < fl.length) : (sm_f b fl x r)[k]? = some (if fl.getD k false = true then va_rf ((r k).map (fun i => b + i)) else .int (nI (x k))) := by
  unfold sm_f
  rw [List.getElem?_map, List.getElem?_range h]
  rfl
theorem sm_f_i {fl : List Bool} {x : Nat → Nat} {r : Nat → Option Nat} {k : Nat} (hf : fl[k]? = some false) : (sm_f b fl x r)[k]? = some (.int (nI (x k))) := by
  rw [sm_f_at (List.getElem?_eq_some_iff.mp hf).1, List.getD_eq_getElem?_getD, hf]
  rfl
theorem sm_f_r {fl : List Bool} {x : Nat → Nat} {r : Nat → Option Nat} {k j : Nat} (hf : fl[k]? = some true) (hr : r k = some j) : (sm_f b fl x r)[k]? = some (.ref (b + j)) := by
  rw [sm_f_at (List.getElem?_eq_some_iff.mp hf).1, List.getD_eq_getElem?_getD, hf, hr]
  rfl
theorem sm_f_set {fl : List Bool} {x x' : Nat → Nat} {r r' : Nat → Option Nat} {k : Nat} {v : Value} (h : k < fl.length) (hv : (if fl.getD k false = true then va_rf ((r' k).map (fun i => b + i)) else .int (nI (x' k))) = v) (hx : ∀ j, j ≠ k → x' j = x j) (hr : ∀ j, j ≠ k → r' j = r j) : (sm_f b fl x r).set k v = sm_f b fl x' r' := by
  apply List.ext_getElem?
  intro j
  by_cases e : j = k
  · subst e
    rw [List.getElem?_set_self (by rw [sm_f_len]; exact h), sm_f_at h, hv]
  · rw [List.getElem?_set_ne (Ne.symm e)]
    by_cases hj : j < fl.length
    · rw [sm_f_at hj, sm_f_at hj, hx j e, hr j e]
    · rw [List.getElem?_eq_none (by rw [sm_f_len]; omega), List.getElem?_eq_none (by rw [sm_f_len]; omega)]
theorem sm_f_seti {fl : List Bool} {k v c : Nat} (hf : fl[k]? = some false) : (sm_f b fl (X c) (Y c)).set k (.int (nI v)) = sm_f b fl (sm_up X c k v c) (Y c) := by
  refine sm_f_set (List.getElem?_eq_some_iff.mp hf).1 ?_ (fun j hj => sm_up_n hj) (fun _ _ => rfl)
  rw [List.getD_eq_getElem?_getD, hf, sm_up_s]
  rfl
theorem sm_f_setr {fl : List Bool} {k c q : Nat} (hf : fl[k]? = some true) : (sm_f b fl (X c) (Y c)).set k (.ref (b + q)) = sm_f b fl (X c) (sm_ur Y c k (some q) c) := by
  refine sm_f_set (List.getElem?_eq_some_iff.mp hf).1 ?_ (fun _ _ => rfl) (fun j hj => sm_ur_n hj)
  rw [List.getD_eq_getElem?_getD, hf, sm_ur_s]
  rfl
end
/-! the locals as a list: none where nothing is known -/
def sm_l : Nat → List (Option Value) → List (Nat × Value)
  | _, [] => []
  | k, none :: r => sm_l (k + 1) r
  | k, some v :: r => (k, v) :: sm_l (k + 1) r
def sm_L (ls : Array Slot) (L : List (Option Value)) : Prop := lv_has ls L.length (sm_l 0 L) ∧ ∀ v, some v ∈ L → v.category = 1
theorem sm_l_in {v : Value} : ∀ (L : List (Option Value)) (i k : Nat), L[k]? = some (some v) → (i + k, v) ∈ sm_l i L
  | [], _, _, h => by simp at h
  | none :: r, i, 0, h => by simp at h
  | some u :: r, i, 0, h => by
    rw [List.getElem?_cons_zero] at h
    cases h
    exact List.mem_cons_self
  | none :: r, i, k + 1, h => by
    rw [List.getElem?_cons_succ] at h
    have := sm_l_in r (i + 1) k h
    rw [show i + (k + 1) = i + 1 + k by omega]
    exact this
  | some u :: r, i, k + 1, h => by
    rw [List.getElem?_cons_succ] at h
    have := sm_l_in r (i + 1) k h
    rw [show i + (k + 1) = i + 1 + k by omega]
    exact List.mem_cons_of_mem _ this
theorem sm_l_of {q : Nat × Value} : ∀ (L : List (Option Value)) (i : Nat), q ∈ sm_l i L → i ≤ q.1 ∧ some q.2 ∈ L
  | [], _, h => by cases h
  | none :: r, i, h => by
    have := sm_l_of r (i + 1) h
    exact ⟨by omega, List.mem_cons_of_mem _ this.2⟩
  | some u :: r, i, h => by
    rcases List.mem_cons.mp h with rfl | h
    · exact ⟨Nat.le_refl _, List.mem_cons_self⟩
    · have := sm_l_of r (i + 1) h
      exact ⟨by omega, List.mem_cons_of_mem _ this.2⟩
theorem sm_l_set {v : Value} {q : Nat × Value} : ∀ (L : List (Option Value)) (i k : Nat), q ∈ sm_l i (L.set k (some v)) → q = (i + k, v) ∨ (q ∈ sm_l i L ∧ q.1 ≠ i + k)
  | [], _, _, h => by cases h
  | u :: r, i, 0, h => by
    rw [List.set_cons_zero] at h
    rcases List.mem_cons.mp h with rfl | h
    · exact Or.inl rfl
    · have h2 := sm_l_of r (i + 1) h
      refine Or.inr ⟨?_, by omega⟩
      cases u with
      | none => exact h
      | some u => exact List.mem_cons_of_mem _ h
  | u :: r, i, k + 1, h => by
    rw [List.set_cons_succ] at h
    cases u with
    | none =>
      rcases sm_l_set r (i + 1) k h with h | ⟨h1, h2⟩
      · exact Or.inl (by rw [h, show i + 1 + k = i + (k + 1) by omega])
      · exact Or.inr ⟨h1, by omega⟩
    | some u =>
      rcases List.mem_cons.mp h with rfl | h
      · exact Or.inr ⟨List.mem_cons_self, by show i ≠ i + (k + 1); omega⟩
      · rcases sm_l_set r (i + 1) k h with h | ⟨h1, h2⟩
        · exact Or.inl (by rw [h, show i + 1 + k = i + (k + 1) by omega])
        · exact Or.inr ⟨List.mem_cons_of_mem _ h1, by omega⟩
theorem sm_L.at {ls : Array Slot} {L : List (Option Value)} (h : sm_L ls L) {k : Nat} {v : Value} (hk : L[k]? = some (some v)) : ls[k]? = some (.val v) := by
  have := h.1.2.2 _ (sm_l_in L 0 k hk)
  rwa [Nat.zero_add] at this
theorem sm_L.set {ls : Array Slot} {L : List (Option Value)} {k : Nat} {v : Value} (h : ∀ u, some u ∈ L → u.category = 1) (hv : v.category = 1) (h1 : lv_has ls L.length ((k, v) :: (sm_l 0 L).filter (fun q => !(q.1 == k) && !(q.1 + 1 == k && q.2.category == 2)))) : sm_L ls (L.set k (some v)) := by
  refine ⟨⟨by rw [List.length_set]; exact h1.1, h1.2.1, fun q hq => h1.2.2 q ?_⟩, fun u hu => ?_⟩
  · rcases sm_l_set L 0 k hq with rfl | ⟨h2, h3⟩
    · rw [Nat.zero_add]; exact List.mem_cons_self
    · refine List.mem_cons_of_mem _ (List.mem_filter.mpr ⟨h2, ?_⟩)
      have h4 := h _ (sm_l_of L 0 h2).2
      rw [Nat.zero_add] at h3
      simp [h3, h4]
  · rcases List.mem_or_eq_of_mem_set hu with h2 | h2
    · exact h u h2
    · cases h2; exact hv
theorem sm_sl {av : List Value} (h : ∀ v ∈ av, v.category = 1) : lg_sl av = av.map Slot.val := by
  induction av with
  | nil => rfl
  | cons v r ih =>
    have h1 := h v List.mem_cons_self
    have h2 := ih (fun u hu => h u (List.mem_cons_of_mem _ hu))
    unfold lg_sl at h2 ⊢
    rw [List.flatMap_cons, h2, if_neg (by omega)]
    rfl
theorem sm_L_in (av : List Value) {n : Nat} (h : ∀ v ∈ av, v.category = 1) (hn : av.length ≤ n) : sm_L ((lg_sl av ++ List.replicate (n - (lg_sl av).length) Slot.unset).toArray) (av.map some ++ List.replicate (n - av.length) none) := by
  have e := sm_sl h
  have hl := lv_entry av (n := n) (by rw [e, List.length_map]; exact hn)
  refine ⟨⟨?_, hl.2.1, fun q hq => ?_⟩, fun v hv => ?_⟩
  · rw [hl.1, List.length_append, List.length_map, List.length_replicate]; omega
  · have h2 : ∀ (l : List (Option Value)) (i : Nat) (q : Nat × Value), q ∈ sm_l i l → ∃ k, q.1 = i + k ∧ l[k]? = some (some q.2) := by
      intro l
      induction l with
      | nil => intro i q h; cases h
      | cons u r ih =>
        intro i q h
        cases u with
        | none =>
          obtain ⟨k, h1, h2⟩ := ih (i + 1) q h
          exact ⟨k + 1, by omega, by rw [List.getElem?_cons_succ]; exact h2⟩
        | some u =>
          rcases List.mem_cons.mp h with rfl | h
          · exact ⟨0, rfl, rfl⟩
          · obtain ⟨k, h1, h2⟩ := ih (i + 1) q h
            exact ⟨k + 1, by omega, by rw [List.getElem?_cons_succ]; exact h2⟩
    obtain ⟨k, h3, h4⟩ := h2 _ 0 q hq
    rw [Nat.zero_add] at h3
    rw [h3, e, List.getElem?_toArray]
    by_cases hk : k < av.length
    · rw [List.getElem?_append_left (by rw [List.length_map]; exact hk), List.getElem?_map] at h4
      rw [List.getElem?_append_left (by rw [List.length_map]; exact hk), List.getElem?_map]
      rw [List.getElem?_eq_getElem hk] at h4 ⊢
      simp at h4 ⊢
      exact h4
    · rw [List.getElem?_append_right (by rw [List.length_map]; omega)] at h4
      have := List.eq_of_mem_replicate (List.mem_of_getElem? h4)
      cases this
  · rcases List.mem_append.mp hv with h1 | h1
    · obtain ⟨u, hu, hq⟩ := List.mem_map.mp h1
      cases hq
      exact h _ hu
    · have := List.eq_of_mem_replicate h1
      cases this
