/-! Each call: class and reference agree -/
def lstp (Wc : Nat → Nat → (Option Value → sm_X → sm_R → Prop) → Prop) (Rc : sm_X → (Nat → Nat → Nat) → (Option Value → sm_X → sm_R → Prop) → Prop) (ans : Option Value → sm_X → Nat → Prop) (K : Nat) : Prop :=
  ∃ (k mc ms : Nat) (pw : Option Value → sm_X → sm_R → Prop), k < 6 ∧ mc ≤ 1 ∧ ms ≤ 6 ∧ Wc mc ms pw ∧ ∀ v X1 Y1, pw v X1 Y1 → v = some (.int (nI k)) ∧ ∃ w1, Y1 = sm_rf w1 ∧ ∃ pr, Rc X1 w1 pr ∧ ∀ r X2 Y2, pr r X2 Y2 → Y2 = sm_rf w1 ∧ X2 703 0 = k ∧ (∃ CT LN, sim X2 X2 w1 CT LN (K + 1)) ∧ ans r X2 k
def ansV (r : Option Value) (_ : sm_X) (_ : Nat) : Prop := r = none
def ansI (r : Option Value) (X2 : sm_X) (k : Nat) : Prop := ∃ y : Int32, r = some (.int y) ∧ (k = 0 → y.toInt64 = lN (X2 722 0))
def ansB (r : Option Value) (X2 : sm_X) (k : Nat) : Prop := ∃ b, b < 2 ∧ r = some (.int (nI b)) ∧ (k = 0 → X2 722 0 = b)
section
variable {Wc : Nat → Nat → (Option Value → sm_X → sm_R → Prop) → Prop} {Rc : sm_X → (Nat → Nat → Nat) → (Option Value → sm_X → sm_R → Prop) → Prop} {ans : Option Value → sm_X → Nat → Prop} {X : sm_X} {w : Nat → Nat → Nat} {CT : Nat → Nat → Nat → Nat} {LN : Nat → Nat → Nat} {K : Nat}
theorem lstp_x (h : sim X X w CT LN K) {k : Nat} (hk : k < 6) (hk0 : k ≠ 0) {r : Option Value} (hw : Wc 1 6 (sm_det (some (.int (nI k))) X (sm_rf w))) (hr : Rc X w (sm_det r (sm_up X 703 0 k) (sm_rf w))) (ha : ∀ X2, ans r X2 k) : lstp Wc Rc ans K := by
  refine ⟨k, 1, 6, _, hk, Nat.le_refl 1, Nat.le_refl 6, hw, ?_⟩
  rintro v X1 Y1 ⟨rfl, rfl, rfl⟩
  refine ⟨rfl, w, rfl, _, hr, ?_⟩
  rintro r' X2 Y2 ⟨rfl, rfl, rfl⟩
  exact ⟨rfl, sm_up_s, ⟨CT, LN, pr_same h (Nat.le_succ K) (fun a j h1 h2 => sm_up_x (by omega))⟩, ha _⟩
theorem lstp_s (h : sim X X w CT LN K) {y : Int32} (hw : Wc 0 0 (fun r X2 Y2 => r = some (.int (nI 0)) ∧ ∃ y' X1, sm_det (some (.int y)) X (sm_rf w) (some (.int y')) X1 Y2 ∧ X2 = sm_up X1 722 0 (lI y')))
    (hr : Rc (sm_up X 722 0 (lI y)) w (sm_det (some (.int y)) (sm_up (sm_up X 722 0 (lI y)) 703 0 0) (sm_rf w))) : lstp Wc Rc ansI K := by
  refine ⟨0, 0, 0, _, by decide, by decide, by decide, hw, ?_⟩
  rintro v X1 Y1 ⟨rfl, y', X1c, ⟨e0, rfl, rfl⟩, rfl⟩
  injection e0 with e0
  injection e0 with e0
  subst e0
  refine ⟨rfl, w, rfl, _, hr, ?_⟩
  rintro r' X2 Y2 ⟨rfl, rfl, rfl⟩
  exact ⟨rfl, sm_up_s, ⟨CT, LN, pr_same h (Nat.le_succ K) (fun a j h1 h2 => by rw [sm_up_x (by omega), sm_up_x (Or.inl (by omega))])⟩, _, rfl, fun _ => by rw [sm_up_x (Or.inl (by decide)), sm_up_s]; exact lI_l _⟩
end
theorem hp_v {y : Int32} {X : sm_X} {Y : sm_R} : ∀ r X2 Y2, sm_det (some (.int y)) X Y r X2 Y2 → ∃ y' : Int32, r = some (.int y') := by
  rintro r X2 Y2 ⟨rfl, -, -⟩
  exact ⟨y, rfl⟩
theorem hp_n {X : sm_X} {Y : sm_R} : ∀ r X2 Y2, sm_det none X Y r X2 Y2 → r = none := fun _ _ _ h => h.1
theorem up722 {X : sm_X} {b a j : Nat} (h : a ≠ 722) : sm_up X 722 0 b a j = X a j := sm_up_x (Or.inl h)
theorem sim_722 {X : sm_X} {w : Nat → Nat → Nat} {CT : Nat → Nat → Nat → Nat} {LN : Nat → Nat → Nat} {K b : Nat} (h : sim X X w CT LN K) : sim (sm_up X 722 0 b) (sm_up X 722 0 b) w CT LN K := pr_same h (Nat.le_refl K) (fun a j _ h2 => up722 (by omega))
theorem rpE_t {X : sm_X} {o n m : Nat} : rpE X o n m 703 0 = 0 ∧ rpE X o n m 722 0 = X 722 0 := by
  have e1 : rpZ X o n m 703 0 = 0 := by
    unfold rpZ
    rw [rq2_o (by decide) (by decide) (by decide) (by decide), rq1_o (by decide) (by decide) (by decide)]
    unfold rpA
    rw [sm_up_n (by decide), sm_up_x (Or.inl (by decide)), sm_up_x (Or.inl (by decide))]
    exact sm_up_s
  have e2 : rpZ X o n m 722 0 = X 722 0 := rpZ_o (by decide) (by decide) (by decide) (by decide) (by decide) (by decide) (by decide) (by decide) (by decide)
  unfold rpE
  split
  · rw [sm_up_x (Or.inl (by decide)), sm_up_x (Or.inl (by decide)), sm_up_x (Or.inl (by decide)), sm_up_x (Or.inl (by decide)), sm_up_x (Or.inl (by decide)), sm_up_x (Or.inl (by decide))]
    exact ⟨e1, e2⟩
  · rw [sm_up_x (Or.inl (by decide)), sm_up_x (Or.inl (by decide))]
    exact ⟨e1, e2⟩
theorem rst_t {X : sm_X} {o : Nat} {c : Bool} : ∀ k, rst X o c k 703 0 = 0
  | 0 => sm_up_s
  | k + 1 => by
    have ih := rst_t (X := X) (o := o) (c := c) k
    show (if rlv X k = true then sm_up (if (c && decide (X 716 (12 * k + o) = X 708 o)) = true then rsn (rst X o c k) k o else rst X o c k) 716 (12 * k + o) 0 else rst X o c k) 703 0 = 0
    split
    · rw [sm_up_x (Or.inl (by decide))]
      split
      · rw [rsn_o (by decide) (by decide) (by decide) (by decide)]; exact ih
      · exact ih
    · exact ih
theorem rsE_t {X : sm_X} {o : Nat} : rsE X o 703 0 = 0 ∧ rsE X o 722 0 = X 722 0 := by
  unfold rsE
  split
  · rw [sm_up_x (Or.inl (by decide)), sm_up_x (Or.inl (by decide)), sm_up_x (Or.inl (by decide)), sm_up_x (Or.inl (by decide)), sm_up_x (Or.inl (by decide)), sm_up_x (Or.inl (by decide))]
    exact ⟨rst_t 12, rst_o (by decide) (by decide) (by decide) (by decide) (by decide) 12⟩
  · rw [sm_up_x (Or.inl (by decide)), sm_up_x (Or.inl (by decide))]
    exact ⟨rst_t 12, rst_o (by decide) (by decide) (by decide) (by decide) (by decide) 12⟩
theorem rbk_t {X : sm_X} {n e : Nat} : ∀ k, rbk X n e k 703 0 = 0
  | 0 => (sm_up_x (Or.inl (by decide))).trans sm_up_s
  | k + 1 => by
    have ih := rbk_t (X := X) (n := n) (e := e) k
    show (if e = 0 then sm_up (rbk X n e k) 716 (12 * n + k) 0 else sm_up (sm_up (sm_up (rbk X n e k) 716 (12 * n + k) 0) 713 (12 * n + k) 0) 714 (12 * n + k) 0) 703 0 = 0
    split
    · rw [sm_up_x (Or.inl (by decide))]; exact ih
    · rw [sm_up_x (Or.inl (by decide)), sm_up_x (Or.inl (by decide)), sm_up_x (Or.inl (by decide))]; exact ih
theorem mpt_le {X : sm_X} {a : Nat} : mpt X a ≤ a := by
  unfold mpt
  split
  · exact Nat.le_refl a
  · split <;> omega

theorem st_load (l : Launch) (hl : l.stackTraces = false) (Ω : sm_Ω) {X : sm_X} {w : Nat → Nat → Nat} {CT : Nat → Nat → Nat → Nat} {LN : Nat → Nat → Nat} {K : Nat} (h : sim X X w CT LN K) (hK : K < 2 ^ 20) (x z : Int32) : lstp (fun mc ms pw => sm_wm l Ω y_L_load b_L_load 4 [(0, 6, 9, 13)] 8 mc ms [.ref (Ω.2.1 + 0), .int x, .int z] X (sm_rf w) pw) (fun X1 w1 pr => sm_met l Ω y_R_load b_R_load 4 none 2 723 [.ref (Ω.2.1 + 703), .int x, .int z] X1 (sm_rf w1) pr) ansV K := by
  have hs := sim_swf h hK
  have hr := sim_rwf h hK
  rcases sn_dec x (n := 60) (by decide) with hx | ⟨i, hi, rfl⟩
  · exact lstp_x h (k := 1) (by decide) (by decide) (w_load_x1 l Ω (by decide) (x_S_load l hl Ω hx)) (c_R_loadX l Ω hx) (fun _ => rfl)
  · obtain ⟨N, hN, rfl⟩ : ∃ N, N < 2 ^ 32 ∧ z = nI N := ⟨_, z.toBitVec.isLt, sn_all z⟩
    refine ⟨0, 0, 0, _, by decide, by decide, by decide, w_load l Ω (by decide) (c_S_load l Ω hi hN) hp_n, ?_⟩
    rintro v X1 Y1 ⟨rfl, -, e1, rfl⟩
    refine ⟨rfl, w, rfl, _, c_R_load l Ω hi hN, ?_⟩
    rintro r X2 Y2 ⟨rfl, e2, rfl⟩
    exact ⟨rfl, by rw [e2, sm_uf_o (by decide)]; exact sm_up_s, ⟨CT, LN, pr_load h (Nat.le_succ K) hi e1 e2⟩, rfl⟩

theorem st_cut (l : Launch) (hl : l.stackTraces = false) (Ω : sm_Ω) {X : sm_X} {w : Nat → Nat → Nat} {CT : Nat → Nat → Nat → Nat} {LN : Nat → Nat → Nat} {K : Nat} (h : sim X X w CT LN K) (hK : K < 2 ^ 20) (x : Int32) : lstp (fun mc ms pw => sm_wm l Ω y_L_cut b_L_cut 3 [(0, 5, 8, 19)] 8 mc ms [.ref (Ω.2.1 + 0), .int x] X (sm_rf w) pw) (fun X1 w1 pr => sm_met l Ω y_R_cut b_R_cut 2 none 2 723 [.ref (Ω.2.1 + 703), .int x] X1 (sm_rf w1) pr) ansV K := by
  have hs := sim_swf h hK
  have hr := sim_rwf h hK
  rcases sn_dec x (n := 24) (by decide) with hx | ⟨q, hq, rfl⟩
  · exact lstp_x h (k := 1) (by decide) (by decide) (w_cut_x1 l Ω (by decide) (x_S_cut l hl Ω hx)) (c_R_cutX l Ω hx) (fun _ => rfl)
  · refine ⟨0, 0, 0, _, by decide, by decide, by decide, w_cut l Ω (by decide) (c_S_cut l Ω hq) hp_n, ?_⟩
    rintro v X1 Y1 ⟨rfl, -, e1, rfl⟩
    refine ⟨rfl, w, rfl, _, c_R_cut l Ω hq, ?_⟩
    rintro r X2 Y2 ⟨rfl, e2, rfl⟩
    exact ⟨rfl, by rw [e2, sm_up_n (by decide)]; exact sm_up_s, ⟨CT, LN, pr_cut h (Nat.le_succ K) hq e1 e2⟩, rfl⟩

theorem st_fail (l : Launch) (hl : l.stackTraces = false) (Ω : sm_Ω) {X : sm_X} {w : Nat → Nat → Nat} {CT : Nat → Nat → Nat → Nat} {LN : Nat → Nat → Nat} {K : Nat} (h : sim X X w CT LN K) (hK : K < 2 ^ 20) (x : Int32) : lstp (fun mc ms pw => sm_wm l Ω y_L_fail b_L_fail 3 [(0, 5, 8, 13), (0, 5, 11, 21)] 8 mc ms [.ref (Ω.2.1 + 0), .int x] X (sm_rf w) pw) (fun X1 w1 pr => sm_met l Ω y_R_fail b_R_fail 2 none 3 723 [.ref (Ω.2.1 + 703), .int x] X1 (sm_rf w1) pr) ansV K := by
  have hs := sim_swf h hK
  have hr := sim_rwf h hK
  rcases sn_dec x (n := 12) (by decide) with hx | ⟨n, hn, rfl⟩
  · exact lstp_x h (k := 1) (by decide) (by decide) (w_fail_x1 l Ω (by decide) (x_S_fail1 l hl Ω hx)) (c_R_failX1 l Ω hx) (fun _ => rfl)
  · have hN := h.2.2.2.1 n hn
    by_cases hlv : X (79 + 51 * n) 3 = 0
    · exact lstp_x h (k := 2) (by decide) (by decide) (w_fail_x2 l Ω (by decide) (x_S_fail2 l hl Ω hs hn hlv)) (c_R_failX2 l Ω hr hn (by omega)) (fun _ => rfl)
    · refine ⟨0, 0, 0, _, by decide, by decide, by decide, w_fail l Ω (by decide) (c_S_fail l Ω hs hn hlv) hp_n, ?_⟩
      rintro v X1 Y1 ⟨rfl, -, e1, rfl⟩
      refine ⟨rfl, w, rfl, _, c_R_fail l Ω hn (by rw [e1, sm_up_x (Or.inl (by omega))]; omega), ?_⟩
      rintro r X2 Y2 ⟨rfl, e2, rfl⟩
      exact ⟨rfl, by rw [e2, sm_up_x (Or.inl (by decide))]; exact sm_up_s, ⟨CT, LN, pr_fail h (Nat.le_succ K) hn e1 e2⟩, rfl⟩

theorem st_back (l : Launch) (hl : l.stackTraces = false) (Ω : sm_Ω) {X : sm_X} {w : Nat → Nat → Nat} {CT : Nat → Nat → Nat → Nat} {LN : Nat → Nat → Nat} {K : Nat} (h : sim X X w CT LN K) (hK : K < 2 ^ 20) (x : Int32) {e : Nat} (he : e < 2) : lstp (fun mc ms pw => sm_wm l Ω y_L_back b_L_back 4 [(0, 6, 9, 13), (0, 6, 12, 21)] 8 mc ms [.ref (Ω.2.1 + 0), .int x, .int (nI e)] X (sm_rf w) pw) (fun X1 w1 pr => sm_met l Ω y_R_back b_R_back 4 none 3 723 [.ref (Ω.2.1 + 703), .int x, .int (nI e)] X1 (sm_rf w1) pr) ansV K := by
  have hs := sim_swf h hK
  have hr := sim_rwf h hK
  rcases sn_dec x (n := 12) (by decide) with hx | ⟨n, hn, rfl⟩
  · exact lstp_x h (k := 1) (by decide) (by decide) (w_back_x1 l Ω (by decide) (x_S_back1 l hl Ω hx)) (c_R_backX1 l Ω hx) (fun _ => rfl)
  · have hN := h.2.2.2.1 n hn
    by_cases hlv : X (79 + 51 * n) 3 = 0
    · rcases (by omega : e = 0 ∨ e = 1) with rfl | rfl
      · refine ⟨0, 0, 0, _, by decide, by decide, by decide, w_back l Ω (by decide) (c_S_back0 l Ω hs hn hlv) hp_n, ?_⟩
        rintro v X1 Y1 ⟨rfl, -, e1, rfl⟩
        have hl1 : ∀ a j, 703 ≤ a → X1 a j = X a j := fun a j ha => by rw [e1]; exact nb_o h.1 (by omega) (by rintro ⟨-, p, hp, q⟩; omega) 12 (Nat.le_refl 12)
        refine ⟨rfl, w, rfl, _, c_R_back0 l Ω (sim_rwf (sim_l h hl1) hK) hn (by rw [hl1 711 n (by decide)]; omega), ?_⟩
        rintro r X2 Y2 ⟨rfl, e2, rfl⟩
        exact ⟨rfl, by rw [e2]; exact rbk_t 12, ⟨CT, LN, pr_back h (Nat.le_succ K) hn e1 e2⟩, rfl⟩
      · refine ⟨0, 0, 0, _, by decide, by decide, by decide, w_back l Ω (by decide) (c_S_back1 l Ω hs hn hlv) hp_n, ?_⟩
        rintro v X1 Y1 ⟨rfl, -, e1, rfl⟩
        have hl1 : ∀ a j, 703 ≤ a → X1 a j = X a j := fun a j ha => by rw [e1]; exact nb_o h.1 (by omega) (by rintro ⟨-, p, hp, q⟩; omega) 12 (Nat.le_refl 12)
        refine ⟨rfl, w, rfl, _, c_R_back1 l Ω (sim_rwf (sim_l h hl1) hK) hn (by rw [hl1 711 n (by decide)]; omega), ?_⟩
        rintro r X2 Y2 ⟨rfl, e2, rfl⟩
        exact ⟨rfl, by rw [e2]; exact rbk_t 12, ⟨CT, LN, pr_back h (Nat.le_succ K) hn e1 e2⟩, rfl⟩
    · exact lstp_x h (k := 2) (by decide) (by decide) (w_back_x2 l Ω (by decide) (x_S_back2 l hl Ω hs hn hlv)) (c_R_backX2 l Ω hn (by omega)) (fun _ => rfl)

theorem st_out (l : Launch) (hl : l.stackTraces = false) (Ω : sm_Ω) {X : sm_X} {w : Nat → Nat → Nat} {CT : Nat → Nat → Nat → Nat} {LN : Nat → Nat → Nat} {K : Nat} (h : sim X X w CT LN K) (hK : K < 2 ^ 20) (x : Int32) : lstp (fun mc ms pw => sm_wm l Ω y_L_out b_L_out 4 [(0, 9, 12, 13)] 8 mc ms [.ref (Ω.2.1 + 0), .int x, .ref (Ω.2.1 + 722)] X (sm_rf w) pw) (fun X1 w1 pr => sm_met l Ω y_R_out b_R_out 2 (some .int) 2 723 [.ref (Ω.2.1 + 703), .int x] X1 (sm_rf w1) pr) ansI K := by
  have hs := sim_swf h hK
  have hr := sim_rwf h hK
  have hA := h.2.1
  have hA8 := hA.2.2.1
  have hA2 := hA.2.2.2.1
  rcases sn_dec x (n := X 0 8) (by omega) with hx | ⟨i, hi, rfl⟩
  · exact lstp_x h (k := 1) (by decide) (by decide) (w_out_x1 l Ω (by decide) (x_S_out l hl Ω hx)) (c_R_outX l Ω (by rw [← hA.2.2.1]; exact hx) hA.2.2.2.1) (fun _ => ⟨_, rfl, fun q => absurd q (by decide)⟩)
  · refine lstp_s h (w_out l Ω (by decide) (c_S_out l Ω hi (by omega)) hp_v) ?_
    have hc := c_R_out l Ω (X := sm_up X 722 0 (lI (nI (X 78 i)))) (w := w) (i := i) (by rw [up722 (by decide)]; omega) (by rw [up722 (by decide)]; omega)
    rw [up722 (by decide), ← ag_out h (i := i) (by omega)] at hc
    exact hc

theorem st_object (l : Launch) (hl : l.stackTraces = false) (Ω : sm_Ω) {X : sm_X} {w : Nat → Nat → Nat} {CT : Nat → Nat → Nat → Nat} {LN : Nat → Nat → Nat} {K : Nat} (h : sim X X w CT LN K) (hK : K < 2 ^ 20) (x z : Int32) : lstp (fun mc ms pw => sm_wm l Ω y_L_object b_L_object 5 [(0, 10, 13, 13)] 8 mc ms [.ref (Ω.2.1 + 0), .int x, .int z, .ref (Ω.2.1 + 722)] X (sm_rf w) pw) (fun X1 w1 pr => sm_met l Ω y_R_object b_R_object 3 (some .int) 3 723 [.ref (Ω.2.1 + 703), .int x, .int z] X1 (sm_rf w1) pr) ansI K := by
  have hs := sim_swf h hK
  have hr := sim_rwf h hK
  rcases sn_dec x (n := 12) (by decide) with hx | ⟨o, ho, rfl⟩
  · exact lstp_x h (k := 1) (by decide) (by decide) (w_object_x1 l Ω (by decide) (x_S_object1 l hl Ω hx)) (c_R_objectX1 l Ω hx) (fun _ => ⟨_, rfl, fun q => absurd q (by decide)⟩)
  · rcases sn_dec z (n := 3) (by decide) with hx | ⟨q, hq, rfl⟩
    · exact lstp_x h (k := 1) (by decide) (by decide) (w_object_x1 l Ω (by decide) (x_S_object2 l hl Ω ho hx)) (c_R_objectX2 l Ω ho hx) (fun _ => ⟨_, rfl, fun q => absurd q (by decide)⟩)
    · refine lstp_s h (w_object l Ω (by decide) (c_S_object l Ω hs ho hq) hp_v) ?_
      rw [ag_object h ho]
      have hc := c_R_object l Ω (X := sm_up X 722 0 (lI (nI (if q = 0 then X 706 o else if q = 1 then X 707 o else X 710 o)))) (w := w) (sim_rwf (sim_722 h) hK) ho hq
      rw [up722 (by decide), up722 (by decide), up722 (by decide)] at hc
      exact hc

theorem st_share (l : Launch) (hl : l.stackTraces = false) (Ω : sm_Ω) {X : sm_X} {w : Nat → Nat → Nat} {CT : Nat → Nat → Nat → Nat} {LN : Nat → Nat → Nat} {K : Nat} (h : sim X X w CT LN K) (hK : K < 2 ^ 20) (x z u : Int32) : lstp (fun mc ms pw => sm_wm l Ω y_L_share b_L_share 6 [(0, 12, 15, 13)] 8 mc ms [.ref (Ω.2.1 + 0), .int x, .int z, .int u, .ref (Ω.2.1 + 722)] X (sm_rf w) pw) (fun X1 w1 pr => sm_met l Ω y_R_share b_R_share 4 (some .int) 3 723 [.ref (Ω.2.1 + 703), .int x, .int z, .int u] X1 (sm_rf w1) pr) ansI K := by
  have hs := sim_swf h hK
  have hr := sim_rwf h hK
  rcases sn_dec x (n := 12) (by decide) with hx | ⟨n, hn, rfl⟩
  · exact lstp_x h (k := 1) (by decide) (by decide) (w_share_x1 l Ω (by decide) (x_S_share1 l hl Ω hx)) (c_R_shareX1 l Ω hx) (fun _ => ⟨_, rfl, fun q => absurd q (by decide)⟩)
  · rcases sn_dec z (n := 12) (by decide) with hx | ⟨o, ho, rfl⟩
    · exact lstp_x h (k := 1) (by decide) (by decide) (w_share_x1 l Ω (by decide) (x_S_share2 l hl Ω hn hx)) (c_R_shareX2 l Ω hn hx) (fun _ => ⟨_, rfl, fun q => absurd q (by decide)⟩)
    · rcases sn_dec u (n := 2) (by decide) with hx | ⟨q, hq, rfl⟩
      · exact lstp_x h (k := 1) (by decide) (by decide) (w_share_x1 l Ω (by decide) (x_S_share3 l hl Ω hn ho hx)) (c_R_shareX3 l Ω hn ho hx) (fun _ => ⟨_, rfl, fun q => absurd q (by decide)⟩)
      · refine lstp_s h (w_share l Ω (by decide) (c_S_share l Ω hs hn ho hq) hp_v) ?_
        rw [ag_share h hn ho]
        have hc := c_R_share l Ω (X := sm_up X 722 0 (lI (nI (if q = 0 then X 713 (12 * n + o) else X 714 (12 * n + o))))) (w := w) hn ho hq
        rw [up722 (by decide), up722 (by decide)] at hc
        exact hc

theorem st_node (l : Launch) (hl : l.stackTraces = false) (Ω : sm_Ω) {X : sm_X} {w : Nat → Nat → Nat} {CT : Nat → Nat → Nat → Nat} {LN : Nat → Nat → Nat} {K : Nat} (h : sim X X w CT LN K) (hK : K < 2 ^ 20) (x z : Int32) : lstp (fun mc ms pw => sm_wm l Ω y_L_node b_L_node 5 [(0, 10, 13, 13)] 8 mc ms [.ref (Ω.2.1 + 0), .int x, .int z, .ref (Ω.2.1 + 722)] X (sm_rf w) pw) (fun X1 w1 pr => sm_met l Ω y_R_node b_R_node 5 (some .int) 4 723 [.ref (Ω.2.1 + 703), .int x, .int z] X1 (sm_rf w1) pr) ansI K := by
  have hs := sim_swf h hK
  have hr := sim_rwf h hK
  rcases sn_dec x (n := 12) (by decide) with hx | ⟨n, hn, rfl⟩
  · exact lstp_x h (k := 1) (by decide) (by decide) (w_node_x1 l Ω (by decide) (x_S_node1 l hl Ω hx)) (c_R_nodeX1 l Ω hx) (fun _ => ⟨_, rfl, fun q => absurd q (by decide)⟩)
  · rcases sn_dec z (n := 4) (by decide) with hx | ⟨q, hq, rfl⟩
    · exact lstp_x h (k := 1) (by decide) (by decide) (w_node_x1 l Ω (by decide) (x_S_node2 l hl Ω hn hx)) (c_R_nodeX2 l Ω hn hx) (fun _ => ⟨_, rfl, fun q => absurd q (by decide)⟩)
    · refine lstp_s h (w_node l Ω (by decide) (c_S_node l Ω hs hn hq) hp_v) ?_
      rw [ag_node h hn hq]
      generalize hb : lI (nI (if q = 0 then 1 - X 711 n else if q = 1 then X 712 n else sm_n (fun k => if q = 2 then rfr X n k else rsh X n k) 12)) = b
      have hc := c_R_node l Ω (X := sm_up X 722 0 b) (w := w) (sim_rwf (sim_722 h) hK) hn hq
      rw [up722 (by decide), up722 (by decide), show sm_n (fun k => if q = 2 then rfr (sm_up X 722 0 b) n k else rsh (sm_up X 722 0 b) n k) 12 = sm_n (fun k => if q = 2 then rfr X n k else rsh X n k) 12 from sm_n_congr 12 (fun k _ => by unfold rfr rsh; rw [up722 (by decide), up722 (by decide), up722 (by decide)])] at hc
      exact hc

theorem st_field (l : Launch) (hl : l.stackTraces = false) (Ω : sm_Ω) {X : sm_X} {w : Nat → Nat → Nat} {CT : Nat → Nat → Nat → Nat} {LN : Nat → Nat → Nat} {K : Nat} (h : sim X X w CT LN K) (hK : K < 2 ^ 20) (x z u : Int32) : lstp (fun mc ms pw => sm_wm l Ω y_L_field b_L_field 6 [(0, 12, 15, 13), (0, 12, 19, 19)] 8 mc ms [.ref (Ω.2.1 + 0), .int x, .int z, .int u, .ref (Ω.2.1 + 722)] X (sm_rf w) pw) (fun X1 w1 pr => sm_met l Ω y_R_field b_R_field 5 (some .int) 2 723 [.ref (Ω.2.1 + 703), .int x, .int z, .int u] X1 (sm_rf w1) pr) ansI K := by
  have hs := sim_swf h hK
  have hr := sim_rwf h hK
  have hG := h.2.2.2.2.2.2.2.2.1
  rcases sn_dec u (n := 2) (by decide) with hx | ⟨q, hq, rfl⟩
  · exact lstp_x h (k := 1) (by decide) (by decide) (w_field_x1 l Ω (by decide) (x_S_field1 l hl Ω hx)) (c_R_fieldX1 l Ω hx) (fun _ => ⟨_, rfl, fun q => absurd q (by decide)⟩)
  · rcases sn_dec2 x (n := 255) (by decide) with hx | ⟨a, ha, rfl⟩
    · exact lstp_x h (k := 2) (by decide) (by decide) (w_field_x2 l Ω (by decide) (x_S_field2 l hl Ω hq hx)) (c_R_fieldX2 l Ω hq hx) (fun _ => ⟨_, rfl, fun q => absurd q (by decide)⟩)
    · rcases sn_dec2 z (n := 255) (by decide) with hx | ⟨b, hb, rfl⟩
      · exact lstp_x h (k := 2) (by decide) (by decide) (w_field_x2 l Ω (by decide) (x_S_field3 l hl Ω hq ha hx)) (c_R_fieldX3 l Ω hq ha hx) (fun _ => ⟨_, rfl, fun q => absurd q (by decide)⟩)
      · rcases (by omega : q = 0 ∨ q = 1) with rfl | rfl
        · exact lstp_s h (w_field l Ω (by decide) (c_S_field0 l Ω hG ha hb) hp_v) (c_R_field0 l Ω ha hb)
        · by_cases h0 : a = 0
          · subst h0
            exact lstp_x h (k := 2) (by decide) (by decide) (w_field_x2 l Ω (by decide) (x_S_field4 l hl Ω hb)) (c_R_fieldX4 l Ω hb) (fun _ => ⟨_, rfl, fun q => absurd q (by decide)⟩)
          · exact lstp_s h (w_field l Ω (by decide) (c_S_field1 l Ω hG ha hb h0) hp_v) (c_R_field1 l Ω ha hb h0)

theorem st_byteAt (l : Launch) (hl : l.stackTraces = false) (Ω : sm_Ω) {X : sm_X} {w : Nat → Nat → Nat} {CT : Nat → Nat → Nat → Nat} {LN : Nat → Nat → Nat} {K : Nat} (h : sim X X w CT LN K) (hK : K < 2 ^ 20) (x z u : Int32) : lstp (fun mc ms pw => sm_wm l Ω y_L_byteAt b_L_byteAt 6 [(0, 12, 15, 13)] 8 mc ms [.ref (Ω.2.1 + 0), .int x, .int z, .int u, .ref (Ω.2.1 + 722)] X (sm_rf w) pw) (fun X1 w1 pr => sm_met l Ω y_R_byteAt b_R_byteAt 6 (some .int) 4 723 [.ref (Ω.2.1 + 703), .int x, .int z, .int u] X1 (sm_rf w1) pr) ansI K := by
  have hs := sim_swf h hK
  have hr := sim_rwf h hK
  rcases sn_dec x (n := 12) (by decide) with hx | ⟨n, hn, rfl⟩
  · exact lstp_x h (k := 1) (by decide) (by decide) (w_byteAt_x1 l Ω (by decide) (x_S_byteAt1 l hl Ω hx)) (c_R_byteAtX1 l Ω rfl hx) (fun _ => ⟨_, rfl, fun q => absurd q (by decide)⟩)
  · rcases sn_dec z (n := 12) (by decide) with hx | ⟨o, ho, rfl⟩
    · exact lstp_x h (k := 1) (by decide) (by decide) (w_byteAt_x1 l Ω (by decide) (x_S_byteAt2 l hl Ω hn hx)) (c_R_byteAtX2 l Ω rfl hn hx) (fun _ => ⟨_, rfl, fun q => absurd q (by decide)⟩)
    · have hb := (hs.2.2.2 n o (w n o) hn ho (h.1 n o)).2
      rcases sn_dec u (n := 8 * ((X (82 + 51 * n + 4 * o + 2 * w n o) 1 + 29) / 30)) (by omega) with hx | ⟨i, hi, rfl⟩
      · have e4 := ag_size h hn ho
        exact lstp_x h (k := 1) (by decide) (by decide) (w_byteAt_x1 l Ω (by decide) (x_S_byteAt3 l hl Ω hs hn ho hx)) (c_R_byteAtX3 l Ω rfl (sim_rwf (pr_same h (Nat.le_refl K) (fun a j h1 h2 => sm_up_x (by omega))) hK) hn ho (by rw [sm_up_x (Or.inl (by decide)), ← e4]; exact hx)) (fun _ => ⟨_, rfl, fun q => absurd q (by decide)⟩)
      · refine ⟨0, 0, 0, _, by decide, by decide, by decide, w_byteAt l Ω (by decide) (c_S_byteAt l Ω hs hn ho hi) hp_v, ?_⟩
        rintro v X1 Y1 ⟨rfl, y', X1c, ⟨e0, rfl, rfl⟩, e1⟩
        injection e0 with e0
        injection e0 with e0
        subst e0
        have hV : ∀ a j, 703 < a → a < 719 → sm_up X1 703 0 0 a j = X1c a j := fun a j h1 h2 => by rw [sm_up_x (Or.inl (by omega)), e1]; exact up722 (by omega)
        refine ⟨rfl, w, rfl, _, c_R_byteAt l Ω (X := X1) rfl (sim_rwf (pr_same h (Nat.le_refl K) (fun a j h1 h2 => by rw [sm_up_x (by omega), e1]; exact up722 (by omega))) hK) hn ho (by rw [hV 714 _ (by decide) (by decide), ← ag_size h hn ho]; exact hi) (ag_bL h hn ho hV), ?_⟩
        rintro r X2 Y2 ⟨rfl, e2, rfl⟩
        refine ⟨rfl, by rw [e2 703 0 (by decide)]; exact sm_up_s, ⟨CT, LN, pr_same h (Nat.le_succ K) (fun a j h1 h2 => by rw [e2 a j (by omega), sm_up_x (by omega), e1]; exact up722 (by omega))⟩, _, rfl, fun _ => ?_⟩
        rw [← ag_byteAt h hn ho hV hi, e2 722 0 (by decide), sm_up_x (Or.inl (by decide)), e1, sm_up_s]
        exact lI_l _

theorem st_put_ok (l : Launch) (Ω : sm_Ω) {X : sm_X} {w : Nat → Nat → Nat} {CT : Nat → Nat → Nat → Nat} {LN : Nat → Nat → Nat} {K : Nat} (h : sim X X w CT LN K) (hK : K < 2 ^ 20) {o n m : Nat} (ho : o < 12) (hn : n ≤ 240) (hst : X (691 + o) 4 = 0) (h9 : 9 ≤ sm_n (slv X) 12) (hmm : mpt X (2 * sm_n (slv X) 12) = m) {X1c : sm_X} {w1 : Nat → Nat → Nat}
    (hc : sm_met l Ω y_S_put b_S_put 6 (some .int) 5 723 [.ref (Ω.2.1 + 0), .int (nI o), .int (nI n)] X (sm_rf w) (sm_det (some (.int (nI (X (691 + o) 2 + 1)))) X1c (sm_rf w1))) (hlo : ∀ a j, 703 ≤ a → X1c a j = X a j)
    (hsim : ∀ X1 X2, (∀ a j, a ≠ 722 → X1 a j = X1c a j) → X2 = rpE X1 o n m → ∃ CT LN, sim X2 X2 w1 CT LN (K + 1)) : lstp (fun mc ms pw => sm_wm l Ω y_L_put b_L_put 5 [(0, 10, 13, 13), (0, 10, 17, 19), (0, 10, 21, 21), (0, 10, 25, 23)] 8 mc ms [.ref (Ω.2.1 + 0), .int (nI o), .int (nI n), .ref (Ω.2.1 + 722)] X (sm_rf w) pw) (fun X1 w1 pr => sm_met l Ω y_R_put b_R_put 7 (some .int) 4 723 [.ref (Ω.2.1 + 703), .int (nI o), .int (nI n)] X1 (sm_rf w1) pr) ansI K := by
  have hI := h.2.2.1 o ho
  have hV := h.2.2.2.2.2.2.1 o ho
  refine ⟨0, 0, 0, _, by decide, by decide, by decide, w_put l Ω (by decide) hc hp_v, ?_⟩
  rintro v X1 Y1 ⟨rfl, y', X1d, ⟨e0, rfl, rfl⟩, e1⟩
  injection e0 with e0
  injection e0 with e0
  subst e0
  have hq : ∀ a j, a ≠ 722 → X1 a j = X1d a j := fun a j ha => by rw [e1]; exact up722 ha
  have hl2 : ∀ a j, 703 ≤ a → a ≠ 722 → X1 a j = X a j := fun a j h1 h2 => (hq a j h2).trans (hlo a j h1)
  have s1 : sim X X1 w CT LN K := sim_l2 h hl2
  have en : sm_n (rlv X1) 12 = sm_n (slv X) 12 := (sim_n s1).symm
  have e8 : X1 708 o = X (691 + o) 2 := by rw [hl2 708 o (by decide) (by decide)]; exact hI.2.2.1.symm
  refine ⟨rfl, w1, rfl, _, c_R_put l Ω (m := m) (sim_rwf s1 hK) ho hn (by rw [hl2 710 o (by decide) (by decide), ← hI.2.2.2.2]; exact hst) (by rw [en]; exact h9) (by omega) (by rw [en, ← hmm]; exact ag_rmo h (hl2 703 4 (by decide) (by decide))), ?_⟩
  rintro r X2 Y2 ⟨rfl, e2, rfl⟩
  refine ⟨rfl, by rw [e2]; exact rpE_t.1, hsim X1 X2 hq e2, _, rfl, fun _ => ?_⟩
  rw [e2, rpE_t.2, e8, e1, sm_up_s]
  exact lI_l _

theorem st_put (l : Launch) (hl : l.stackTraces = false) (Ω : sm_Ω) {X : sm_X} {w : Nat → Nat → Nat} {CT : Nat → Nat → Nat → Nat} {LN : Nat → Nat → Nat} {K : Nat} (h : sim X X w CT LN K) (hK : K < 2 ^ 20) (x z : Int32) : lstp (fun mc ms pw => sm_wm l Ω y_L_put b_L_put 5 [(0, 10, 13, 13), (0, 10, 17, 19), (0, 10, 21, 21), (0, 10, 25, 23)] 8 mc ms [.ref (Ω.2.1 + 0), .int x, .int z, .ref (Ω.2.1 + 722)] X (sm_rf w) pw) (fun X1 w1 pr => sm_met l Ω y_R_put b_R_put 7 (some .int) 4 723 [.ref (Ω.2.1 + 703), .int x, .int z] X1 (sm_rf w1) pr) ansI K := by
  have hs := sim_swf h hK
  have hr := sim_rwf h hK
  rcases sn_dec x (n := 12) (by decide) with hx | ⟨o, ho, rfl⟩
  · exact lstp_x h (k := 1) (by decide) (by decide) (w_put_x1 l Ω (by decide) (x_S_put1 l hl Ω hx)) (c_R_putX1 l Ω hx) (fun _ => ⟨_, rfl, fun q => absurd q (by decide)⟩)
  · rcases sn_dec2 z (n := 240) (by decide) with hx | ⟨n, hn', rfl⟩
    · exact lstp_x h (k := 2) (by decide) (by decide) (w_put_x2 l Ω (by decide) (x_S_put2 l hl Ω ho hx)) (c_R_putX2 l Ω ho hx) (fun _ => ⟨_, rfl, fun q => absurd q (by decide)⟩)
    · have hn : n ≤ 240 := by omega
      have hI := h.2.2.1 o ho
      have hV := h.2.2.2.2.2.2.1 o ho
      by_cases hst : X (691 + o) 4 = 0
      · by_cases h9 : sm_n (slv X) 12 < 9
        · exact lstp_x h (k := 4) (by decide) (by decide) (w_put_x4 l Ω (by decide) (x_S_put4 l hl Ω hs ho hn hst h9)) (c_R_putX4 l Ω hr ho hn (by rw [← hI.2.2.2.2]; exact hst) (by rw [← sim_n h]; exact h9)) (fun _ => ⟨_, rfl, fun q => absurd q (by decide)⟩)
        · have h9' : 9 ≤ sm_n (slv X) 12 := by omega
          have hM := h.2.2.2.2.2.2.2.2
          have tk := ag_tkm h ho (n := n) (a := 2 * sm_n (slv X) 12)
          have hle := mpt_le (X := X) (a := 2 * sm_n (slv X) 12)
          have hA7 : ∀ q, q < 240 → X 77 q < 256 := fun q hq => by have := h.2.1.2.2.2.2.1 q hq; omega
          have hmd : X (691 + o) 2 + 1 < 2 ^ 30 := by omega
          generalize hmm : mpt X (2 * sm_n (slv X) 12) = m at tk hle
          rcases (by omega : m = 2 * sm_n (slv X) 12 ∨ (sm_n (slv X) 12 ≤ m ∧ m < 2 * sm_n (slv X) 12) ∨ m < sm_n (slv X) 12) with hm | ⟨hm, hm2⟩ | hm
          · exact st_put_ok l Ω h hK ho hn hst h9' hmm (c_S_putA l Ω hs ho hn hmd hst h9' hM.1 hA7 hM.2.1 tk hm) (fun a j ha => by unfold puF; rw [sm_up_x (Or.inl (by omega)), sm_up_x (Or.inl (by omega)), sm_up_x (Or.inl (by omega)), stX_b (fun d hd b hb => by omega) h.1, lo_pu3 ho hn ha]) (fun X1 X2 hq e2 => ⟨_, _, pr_putA2 h (Nat.le_refl _) ho hn hm rfl hq e2⟩)
          · exact st_put_ok l Ω h hK ho hn hst h9' hmm (c_S_putB l Ω hs ho hn hmd hst h9' hM.1 hA7 hM.2.1 tk hm hm2) (fun a j ha => by rw [stX_b (fun d hd b hb => by omega) h.1, lo_pu3 ho hn ha]) (fun X1 X2 hq e2 => ⟨_, _, pr_putB2 h (Nat.le_refl _) ho hn hm hm2 rfl hq e2⟩)
          · exact st_put_ok l Ω h hK ho hn hst h9' hmm (c_S_putC l Ω hs ho hn hmd hst h9' hM.1 hA7 hM.2.1 tk hm) (fun a j ha => by rw [lo_pu3 ho hn ha]) (fun X1 X2 hq e2 => ⟨_, _, pr_putC2 h (Nat.le_refl _) ho hn hm rfl hq e2⟩)
      · exact lstp_x h (k := 3) (by decide) (by decide) (w_put_x3 l Ω (by decide) (x_S_put3 l hl Ω hs ho hn hst)) (c_R_putX3 l Ω hr ho hn (by rw [← hI.2.2.2.2]; exact hst)) (fun _ => ⟨_, rfl, fun q => absurd q (by decide)⟩)

theorem st_settle (l : Launch) (hl : l.stackTraces = false) (Ω : sm_Ω) {X : sm_X} {w : Nat → Nat → Nat} {CT : Nat → Nat → Nat → Nat} {LN : Nat → Nat → Nat} {K : Nat} (h : sim X X w CT LN K) (hK : K < 2 ^ 20) (x : Int32) : lstp (fun mc ms pw => sm_wm l Ω y_L_settle b_L_settle 4 [(0, 16, 19, 13), (0, 16, 22, 21)] 8 mc ms [.ref (Ω.2.1 + 0), .int x, .ref (Ω.2.1 + 722)] X (sm_rf w) pw) (fun X1 w1 pr => sm_met l Ω y_R_settle b_R_settle 4 (some .boolean) 4 723 [.ref (Ω.2.1 + 703), .int x] X1 (sm_rf w1) pr) ansB K := by
  have hs := sim_swf h hK
  have hr := sim_rwf h hK
  rcases sn_dec x (n := 12) (by decide) with hx | ⟨o, ho, rfl⟩
  · exact lstp_x h (k := 1) (by decide) (by decide) (w_settle_x1 l Ω (by decide) (x_S_settle1 l hl Ω hx)) (c_R_settleX1 l Ω hx) (fun _ => ⟨0, by decide, rfl, fun q => absurd q (by decide)⟩)
  · have hI := h.2.2.1 o ho
    by_cases hst : X (691 + o) 4 = 0
    · exact lstp_x h (k := 2) (by decide) (by decide) (w_settle_x2 l Ω (by decide) (x_S_settle2 l hl Ω hs ho hst)) (c_R_settleX2 l Ω hr ho (by rw [← hI.2.2.2.2]; exact hst)) (fun _ => ⟨0, by decide, rfl, fun q => absurd q (by decide)⟩)
    · rcases (Bool.eq_false_or_eq_true (sm_any (shs X w o (X (691 + o) 2)) 12)) with hv | hv
      · refine ⟨0, 0, 0, _, by decide, by decide, by decide, w_settle l Ω (by decide) (c_S_settle1 l Ω hs ho hst hv) (by rintro r X2 Y2 ⟨rfl, -, -⟩; exact ⟨1, by decide, rfl⟩), ?_⟩
        rintro v X1 Y1 ⟨rfl, v', X1d, hv', ⟨e0, e5, rfl⟩, e1⟩
        have ev : v' = 1 := by
          injection e0 with e0
          injection e0 with e0
          exact (nI_eq (by omega) (by decide)).mp e0
        subst ev
        have hq : ∀ a j, a ≠ 722 → X1 a j = X1d a j := fun a j ha => by rw [e1]; exact up722 ha
        have hl2 : ∀ a j, 703 ≤ a → a ≠ 722 → X1 a j = X a j := fun a j h1 h2 => (hq a j h2).trans (by rw [e5]; rw [sm_up_x (Or.inl (by omega)), sm_up_x (Or.inl (by omega)), sm_up_x (Or.inl (by omega)), sds_b (fun d hd b hb => by omega), stX_b (fun d hd b hb => by omega) h.1])
        have s1 : sim X X1 w CT LN K := sim_l2 h hl2
        have hcn : rcn X1 o 12 = true := by rw [← sim_rcn s1 ho 12 (Nat.le_refl 12)]; exact hv
        refine ⟨rfl, (stW (stT X w o 12) w o 12), rfl, _, c_R_settle1 l Ω (sim_rwf s1 hK) ho (by rw [hl2 710 o (by decide) (by decide), ← hI.2.2.2.2]; exact hst) hcn, ?_⟩
        rintro r X2 Y2 ⟨rfl, e2, rfl⟩
        subst e5
        refine ⟨rfl, by rw [e2]; exact rsE_t.1, ⟨CT, LN, pr_settle12 h (Nat.le_succ K) ho (by rw [← hI.2.2.2.2]; exact hst) hcn rfl hq e2⟩, 1, by decide, by rw [hcn]; rfl, fun _ => ?_⟩
        rw [e2, rsE_t.2, e1, sm_up_s]
      · refine ⟨0, 0, 0, _, by decide, by decide, by decide, w_settle l Ω (by decide) (c_S_settle0 l Ω hs ho hst hv) (by rintro r X2 Y2 ⟨rfl, -, -⟩; exact ⟨0, by decide, rfl⟩), ?_⟩
        rintro v X1 Y1 ⟨rfl, v', X1d, hv', ⟨e0, e5, rfl⟩, e1⟩
        have ev : v' = 0 := by
          injection e0 with e0
          injection e0 with e0
          exact (nI_eq (by omega) (by decide)).mp e0
        subst ev
        have hq : ∀ a j, a ≠ 722 → X1 a j = X1d a j := fun a j ha => by rw [e1]; exact up722 ha
        have hl2 : ∀ a j, 703 ≤ a → a ≠ 722 → X1 a j = X a j := fun a j h1 h2 => (hq a j h2).trans (by rw [e5]; rw [sm_up_x (Or.inl (by omega)), sds_b (fun d hd b hb => by omega)])
        have s1 : sim X X1 w CT LN K := sim_l2 h hl2
        have hcn : rcn X1 o 12 = false := by rw [← sim_rcn s1 ho 12 (Nat.le_refl 12)]; exact hv
        refine ⟨rfl, w, rfl, _, c_R_settle0 l Ω (sim_rwf s1 hK) ho (by rw [hl2 710 o (by decide) (by decide), ← hI.2.2.2.2]; exact hst) hcn, ?_⟩
        rintro r X2 Y2 ⟨rfl, e2, rfl⟩
        subst e5
        refine ⟨rfl, by rw [e2]; exact rsE_t.1, ⟨CT, LN, pr_settle02 h (Nat.le_succ K) ho hcn rfl hq e2⟩, 0, by decide, by rw [hcn]; rfl, fun _ => ?_⟩
        rw [e2, rsE_t.2, e1, sm_up_s]

theorem st_get (l : Launch) (hl : l.stackTraces = false) (Ω : sm_Ω) {X : sm_X} {w : Nat → Nat → Nat} {CT : Nat → Nat → Nat → Nat} {LN : Nat → Nat → Nat} {K : Nat} (h : sim X X w CT LN K) (hK : K < 2 ^ 20) (x z : Int32) : lstp (fun mc ms pw => sm_wm l Ω y_L_get b_L_get 5 [(0, 10, 13, 13), (0, 10, 17, 19), (0, 10, 21, 21), (0, 10, 25, 36), (0, 10, 29, 23)] 8 mc ms [.ref (Ω.2.1 + 0), .int x, .int z, .ref (Ω.2.1 + 722)] X (sm_rf w) pw) (fun X1 w1 pr => sm_met l Ω y_R_get b_R_get 6 (some .int) 4 723 [.ref (Ω.2.1 + 703), .int x, .int z] X1 (sm_rf w1) pr) ansI K := by
  have hs := sim_swf h hK
  have hr := sim_rwf h hK
  rcases sn_dec x (n := 12) (by decide) with hx | ⟨o, ho, rfl⟩
  · exact lstp_x h (k := 1) (by decide) (by decide) (w_get_x1 l Ω (by decide) (x_S_get1 l hl Ω hx)) (c_R_getX1 l Ω hx) (fun _ => ⟨_, rfl, fun q => absurd q (by decide)⟩)
  · by_cases hz : z &&& (-4096) = 0
    · obtain ⟨m, hm, rfl⟩ := sn_mask hz
      have hI := h.2.2.1 o ho
      have hM := h.2.2.2.2.2.2.2.2
      by_cases hst : X (691 + o) 4 = 0
      · by_cases hz0 : X (691 + o) 1 = 0
        · exact lstp_x h (k := 4) (by decide) (by decide) (w_get_x4 l Ω (by decide) (x_S_get4 l hl Ω hs ho hm hst hz0)) (c_R_getX4 l Ω hr ho hm (by rw [← hI.2.2.2.2]; exact hst) (by rw [← hI.2.1]; exact hz0)) (fun _ => ⟨_, rfl, fun q => absurd q (by decide)⟩)
        · by_cases h5 : sm_n (saf X w o m) 12 < 5
          · exact lstp_x h (k := 5) (by decide) (by decide) (w_get_x5 l Ω (by decide) (x_S_get5 l hl Ω hs ho hm hst (by omega) h5)) (c_R_getX5 l Ω hr ho hm (by rw [← hI.2.2.2.2]; exact hst) (by rw [← hI.2.1]; omega) (by rw [← ag_rgp h ho]; exact h5)) (fun _ => ⟨_, rfl, fun q => absurd q (by decide)⟩)
          · refine ⟨0, 0, 0, _, by decide, by decide, by decide, w_get l Ω (by decide) (c_S_get l Ω hs ho hm hst (by omega) hM.1 (by omega) (v := CT o (X 706 o)) (fun i => ag_lt h _ _ i) (ag_getB h ho) (fun r j h1 h2 h3 h4 => hM.2.2 r j h1 h2 h3 h4) (fun r j h1 h2 => hM.2.1 r h1 j h2)) (by rintro r X2 Y2 ⟨rfl, -, -⟩; exact ⟨_, rfl⟩), ?_⟩
            rintro v X1 Y1 ⟨rfl, y', X1d, ⟨e0, hZ, rfl⟩, e1⟩
            injection e0 with e0
            injection e0 with e0
            subst e0
            have hq : ∀ a j, a ≠ 722 → X1 a j = X1d a j := fun a j ha => by rw [e1]; exact up722 ha
            have hl2 : ∀ a j, 703 ≤ a → a ≠ 722 → X1 a j = X a j := fun a j h1 h2 => (hq a j h2).trans (hZ.1 a j (by omega) (by omega) (by omega))
            have s1 : sim X X1 w CT LN K := sim_l2 h hl2
            have eg : sm_n (saf X w o m) 12 = sm_n (rgp X1 o m) 12 := sm_n_congr 12 (fun k hk => sim_saf s1 ho hk)
            have e7 : X1 707 o = X (691 + o) 1 := by rw [hl2 707 o (by decide) (by decide)]; exact hI.2.1.symm
            refine ⟨rfl, w, rfl, _, c_R_get l Ω (sim_rwf s1 hK) ho hm (by rw [hl2 710 o (by decide) (by decide), ← hI.2.2.2.2]; exact hst) (by omega) (by rw [← eg]; omega), ?_⟩
            rintro r X2 Y2 ⟨rfl, e2, rfl⟩
            have hlow := lowP_ok (p := rgp X1 o m) 12 (Nat.le_refl 12)
            obtain ⟨j, hj, hpj⟩ := sm_n_ex (p := rgp X1 o m) 12 (by omega)
            have hfr : rfr X1 (lowP (rgp X1 o m) 12) o = true := by
              have := hlow.2 ⟨j, by omega, hj, hpj⟩
              unfold rgp at this
              simp only [Bool.and_eq_true] at this
              exact this.2.2
            refine ⟨rfl, by rw [e2, sm_uf_o (by decide), sm_up_n (by decide)]; exact sm_up_s, ⟨CT, LN, pr_get2 h (Nat.le_succ K) ho hlow.1 hfr hZ hq e2⟩, _, rfl, fun _ => ?_⟩
            rw [e7, e2, sm_uf_o (by decide), sm_up_x (Or.inl (by decide)), sm_up_x (Or.inl (by decide)), e1, sm_up_s]
            exact lI_l _
      · exact lstp_x h (k := 3) (by decide) (by decide) (w_get_x3 l Ω (by decide) (x_S_get3 l hl Ω hs ho hm hst)) (c_R_getX3 l Ω hr ho hm (by rw [← hI.2.2.2.2]; exact hst)) (fun _ => ⟨_, rfl, fun q => absurd q (by decide)⟩)
    · exact lstp_x h (k := 2) (by decide) (by decide) (w_get_x2 l Ω (by decide) (x_S_get2 l hl Ω ho hz)) (c_R_getX2 l Ω ho hz) (fun _ => ⟨_, rfl, fun q => absurd q (by decide)⟩)

theorem st_rebuild (l : Launch) (hl : l.stackTraces = false) (Ω : sm_Ω) {X : sm_X} {w : Nat → Nat → Nat} {CT : Nat → Nat → Nat → Nat} {LN : Nat → Nat → Nat} {K : Nat} (h : sim X X w CT LN K) (hK : K < 2 ^ 20) (x z : Int32) : lstp (fun mc ms pw => sm_wm l Ω y_L_rebuild b_L_rebuild 5 [(0, 10, 13, 13), (0, 10, 17, 19), (0, 10, 21, 21), (0, 10, 25, 23)] 8 mc ms [.ref (Ω.2.1 + 0), .int x, .int z, .ref (Ω.2.1 + 722)] X (sm_rf w) pw) (fun X1 w1 pr => sm_met l Ω y_R_rebuild b_R_rebuild 8 (some .int) 5 723 [.ref (Ω.2.1 + 703), .int x, .int z] X1 (sm_rf w1) pr) ansI K := by
  have hs := sim_swf h hK
  have hr := sim_rwf h hK
  rcases sn_dec x (n := 12) (by decide) with hx | ⟨n, hn, rfl⟩
  · exact lstp_x h (k := 1) (by decide) (by decide) (w_rebuild_x1 l Ω (by decide) (x_S_rebuild1 l hl Ω hx)) (c_R_rebuildX1 l Ω rfl hx) (fun _ => ⟨_, rfl, fun q => absurd q (by decide)⟩)
  · by_cases hz : z &&& (-4096) = 0
    · obtain ⟨m, hm, rfl⟩ := sn_mask hz
      have hN := h.2.2.2.1 n hn
      have hM := h.2.2.2.2.2.2.2.2
      by_cases hlv : X (79 + 51 * n) 3 = 0
      · exact lstp_x h (k := 3) (by decide) (by decide) (w_rebuild_x3 l Ω (by decide) (x_S_rebuild3 l hl Ω hs hn hm hlv)) (c_R_rebuildX3 l Ω rfl (sim_rwf (pr_same h (Nat.le_refl K) (fun a j h1 h2 => sm_up_x (by omega))) hK) hn hm (by rw [sm_up_x (Or.inl (by decide))]; omega)) (fun _ => ⟨_, rfl, fun q => absurd q (by decide)⟩)
      · by_cases hbad : ∃ k, k < 12 ∧ snr X w n k = true ∧ slh X w k (moff m n) = true
        · refine lstp_x h (k := 4) (by decide) (by decide) (w_rebuild_x4 l Ω (by decide) (x_S_rebuild4 l hl Ω hs hn hm hlv hbad)) (c_R_rebuildX4 l Ω rfl (sim_rwf (pr_same h (Nat.le_refl K) (fun a j h1 h2 => sm_up_x (by omega))) hK) hn hm (by rw [sm_up_x (Or.inl (by decide))]; omega) ?_) (fun _ => ⟨_, rfl, fun q => absurd q (by decide)⟩)
          obtain ⟨k, hk, h1, h2⟩ := hbad
          have hV : ∀ a j, 703 < a → a < 719 → sm_up X 703 0 0 a j = X a j := fun a j q1 q2 => sm_up_x (Or.inl (by omega))
          rw [ag_slh h hm hk] at h2
          simp only [Bool.and_eq_true, decide_eq_true_eq] at h2
          exact ⟨k, hk, by rw [rwt_V hV, ← sim_snr h hn hk]; exact h1, by rw [hV 707 k (by decide) (by decide)]; exact h2.1, by rw [rch_V hV]; exact h2.2⟩
        · have hchk : ∀ k, k < 12 → snr X w n k = true → slh X w k (moff m n) = false := fun k hk h1 => by
            apply Bool.eq_false_iff.mpr
            exact fun h2 => hbad ⟨k, hk, h1, h2⟩
          refine ⟨0, 0, 0, _, by decide, by decide, by decide, w_rebuild l Ω (by decide) (c_S_rebuild l Ω hs hn hm hlv hM.1 (fun q hq => by have := h.2.2.2.1 q hq; omega) hchk (v := fun k => CT k (X 706 k)) (fun k i => ag_lt h _ _ i) (ag_rebB h)) (by rintro r X2 Y2 ⟨rfl, -, -⟩; exact ⟨_, rfl⟩), ?_⟩
          rintro v X1 Y1 ⟨rfl, y', X1d, ⟨e0, hC', rfl⟩, e1⟩
          injection e0 with e0
          injection e0 with e0
          subst e0
          have hq : ∀ a j, a ≠ 722 → X1 a j = X1d a j := fun a j ha => by rw [e1]; exact up722 ha
          have hl2 : ∀ a j, 703 ≤ a → a ≠ 722 → X1 a j = X a j := fun a j ha h2 => (hq a j h2).trans (hC'.1 a j (by omega) (by omega) (by omega) (by omega) (by rintro ⟨-, q, hq, e⟩; omega) (by rintro ⟨p, hp, -, e⟩; have := h.1 n p; omega))
          have hV : ∀ a j, 703 < a → a < 719 → sm_up X1 703 0 0 a j = X a j := fun a j q1 q2 => by rw [sm_up_x (Or.inl (by omega))]; exact hl2 a j (by omega) (by omega)
          have s0 : sim X (sm_up X1 703 0 0) w CT LN K := sim_c h (Nat.le_refl K) (fun _ _ _ _ => rfl) (fun a j q1 q2 q3 => by rw [sm_up_x (by omega)]; exact hl2 a j q1 (by omega))
          have hchk2 : ∀ k, k < 12 → rwt (sm_up X1 703 0 0) n k = true → 0 < (sm_up X1 703 0 0) 707 k → 8 ≤ sm_n (rch (sm_up X1 703 0 0) n k m) 12 := fun k hk h1 h2 => by
            rw [rwt_V hV, ← sim_snr h hn hk] at h1
            have h3 := hchk k hk h1
            rw [ag_slh h hm hk] at h3
            rw [hV 707 k (by decide) (by decide)] at h2
            rw [rch_V hV]
            simp only [Bool.and_eq_false_iff, decide_eq_false_iff_not] at h3
            omega
          refine ⟨rfl, w, rfl, _, c_R_rebuild l Ω (X := X1) rfl (sim_rwf s0 hK) hn hm (by rw [hV 711 n (by decide) (by decide)]; omega) (fun q hq => by rw [hV 712 q (by decide) (by decide)]; have := h.2.2.2.1 q hq; omega) hchk2, ?_⟩
          rintro r X2 Y2 ⟨rfl, hR', rfl⟩
          refine ⟨rfl, by rw [hR'.1 703 0 (by decide) (by decide) (by decide) (by decide) (by decide) (by decide)]; exact sm_up_s, ⟨CT, LN, pr_rebuild2 h (Nat.le_refl _) hK hn hm hC' hq rfl hchk2 hR'⟩, _, rfl, fun _ => ?_⟩
          rw [← sim_rT s0 hn 12 (Nat.le_refl 12), hR'.1 722 0 (by decide) (by decide) (by decide) (by decide) (by decide) (by decide), sm_up_x (Or.inl (by decide)), e1, sm_up_s]
          exact lI_l _
    · exact lstp_x h (k := 2) (by decide) (by decide) (w_rebuild_x2 l Ω (by decide) (x_S_rebuild2 l hl Ω hn hz)) (c_R_rebuildX2 l Ω rfl hn hz) (fun _ => ⟨_, rfl, fun q => absurd q (by decide)⟩)
