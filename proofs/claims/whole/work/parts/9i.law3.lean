/-! The wrappers -/
def lI (y : Int32) : Nat := y.toInt64.toBitVec.toNat
theorem lI_l (y : Int32) : y.toInt64 = lN (lI y) := by
  apply Int64.toBitVec_inj.1
  show y.toInt64.toBitVec = BitVec.ofNat 64 y.toInt64.toBitVec.toNat
  rw [BitVec.ofNat_toNat, BitVec.setWidth_eq]
theorem sm_di {Γ : sm_Γ} {Ω : sm_Ω} {M cs sl pc : Nat} {L : List (Option Value)} {st : List Value} {X : sm_X} {Y : sm_R} {u : Value} (kk : sm_G Γ Ω M cs sl pc L (u :: st) X Y) : sm_G Γ Ω M cs sl pc L ((some u).toList ++ st) X Y := kk

set_option maxHeartbeats 4000000 in
set_option maxRecDepth 100000 in
theorem w_load (l : Launch) (Ω : sm_Ω) {X : sm_X} {Y : sm_R} {d : Nat} {x z : Int32} {post : Option Value → sm_X → sm_R → Prop} (hd : d ≤ 7) (hm : sm_met l Ω y_S_load b_S_load 4 none d 723 [.ref (Ω.2.1 + 0), .int x, .int z] X Y post) (hp : ∀ r X2 Y2, post r X2 Y2 → r = none) : sm_wm l Ω y_L_load b_L_load 4 [(0, 6, 9, 13)] 8 0 0 [.ref (Ω.2.1 + 0), .int x, .int z] X Y (fun r X2 Y2 => r = some (.int (nI 0)) ∧ post none X2 Y2) := by
  refine sm_introW (own := RL) (L := [some (.ref (Ω.2.1 + 0)), some (.int x), some (.int z), none]) (by decide) rfl (by simp [Value.category]) (Nat.le_of_ble_eq_true rfl) rfl ?_
  intro Γ C I ht hNC
  refine sg_aln (pc := 0) C d_L_load_0 rfl ?_
  refine sg_iln (pc := 1) C d_L_load_1 rfl ?_
  refine sg_iln (pc := 2) C d_L_load_2 rfl ?_
  refine sm_callV (pc := 3) (As := [.int x, .int z]) C I hm cw_L_7 iw_S_load (C.1.2.2.2.2 _ (List.mem_cons_of_mem _ se_S_load)) (by decide) rfl rfl rfl rfl (by omega) ⟨by decide, by decide⟩ rfl (Nat.le_of_ble_eq_true rfl) d_L_load_3 (fun r X1 Y1 hr => ?_)
  obtain rfl := hp r X1 Y1 hr
  refine sm_dn ?_
  refine sg_goto (pc := 6) (tgt := 12) C d_L_load_6 (by decide) ?_
  refine sg_ic (pc := 12) (v := 0) C d_L_load_12 (by decide) ?_
  exact sg_iret (pc := 13) C I rfl rfl d_L_load_13 ⟨rfl, hr⟩

set_option maxHeartbeats 4000000 in
set_option maxRecDepth 100000 in
theorem w_load_x1 (l : Launch) (Ω : sm_Ω) {X : sm_X} {Y : sm_R} {d : Nat} {x z : Int32} (hd : d ≤ 7) (hm : sm_thr l Ω y_S_load b_S_load 4 none d [.ref (Ω.2.1 + 0), .int x, .int z] X Y eIO) : sm_wm l Ω y_L_load b_L_load 4 [(0, 6, 9, 13)] 8 1 6 [.ref (Ω.2.1 + 0), .int x, .int z] X Y (sm_det (some (.int (nI 1))) X Y) := by
  refine sm_introW (own := RL) (L := [some (.ref (Ω.2.1 + 0)), some (.int x), some (.int z), none]) (by decide) rfl (by simp [Value.category]) (Nat.le_of_ble_eq_true rfl) rfl ?_
  intro Γ C I ht hNC
  refine sg_aln (pc := 0) C d_L_load_0 rfl ?_
  refine sg_iln (pc := 1) C d_L_load_1 rfl ?_
  refine sg_iln (pc := 2) C d_L_load_2 rfl ?_
  refine sm_callVC (pc := 3) (As := [.int x, .int z]) C I hm cw_L_7 iw_S_load (C.1.2.2.2.2 _ (List.mem_cons_of_mem _ se_S_load)) (by decide) rfl rfl rfl rfl (by omega) rfl (Nat.le_of_ble_eq_true rfl) d_L_load_3 [] ⟨0, 6, 9, 13⟩ [] ht (fun _ h => absurd h List.not_mem_nil) (by decide) (by decide) cl_L_13 (List.mem_of_getElem? (i := 0) rfl) (fun q => ?_)
  refine sg_as3 (pc := 9) C d_L_load_9 ?_
  refine sg_ic (pc := 10) (v := 1) C d_L_load_10 (by decide) ?_
  exact sg_iret (pc := 11) C I rfl rfl d_L_load_11 ⟨rfl, rfl, rfl⟩

set_option maxHeartbeats 4000000 in
set_option maxRecDepth 100000 in
theorem w_put (l : Launch) (Ω : sm_Ω) {X : sm_X} {Y : sm_R} {d : Nat} {x z : Int32} {post : Option Value → sm_X → sm_R → Prop} (hd : d ≤ 7) (hm : sm_met l Ω y_S_put b_S_put 6 (some .int) d 723 [.ref (Ω.2.1 + 0), .int x, .int z] X Y post) (hp : ∀ r X2 Y2, post r X2 Y2 → ∃ y : Int32, r = some (.int y)) : sm_wm l Ω y_L_put b_L_put 5 [(0, 10, 13, 13), (0, 10, 17, 19), (0, 10, 21, 21), (0, 10, 25, 23)] 8 0 0 [.ref (Ω.2.1 + 0), .int x, .int z, .ref (Ω.2.1 + 722)] X Y (fun r X2 Y2 => r = some (.int (nI 0)) ∧ ∃ y X1, post (some (.int y)) X1 Y2 ∧ X2 = sm_up X1 722 0 (lI y)) := by
  refine sm_introW (own := RL) (L := [some (.ref (Ω.2.1 + 0)), some (.int x), some (.int z), some (.ref (Ω.2.1 + 722)), none]) (by decide) rfl (by simp [Value.category]) (Nat.le_of_ble_eq_true rfl) rfl ?_
  intro Γ C I ht hNC
  refine sg_aln (pc := 0) C d_L_put_0 rfl ?_
  refine sg_ic (pc := 1) (v := 0) C d_L_put_1 (by decide) ?_
  refine sg_aln (pc := 2) C d_L_put_2 rfl ?_
  refine sg_iln (pc := 3) C d_L_put_3 rfl ?_
  refine sg_iln (pc := 4) C d_L_put_4 rfl ?_
  refine sm_callV (pc := 5) (As := [.int x, .int z]) C I hm cw_L_15 iw_S_put (C.1.2.2.2.2 _ (List.mem_cons_of_mem _ se_S_put)) (by decide) rfl rfl rfl rfl (by omega) ⟨by decide, by decide⟩ rfl (Nat.le_of_ble_eq_true rfl) d_L_put_5 (fun r X1 Y1 hr => ?_)
  obtain ⟨y, rfl⟩ := hp r X1 Y1 hr
  refine sm_di ?_
  refine sr_i2l (pc := 8) C d_L_put_8 (lI_l y) ?_
  refine sg_last (pc := 9) (n := 1) C (by decide) rfl (by decide) (by decide) d_L_put_9 ?_
  refine sg_goto (pc := 10) (tgt := 29) C d_L_put_10 (by decide) ?_
  refine sg_ic (pc := 29) (v := 0) C d_L_put_29 (by decide) ?_
  exact sg_iret (pc := 30) C I rfl rfl d_L_put_30 ⟨rfl, y, X1, hr, rfl⟩

set_option maxHeartbeats 4000000 in
set_option maxRecDepth 100000 in
theorem w_put_x1 (l : Launch) (Ω : sm_Ω) {X : sm_X} {Y : sm_R} {d : Nat} {x z : Int32} (hd : d ≤ 7) (hm : sm_thr l Ω y_S_put b_S_put 6 (some .int) d [.ref (Ω.2.1 + 0), .int x, .int z] X Y eIO) : sm_wm l Ω y_L_put b_L_put 5 [(0, 10, 13, 13), (0, 10, 17, 19), (0, 10, 21, 21), (0, 10, 25, 23)] 8 1 6 [.ref (Ω.2.1 + 0), .int x, .int z, .ref (Ω.2.1 + 722)] X Y (sm_det (some (.int (nI 1))) X Y) := by
  refine sm_introW (own := RL) (L := [some (.ref (Ω.2.1 + 0)), some (.int x), some (.int z), some (.ref (Ω.2.1 + 722)), none]) (by decide) rfl (by simp [Value.category]) (Nat.le_of_ble_eq_true rfl) rfl ?_
  intro Γ C I ht hNC
  refine sg_aln (pc := 0) C d_L_put_0 rfl ?_
  refine sg_ic (pc := 1) (v := 0) C d_L_put_1 (by decide) ?_
  refine sg_aln (pc := 2) C d_L_put_2 rfl ?_
  refine sg_iln (pc := 3) C d_L_put_3 rfl ?_
  refine sg_iln (pc := 4) C d_L_put_4 rfl ?_
  refine sm_callVC (pc := 5) (As := [.int x, .int z]) C I hm cw_L_15 iw_S_put (C.1.2.2.2.2 _ (List.mem_cons_of_mem _ se_S_put)) (by decide) rfl rfl rfl rfl (by omega) rfl (Nat.le_of_ble_eq_true rfl) d_L_put_5 [] ⟨0, 10, 13, 13⟩ [⟨0, 10, 17, 19⟩, ⟨0, 10, 21, 21⟩, ⟨0, 10, 25, 23⟩] ht (fun _ h => absurd h List.not_mem_nil) (by decide) (by decide) cl_L_13 (List.mem_of_getElem? (i := 0) rfl) (fun q => ?_)
  refine sg_as4 (pc := 13) C d_L_put_13 ?_
  refine sg_ic (pc := 15) (v := 1) C d_L_put_15 (by decide) ?_
  exact sg_iret (pc := 16) C I rfl rfl d_L_put_16 ⟨rfl, rfl, rfl⟩

set_option maxHeartbeats 4000000 in
set_option maxRecDepth 100000 in
theorem w_put_x2 (l : Launch) (Ω : sm_Ω) {X : sm_X} {Y : sm_R} {d : Nat} {x z : Int32} (hd : d ≤ 7) (hm : sm_thr l Ω y_S_put b_S_put 6 (some .int) d [.ref (Ω.2.1 + 0), .int x, .int z] X Y eIA) : sm_wm l Ω y_L_put b_L_put 5 [(0, 10, 13, 13), (0, 10, 17, 19), (0, 10, 21, 21), (0, 10, 25, 23)] 8 1 6 [.ref (Ω.2.1 + 0), .int x, .int z, .ref (Ω.2.1 + 722)] X Y (sm_det (some (.int (nI 2))) X Y) := by
  refine sm_introW (own := RL) (L := [some (.ref (Ω.2.1 + 0)), some (.int x), some (.int z), some (.ref (Ω.2.1 + 722)), none]) (by decide) rfl (by simp [Value.category]) (Nat.le_of_ble_eq_true rfl) rfl ?_
  intro Γ C I ht hNC
  refine sg_aln (pc := 0) C d_L_put_0 rfl ?_
  refine sg_ic (pc := 1) (v := 0) C d_L_put_1 (by decide) ?_
  refine sg_aln (pc := 2) C d_L_put_2 rfl ?_
  refine sg_iln (pc := 3) C d_L_put_3 rfl ?_
  refine sg_iln (pc := 4) C d_L_put_4 rfl ?_
  refine sm_callVC (pc := 5) (As := [.int x, .int z]) C I hm cw_L_15 iw_S_put (C.1.2.2.2.2 _ (List.mem_cons_of_mem _ se_S_put)) (by decide) rfl rfl rfl rfl (by omega) rfl (Nat.le_of_ble_eq_true rfl) d_L_put_5 [⟨0, 10, 13, 13⟩] ⟨0, 10, 17, 19⟩ [⟨0, 10, 21, 21⟩, ⟨0, 10, 25, 23⟩] ht (List.forall_mem_cons.mpr ⟨Or.inr ⟨by decide, eIO, cl_L_13, hNC (eIA, eIO) (List.mem_of_getElem? (i := 0) rfl)⟩, fun _ h => absurd h List.not_mem_nil⟩) (by decide) (by decide) cl_L_19 (List.mem_of_getElem? (i := 1) rfl) (fun q => ?_)
  refine sg_as4 (pc := 17) C d_L_put_17 ?_
  refine sg_ic (pc := 19) (v := 2) C d_L_put_19 (by decide) ?_
  exact sg_iret (pc := 20) C I rfl rfl d_L_put_20 ⟨rfl, rfl, rfl⟩

set_option maxHeartbeats 4000000 in
set_option maxRecDepth 100000 in
theorem w_put_x3 (l : Launch) (Ω : sm_Ω) {X : sm_X} {Y : sm_R} {d : Nat} {x z : Int32} (hd : d ≤ 7) (hm : sm_thr l Ω y_S_put b_S_put 6 (some .int) d [.ref (Ω.2.1 + 0), .int x, .int z] X Y eIS) : sm_wm l Ω y_L_put b_L_put 5 [(0, 10, 13, 13), (0, 10, 17, 19), (0, 10, 21, 21), (0, 10, 25, 23)] 8 1 6 [.ref (Ω.2.1 + 0), .int x, .int z, .ref (Ω.2.1 + 722)] X Y (sm_det (some (.int (nI 3))) X Y) := by
  refine sm_introW (own := RL) (L := [some (.ref (Ω.2.1 + 0)), some (.int x), some (.int z), some (.ref (Ω.2.1 + 722)), none]) (by decide) rfl (by simp [Value.category]) (Nat.le_of_ble_eq_true rfl) rfl ?_
  intro Γ C I ht hNC
  refine sg_aln (pc := 0) C d_L_put_0 rfl ?_
  refine sg_ic (pc := 1) (v := 0) C d_L_put_1 (by decide) ?_
  refine sg_aln (pc := 2) C d_L_put_2 rfl ?_
  refine sg_iln (pc := 3) C d_L_put_3 rfl ?_
  refine sg_iln (pc := 4) C d_L_put_4 rfl ?_
  refine sm_callVC (pc := 5) (As := [.int x, .int z]) C I hm cw_L_15 iw_S_put (C.1.2.2.2.2 _ (List.mem_cons_of_mem _ se_S_put)) (by decide) rfl rfl rfl rfl (by omega) rfl (Nat.le_of_ble_eq_true rfl) d_L_put_5 [⟨0, 10, 13, 13⟩, ⟨0, 10, 17, 19⟩] ⟨0, 10, 21, 21⟩ [⟨0, 10, 25, 23⟩] ht (List.forall_mem_cons.mpr ⟨Or.inr ⟨by decide, eIO, cl_L_13, hNC (eIS, eIO) (List.mem_of_getElem? (i := 1) rfl)⟩, List.forall_mem_cons.mpr ⟨Or.inr ⟨by decide, eIA, cl_L_19, hNC (eIS, eIA) (List.mem_of_getElem? (i := 2) rfl)⟩, fun _ h => absurd h List.not_mem_nil⟩⟩) (by decide) (by decide) cl_L_21 (List.mem_of_getElem? (i := 2) rfl) (fun q => ?_)
  refine sg_as4 (pc := 21) C d_L_put_21 ?_
  refine sg_ic (pc := 23) (v := 3) C d_L_put_23 (by decide) ?_
  exact sg_iret (pc := 24) C I rfl rfl d_L_put_24 ⟨rfl, rfl, rfl⟩

set_option maxHeartbeats 4000000 in
set_option maxRecDepth 100000 in
theorem w_put_x4 (l : Launch) (Ω : sm_Ω) {X : sm_X} {Y : sm_R} {d : Nat} {x z : Int32} (hd : d ≤ 7) (hm : sm_thr l Ω y_S_put b_S_put 6 (some .int) d [.ref (Ω.2.1 + 0), .int x, .int z] X Y eUO) : sm_wm l Ω y_L_put b_L_put 5 [(0, 10, 13, 13), (0, 10, 17, 19), (0, 10, 21, 21), (0, 10, 25, 23)] 8 1 6 [.ref (Ω.2.1 + 0), .int x, .int z, .ref (Ω.2.1 + 722)] X Y (sm_det (some (.int (nI 4))) X Y) := by
  refine sm_introW (own := RL) (L := [some (.ref (Ω.2.1 + 0)), some (.int x), some (.int z), some (.ref (Ω.2.1 + 722)), none]) (by decide) rfl (by simp [Value.category]) (Nat.le_of_ble_eq_true rfl) rfl ?_
  intro Γ C I ht hNC
  refine sg_aln (pc := 0) C d_L_put_0 rfl ?_
  refine sg_ic (pc := 1) (v := 0) C d_L_put_1 (by decide) ?_
  refine sg_aln (pc := 2) C d_L_put_2 rfl ?_
  refine sg_iln (pc := 3) C d_L_put_3 rfl ?_
  refine sg_iln (pc := 4) C d_L_put_4 rfl ?_
  refine sm_callVC (pc := 5) (As := [.int x, .int z]) C I hm cw_L_15 iw_S_put (C.1.2.2.2.2 _ (List.mem_cons_of_mem _ se_S_put)) (by decide) rfl rfl rfl rfl (by omega) rfl (Nat.le_of_ble_eq_true rfl) d_L_put_5 [⟨0, 10, 13, 13⟩, ⟨0, 10, 17, 19⟩, ⟨0, 10, 21, 21⟩] ⟨0, 10, 25, 23⟩ [] ht (List.forall_mem_cons.mpr ⟨Or.inr ⟨by decide, eIO, cl_L_13, hNC (eUO, eIO) (List.mem_of_getElem? (i := 3) rfl)⟩, List.forall_mem_cons.mpr ⟨Or.inr ⟨by decide, eIA, cl_L_19, hNC (eUO, eIA) (List.mem_of_getElem? (i := 4) rfl)⟩, List.forall_mem_cons.mpr ⟨Or.inr ⟨by decide, eIS, cl_L_21, hNC (eUO, eIS) (List.mem_of_getElem? (i := 5) rfl)⟩, fun _ h => absurd h List.not_mem_nil⟩⟩⟩) (by decide) (by decide) cl_L_23 (List.mem_of_getElem? (i := 3) rfl) (fun q => ?_)
  refine sg_as4 (pc := 25) C d_L_put_25 ?_
  refine sg_ic (pc := 27) (v := 4) C d_L_put_27 (by decide) ?_
  exact sg_iret (pc := 28) C I rfl rfl d_L_put_28 ⟨rfl, rfl, rfl⟩

set_option maxHeartbeats 4000000 in
set_option maxRecDepth 100000 in
theorem w_cut (l : Launch) (Ω : sm_Ω) {X : sm_X} {Y : sm_R} {d : Nat} {x : Int32} {post : Option Value → sm_X → sm_R → Prop} (hd : d ≤ 7) (hm : sm_met l Ω y_S_cut b_S_cut 2 none d 723 [.ref (Ω.2.1 + 0), .int x] X Y post) (hp : ∀ r X2 Y2, post r X2 Y2 → r = none) : sm_wm l Ω y_L_cut b_L_cut 3 [(0, 5, 8, 19)] 8 0 0 [.ref (Ω.2.1 + 0), .int x] X Y (fun r X2 Y2 => r = some (.int (nI 0)) ∧ post none X2 Y2) := by
  refine sm_introW (own := RL) (L := [some (.ref (Ω.2.1 + 0)), some (.int x), none]) (by decide) rfl (by simp [Value.category]) (Nat.le_of_ble_eq_true rfl) rfl ?_
  intro Γ C I ht hNC
  refine sg_aln (pc := 0) C d_L_cut_0 rfl ?_
  refine sg_iln (pc := 1) C d_L_cut_1 rfl ?_
  refine sm_callV (pc := 2) (As := [.int x]) C I hm cw_L_25 iw_S_cut (C.1.2.2.2.2 _ (List.mem_cons_of_mem _ se_S_cut)) (by decide) rfl rfl rfl rfl (by omega) ⟨by decide, by decide⟩ rfl (Nat.le_of_ble_eq_true rfl) d_L_cut_2 (fun r X1 Y1 hr => ?_)
  obtain rfl := hp r X1 Y1 hr
  refine sm_dn ?_
  refine sg_goto (pc := 5) (tgt := 11) C d_L_cut_5 (by decide) ?_
  refine sg_ic (pc := 11) (v := 0) C d_L_cut_11 (by decide) ?_
  exact sg_iret (pc := 12) C I rfl rfl d_L_cut_12 ⟨rfl, hr⟩

set_option maxHeartbeats 4000000 in
set_option maxRecDepth 100000 in
theorem w_cut_x1 (l : Launch) (Ω : sm_Ω) {X : sm_X} {Y : sm_R} {d : Nat} {x : Int32} (hd : d ≤ 7) (hm : sm_thr l Ω y_S_cut b_S_cut 2 none d [.ref (Ω.2.1 + 0), .int x] X Y eIA) : sm_wm l Ω y_L_cut b_L_cut 3 [(0, 5, 8, 19)] 8 1 6 [.ref (Ω.2.1 + 0), .int x] X Y (sm_det (some (.int (nI 1))) X Y) := by
  refine sm_introW (own := RL) (L := [some (.ref (Ω.2.1 + 0)), some (.int x), none]) (by decide) rfl (by simp [Value.category]) (Nat.le_of_ble_eq_true rfl) rfl ?_
  intro Γ C I ht hNC
  refine sg_aln (pc := 0) C d_L_cut_0 rfl ?_
  refine sg_iln (pc := 1) C d_L_cut_1 rfl ?_
  refine sm_callVC (pc := 2) (As := [.int x]) C I hm cw_L_25 iw_S_cut (C.1.2.2.2.2 _ (List.mem_cons_of_mem _ se_S_cut)) (by decide) rfl rfl rfl rfl (by omega) rfl (Nat.le_of_ble_eq_true rfl) d_L_cut_2 [] ⟨0, 5, 8, 19⟩ [] ht (fun _ h => absurd h List.not_mem_nil) (by decide) (by decide) cl_L_19 (List.mem_of_getElem? (i := 1) rfl) (fun q => ?_)
  refine sg_as2 (pc := 8) C d_L_cut_8 ?_
  refine sg_ic (pc := 9) (v := 1) C d_L_cut_9 (by decide) ?_
  exact sg_iret (pc := 10) C I rfl rfl d_L_cut_10 ⟨rfl, rfl, rfl⟩

set_option maxHeartbeats 4000000 in
set_option maxRecDepth 100000 in
theorem w_settle (l : Launch) (Ω : sm_Ω) {X : sm_X} {Y : sm_R} {d : Nat} {x : Int32} {post : Option Value → sm_X → sm_R → Prop} (hd : d ≤ 7) (hm : sm_met l Ω y_S_settle b_S_settle 4 (some .boolean) d 723 [.ref (Ω.2.1 + 0), .int x] X Y post) (hp : ∀ r X2 Y2, post r X2 Y2 → ∃ v, v < 2 ∧ r = some (.int (nI v))) : sm_wm l Ω y_L_settle b_L_settle 4 [(0, 16, 19, 13), (0, 16, 22, 21)] 8 0 0 [.ref (Ω.2.1 + 0), .int x, .ref (Ω.2.1 + 722)] X Y (fun r X2 Y2 => r = some (.int (nI 0)) ∧ ∃ v X1, v < 2 ∧ post (some (.int (nI v))) X1 Y2 ∧ X2 = sm_up X1 722 0 v) := by
  refine sm_introW (own := RL) (L := [some (.ref (Ω.2.1 + 0)), some (.int x), some (.ref (Ω.2.1 + 722)), none]) (by decide) rfl (by simp [Value.category]) (Nat.le_of_ble_eq_true rfl) rfl ?_
  intro Γ C I ht hNC
  refine sg_aln (pc := 0) C d_L_settle_0 rfl ?_
  refine sg_ic (pc := 1) (v := 0) C d_L_settle_1 (by decide) ?_
  refine sg_aln (pc := 2) C d_L_settle_2 rfl ?_
  refine sg_iln (pc := 3) C d_L_settle_3 rfl ?_
  refine sm_callV (pc := 4) (As := [.int x]) C I hm cw_L_29 iw_S_settle (C.1.2.2.2.2 _ (List.mem_cons_of_mem _ se_S_settle)) (by decide) rfl rfl rfl rfl (by omega) ⟨by decide, by decide⟩ rfl (Nat.le_of_ble_eq_true rfl) d_L_settle_4 (fun r X1 Y1 hr => ?_)
  obtain ⟨v, hv, rfl⟩ := hp r X1 Y1 hr
  refine sm_di ?_
  refine sg_ifeq (pc := 7) (tgt := 14) C d_L_settle_7 (by decide) (by omega) (fun h7 => ?_) (fun h7 => ?_)
  · subst h7
    refine sg_lconst (pc := 14) C d_L_settle_14 ?_
    refine sg_last (pc := 15) (n := 1) C (by decide) rfl (by decide) (by decide) d_L_settle_15 ?_
    refine sg_goto (pc := 16) (tgt := 25) C d_L_settle_16 (by decide) ?_
    refine sg_ic (pc := 25) (v := 0) C d_L_settle_25 (by decide) ?_
    exact sg_iret (pc := 26) C I rfl rfl d_L_settle_26 ⟨rfl, _, X1, hv, hr, rfl⟩
  · obtain rfl : v = 1 := by omega
    refine sg_lconst (pc := 10) C d_L_settle_10 ?_
    refine sg_goto (pc := 11) (tgt := 15) C d_L_settle_11 (by decide) ?_
    refine sg_last (pc := 15) (n := 1) C (by decide) rfl (by decide) (by decide) d_L_settle_15 ?_
    refine sg_goto (pc := 16) (tgt := 25) C d_L_settle_16 (by decide) ?_
    refine sg_ic (pc := 25) (v := 0) C d_L_settle_25 (by decide) ?_
    exact sg_iret (pc := 26) C I rfl rfl d_L_settle_26 ⟨rfl, _, X1, hv, hr, rfl⟩

set_option maxHeartbeats 4000000 in
set_option maxRecDepth 100000 in
theorem w_settle_x1 (l : Launch) (Ω : sm_Ω) {X : sm_X} {Y : sm_R} {d : Nat} {x : Int32} (hd : d ≤ 7) (hm : sm_thr l Ω y_S_settle b_S_settle 4 (some .boolean) d [.ref (Ω.2.1 + 0), .int x] X Y eIO) : sm_wm l Ω y_L_settle b_L_settle 4 [(0, 16, 19, 13), (0, 16, 22, 21)] 8 1 6 [.ref (Ω.2.1 + 0), .int x, .ref (Ω.2.1 + 722)] X Y (sm_det (some (.int (nI 1))) X Y) := by
  refine sm_introW (own := RL) (L := [some (.ref (Ω.2.1 + 0)), some (.int x), some (.ref (Ω.2.1 + 722)), none]) (by decide) rfl (by simp [Value.category]) (Nat.le_of_ble_eq_true rfl) rfl ?_
  intro Γ C I ht hNC
  refine sg_aln (pc := 0) C d_L_settle_0 rfl ?_
  refine sg_ic (pc := 1) (v := 0) C d_L_settle_1 (by decide) ?_
  refine sg_aln (pc := 2) C d_L_settle_2 rfl ?_
  refine sg_iln (pc := 3) C d_L_settle_3 rfl ?_
  refine sm_callVC (pc := 4) (As := [.int x]) C I hm cw_L_29 iw_S_settle (C.1.2.2.2.2 _ (List.mem_cons_of_mem _ se_S_settle)) (by decide) rfl rfl rfl rfl (by omega) rfl (Nat.le_of_ble_eq_true rfl) d_L_settle_4 [] ⟨0, 16, 19, 13⟩ [⟨0, 16, 22, 21⟩] ht (fun _ h => absurd h List.not_mem_nil) (by decide) (by decide) cl_L_13 (List.mem_of_getElem? (i := 0) rfl) (fun q => ?_)
  refine sg_as3 (pc := 19) C d_L_settle_19 ?_
  refine sg_ic (pc := 20) (v := 1) C d_L_settle_20 (by decide) ?_
  exact sg_iret (pc := 21) C I rfl rfl d_L_settle_21 ⟨rfl, rfl, rfl⟩

set_option maxHeartbeats 4000000 in
set_option maxRecDepth 100000 in
theorem w_settle_x2 (l : Launch) (Ω : sm_Ω) {X : sm_X} {Y : sm_R} {d : Nat} {x : Int32} (hd : d ≤ 7) (hm : sm_thr l Ω y_S_settle b_S_settle 4 (some .boolean) d [.ref (Ω.2.1 + 0), .int x] X Y eIS) : sm_wm l Ω y_L_settle b_L_settle 4 [(0, 16, 19, 13), (0, 16, 22, 21)] 8 1 6 [.ref (Ω.2.1 + 0), .int x, .ref (Ω.2.1 + 722)] X Y (sm_det (some (.int (nI 2))) X Y) := by
  refine sm_introW (own := RL) (L := [some (.ref (Ω.2.1 + 0)), some (.int x), some (.ref (Ω.2.1 + 722)), none]) (by decide) rfl (by simp [Value.category]) (Nat.le_of_ble_eq_true rfl) rfl ?_
  intro Γ C I ht hNC
  refine sg_aln (pc := 0) C d_L_settle_0 rfl ?_
  refine sg_ic (pc := 1) (v := 0) C d_L_settle_1 (by decide) ?_
  refine sg_aln (pc := 2) C d_L_settle_2 rfl ?_
  refine sg_iln (pc := 3) C d_L_settle_3 rfl ?_
  refine sm_callVC (pc := 4) (As := [.int x]) C I hm cw_L_29 iw_S_settle (C.1.2.2.2.2 _ (List.mem_cons_of_mem _ se_S_settle)) (by decide) rfl rfl rfl rfl (by omega) rfl (Nat.le_of_ble_eq_true rfl) d_L_settle_4 [⟨0, 16, 19, 13⟩] ⟨0, 16, 22, 21⟩ [] ht (List.forall_mem_cons.mpr ⟨Or.inr ⟨by decide, eIO, cl_L_13, hNC (eIS, eIO) (List.mem_of_getElem? (i := 1) rfl)⟩, fun _ h => absurd h List.not_mem_nil⟩) (by decide) (by decide) cl_L_21 (List.mem_of_getElem? (i := 2) rfl) (fun q => ?_)
  refine sg_as3 (pc := 22) C d_L_settle_22 ?_
  refine sg_ic (pc := 23) (v := 2) C d_L_settle_23 (by decide) ?_
  exact sg_iret (pc := 24) C I rfl rfl d_L_settle_24 ⟨rfl, rfl, rfl⟩

set_option maxHeartbeats 4000000 in
set_option maxRecDepth 100000 in
theorem w_get (l : Launch) (Ω : sm_Ω) {X : sm_X} {Y : sm_R} {d : Nat} {x z : Int32} {post : Option Value → sm_X → sm_R → Prop} (hd : d ≤ 7) (hm : sm_met l Ω y_S_get b_S_get 5 (some .int) d 723 [.ref (Ω.2.1 + 0), .int x, .int z] X Y post) (hp : ∀ r X2 Y2, post r X2 Y2 → ∃ y : Int32, r = some (.int y)) : sm_wm l Ω y_L_get b_L_get 5 [(0, 10, 13, 13), (0, 10, 17, 19), (0, 10, 21, 21), (0, 10, 25, 36), (0, 10, 29, 23)] 8 0 0 [.ref (Ω.2.1 + 0), .int x, .int z, .ref (Ω.2.1 + 722)] X Y (fun r X2 Y2 => r = some (.int (nI 0)) ∧ ∃ y X1, post (some (.int y)) X1 Y2 ∧ X2 = sm_up X1 722 0 (lI y)) := by
  refine sm_introW (own := RL) (L := [some (.ref (Ω.2.1 + 0)), some (.int x), some (.int z), some (.ref (Ω.2.1 + 722)), none]) (by decide) rfl (by simp [Value.category]) (Nat.le_of_ble_eq_true rfl) rfl ?_
  intro Γ C I ht hNC
  refine sg_aln (pc := 0) C d_L_get_0 rfl ?_
  refine sg_ic (pc := 1) (v := 0) C d_L_get_1 (by decide) ?_
  refine sg_aln (pc := 2) C d_L_get_2 rfl ?_
  refine sg_iln (pc := 3) C d_L_get_3 rfl ?_
  refine sg_iln (pc := 4) C d_L_get_4 rfl ?_
  refine sm_callV (pc := 5) (As := [.int x, .int z]) C I hm cw_L_33 iw_S_get (C.1.2.2.2.2 _ (List.mem_cons_of_mem _ se_S_get)) (by decide) rfl rfl rfl rfl (by omega) ⟨by decide, by decide⟩ rfl (Nat.le_of_ble_eq_true rfl) d_L_get_5 (fun r X1 Y1 hr => ?_)
  obtain ⟨y, rfl⟩ := hp r X1 Y1 hr
  refine sm_di ?_
  refine sr_i2l (pc := 8) C d_L_get_8 (lI_l y) ?_
  refine sg_last (pc := 9) (n := 1) C (by decide) rfl (by decide) (by decide) d_L_get_9 ?_
  refine sg_goto (pc := 10) (tgt := 33) C d_L_get_10 (by decide) ?_
  refine sg_ic (pc := 33) (v := 0) C d_L_get_33 (by decide) ?_
  exact sg_iret (pc := 34) C I rfl rfl d_L_get_34 ⟨rfl, y, X1, hr, rfl⟩

set_option maxHeartbeats 4000000 in
set_option maxRecDepth 100000 in
theorem w_get_x1 (l : Launch) (Ω : sm_Ω) {X : sm_X} {Y : sm_R} {d : Nat} {x z : Int32} (hd : d ≤ 7) (hm : sm_thr l Ω y_S_get b_S_get 5 (some .int) d [.ref (Ω.2.1 + 0), .int x, .int z] X Y eIO) : sm_wm l Ω y_L_get b_L_get 5 [(0, 10, 13, 13), (0, 10, 17, 19), (0, 10, 21, 21), (0, 10, 25, 36), (0, 10, 29, 23)] 8 1 6 [.ref (Ω.2.1 + 0), .int x, .int z, .ref (Ω.2.1 + 722)] X Y (sm_det (some (.int (nI 1))) X Y) := by
  refine sm_introW (own := RL) (L := [some (.ref (Ω.2.1 + 0)), some (.int x), some (.int z), some (.ref (Ω.2.1 + 722)), none]) (by decide) rfl (by simp [Value.category]) (Nat.le_of_ble_eq_true rfl) rfl ?_
  intro Γ C I ht hNC
  refine sg_aln (pc := 0) C d_L_get_0 rfl ?_
  refine sg_ic (pc := 1) (v := 0) C d_L_get_1 (by decide) ?_
  refine sg_aln (pc := 2) C d_L_get_2 rfl ?_
  refine sg_iln (pc := 3) C d_L_get_3 rfl ?_
  refine sg_iln (pc := 4) C d_L_get_4 rfl ?_
  refine sm_callVC (pc := 5) (As := [.int x, .int z]) C I hm cw_L_33 iw_S_get (C.1.2.2.2.2 _ (List.mem_cons_of_mem _ se_S_get)) (by decide) rfl rfl rfl rfl (by omega) rfl (Nat.le_of_ble_eq_true rfl) d_L_get_5 [] ⟨0, 10, 13, 13⟩ [⟨0, 10, 17, 19⟩, ⟨0, 10, 21, 21⟩, ⟨0, 10, 25, 36⟩, ⟨0, 10, 29, 23⟩] ht (fun _ h => absurd h List.not_mem_nil) (by decide) (by decide) cl_L_13 (List.mem_of_getElem? (i := 0) rfl) (fun q => ?_)
  refine sg_as4 (pc := 13) C d_L_get_13 ?_
  refine sg_ic (pc := 15) (v := 1) C d_L_get_15 (by decide) ?_
  exact sg_iret (pc := 16) C I rfl rfl d_L_get_16 ⟨rfl, rfl, rfl⟩

set_option maxHeartbeats 4000000 in
set_option maxRecDepth 100000 in
theorem w_get_x2 (l : Launch) (Ω : sm_Ω) {X : sm_X} {Y : sm_R} {d : Nat} {x z : Int32} (hd : d ≤ 7) (hm : sm_thr l Ω y_S_get b_S_get 5 (some .int) d [.ref (Ω.2.1 + 0), .int x, .int z] X Y eIA) : sm_wm l Ω y_L_get b_L_get 5 [(0, 10, 13, 13), (0, 10, 17, 19), (0, 10, 21, 21), (0, 10, 25, 36), (0, 10, 29, 23)] 8 1 6 [.ref (Ω.2.1 + 0), .int x, .int z, .ref (Ω.2.1 + 722)] X Y (sm_det (some (.int (nI 2))) X Y) := by
  refine sm_introW (own := RL) (L := [some (.ref (Ω.2.1 + 0)), some (.int x), some (.int z), some (.ref (Ω.2.1 + 722)), none]) (by decide) rfl (by simp [Value.category]) (Nat.le_of_ble_eq_true rfl) rfl ?_
  intro Γ C I ht hNC
  refine sg_aln (pc := 0) C d_L_get_0 rfl ?_
  refine sg_ic (pc := 1) (v := 0) C d_L_get_1 (by decide) ?_
  refine sg_aln (pc := 2) C d_L_get_2 rfl ?_
  refine sg_iln (pc := 3) C d_L_get_3 rfl ?_
  refine sg_iln (pc := 4) C d_L_get_4 rfl ?_
  refine sm_callVC (pc := 5) (As := [.int x, .int z]) C I hm cw_L_33 iw_S_get (C.1.2.2.2.2 _ (List.mem_cons_of_mem _ se_S_get)) (by decide) rfl rfl rfl rfl (by omega) rfl (Nat.le_of_ble_eq_true rfl) d_L_get_5 [⟨0, 10, 13, 13⟩] ⟨0, 10, 17, 19⟩ [⟨0, 10, 21, 21⟩, ⟨0, 10, 25, 36⟩, ⟨0, 10, 29, 23⟩] ht (List.forall_mem_cons.mpr ⟨Or.inr ⟨by decide, eIO, cl_L_13, hNC (eIA, eIO) (List.mem_of_getElem? (i := 0) rfl)⟩, fun _ h => absurd h List.not_mem_nil⟩) (by decide) (by decide) cl_L_19 (List.mem_of_getElem? (i := 1) rfl) (fun q => ?_)
  refine sg_as4 (pc := 17) C d_L_get_17 ?_
  refine sg_ic (pc := 19) (v := 2) C d_L_get_19 (by decide) ?_
  exact sg_iret (pc := 20) C I rfl rfl d_L_get_20 ⟨rfl, rfl, rfl⟩

set_option maxHeartbeats 4000000 in
set_option maxRecDepth 100000 in
theorem w_get_x3 (l : Launch) (Ω : sm_Ω) {X : sm_X} {Y : sm_R} {d : Nat} {x z : Int32} (hd : d ≤ 7) (hm : sm_thr l Ω y_S_get b_S_get 5 (some .int) d [.ref (Ω.2.1 + 0), .int x, .int z] X Y eIS) : sm_wm l Ω y_L_get b_L_get 5 [(0, 10, 13, 13), (0, 10, 17, 19), (0, 10, 21, 21), (0, 10, 25, 36), (0, 10, 29, 23)] 8 1 6 [.ref (Ω.2.1 + 0), .int x, .int z, .ref (Ω.2.1 + 722)] X Y (sm_det (some (.int (nI 3))) X Y) := by
  refine sm_introW (own := RL) (L := [some (.ref (Ω.2.1 + 0)), some (.int x), some (.int z), some (.ref (Ω.2.1 + 722)), none]) (by decide) rfl (by simp [Value.category]) (Nat.le_of_ble_eq_true rfl) rfl ?_
  intro Γ C I ht hNC
  refine sg_aln (pc := 0) C d_L_get_0 rfl ?_
  refine sg_ic (pc := 1) (v := 0) C d_L_get_1 (by decide) ?_
  refine sg_aln (pc := 2) C d_L_get_2 rfl ?_
  refine sg_iln (pc := 3) C d_L_get_3 rfl ?_
  refine sg_iln (pc := 4) C d_L_get_4 rfl ?_
  refine sm_callVC (pc := 5) (As := [.int x, .int z]) C I hm cw_L_33 iw_S_get (C.1.2.2.2.2 _ (List.mem_cons_of_mem _ se_S_get)) (by decide) rfl rfl rfl rfl (by omega) rfl (Nat.le_of_ble_eq_true rfl) d_L_get_5 [⟨0, 10, 13, 13⟩, ⟨0, 10, 17, 19⟩] ⟨0, 10, 21, 21⟩ [⟨0, 10, 25, 36⟩, ⟨0, 10, 29, 23⟩] ht (List.forall_mem_cons.mpr ⟨Or.inr ⟨by decide, eIO, cl_L_13, hNC (eIS, eIO) (List.mem_of_getElem? (i := 1) rfl)⟩, List.forall_mem_cons.mpr ⟨Or.inr ⟨by decide, eIA, cl_L_19, hNC (eIS, eIA) (List.mem_of_getElem? (i := 2) rfl)⟩, fun _ h => absurd h List.not_mem_nil⟩⟩) (by decide) (by decide) cl_L_21 (List.mem_of_getElem? (i := 2) rfl) (fun q => ?_)
  refine sg_as4 (pc := 21) C d_L_get_21 ?_
  refine sg_ic (pc := 23) (v := 3) C d_L_get_23 (by decide) ?_
  exact sg_iret (pc := 24) C I rfl rfl d_L_get_24 ⟨rfl, rfl, rfl⟩

set_option maxHeartbeats 4000000 in
set_option maxRecDepth 100000 in
theorem w_get_x4 (l : Launch) (Ω : sm_Ω) {X : sm_X} {Y : sm_R} {d : Nat} {x z : Int32} (hd : d ≤ 7) (hm : sm_thr l Ω y_S_get b_S_get 5 (some .int) d [.ref (Ω.2.1 + 0), .int x, .int z] X Y eNS) : sm_wm l Ω y_L_get b_L_get 5 [(0, 10, 13, 13), (0, 10, 17, 19), (0, 10, 21, 21), (0, 10, 25, 36), (0, 10, 29, 23)] 8 1 6 [.ref (Ω.2.1 + 0), .int x, .int z, .ref (Ω.2.1 + 722)] X Y (sm_det (some (.int (nI 4))) X Y) := by
  refine sm_introW (own := RL) (L := [some (.ref (Ω.2.1 + 0)), some (.int x), some (.int z), some (.ref (Ω.2.1 + 722)), none]) (by decide) rfl (by simp [Value.category]) (Nat.le_of_ble_eq_true rfl) rfl ?_
  intro Γ C I ht hNC
  refine sg_aln (pc := 0) C d_L_get_0 rfl ?_
  refine sg_ic (pc := 1) (v := 0) C d_L_get_1 (by decide) ?_
  refine sg_aln (pc := 2) C d_L_get_2 rfl ?_
  refine sg_iln (pc := 3) C d_L_get_3 rfl ?_
  refine sg_iln (pc := 4) C d_L_get_4 rfl ?_
  refine sm_callVC (pc := 5) (As := [.int x, .int z]) C I hm cw_L_33 iw_S_get (C.1.2.2.2.2 _ (List.mem_cons_of_mem _ se_S_get)) (by decide) rfl rfl rfl rfl (by omega) rfl (Nat.le_of_ble_eq_true rfl) d_L_get_5 [⟨0, 10, 13, 13⟩, ⟨0, 10, 17, 19⟩, ⟨0, 10, 21, 21⟩] ⟨0, 10, 25, 36⟩ [⟨0, 10, 29, 23⟩] ht (List.forall_mem_cons.mpr ⟨Or.inr ⟨by decide, eIO, cl_L_13, hNC (eNS, eIO) (List.mem_of_getElem? (i := 6) rfl)⟩, List.forall_mem_cons.mpr ⟨Or.inr ⟨by decide, eIA, cl_L_19, hNC (eNS, eIA) (List.mem_of_getElem? (i := 7) rfl)⟩, List.forall_mem_cons.mpr ⟨Or.inr ⟨by decide, eIS, cl_L_21, hNC (eNS, eIS) (List.mem_of_getElem? (i := 8) rfl)⟩, fun _ h => absurd h List.not_mem_nil⟩⟩⟩) (by decide) (by decide) cl_L_36 (List.mem_of_getElem? (i := 4) rfl) (fun q => ?_)
  refine sg_as4 (pc := 25) C d_L_get_25 ?_
  refine sg_ic (pc := 27) (v := 4) C d_L_get_27 (by decide) ?_
  exact sg_iret (pc := 28) C I rfl rfl d_L_get_28 ⟨rfl, rfl, rfl⟩

set_option maxHeartbeats 4000000 in
set_option maxRecDepth 100000 in
theorem w_get_x5 (l : Launch) (Ω : sm_Ω) {X : sm_X} {Y : sm_R} {d : Nat} {x z : Int32} (hd : d ≤ 7) (hm : sm_thr l Ω y_S_get b_S_get 5 (some .int) d [.ref (Ω.2.1 + 0), .int x, .int z] X Y eUO) : sm_wm l Ω y_L_get b_L_get 5 [(0, 10, 13, 13), (0, 10, 17, 19), (0, 10, 21, 21), (0, 10, 25, 36), (0, 10, 29, 23)] 8 1 6 [.ref (Ω.2.1 + 0), .int x, .int z, .ref (Ω.2.1 + 722)] X Y (sm_det (some (.int (nI 5))) X Y) := by
  refine sm_introW (own := RL) (L := [some (.ref (Ω.2.1 + 0)), some (.int x), some (.int z), some (.ref (Ω.2.1 + 722)), none]) (by decide) rfl (by simp [Value.category]) (Nat.le_of_ble_eq_true rfl) rfl ?_
  intro Γ C I ht hNC
  refine sg_aln (pc := 0) C d_L_get_0 rfl ?_
  refine sg_ic (pc := 1) (v := 0) C d_L_get_1 (by decide) ?_
  refine sg_aln (pc := 2) C d_L_get_2 rfl ?_
  refine sg_iln (pc := 3) C d_L_get_3 rfl ?_
  refine sg_iln (pc := 4) C d_L_get_4 rfl ?_
  refine sm_callVC (pc := 5) (As := [.int x, .int z]) C I hm cw_L_33 iw_S_get (C.1.2.2.2.2 _ (List.mem_cons_of_mem _ se_S_get)) (by decide) rfl rfl rfl rfl (by omega) rfl (Nat.le_of_ble_eq_true rfl) d_L_get_5 [⟨0, 10, 13, 13⟩, ⟨0, 10, 17, 19⟩, ⟨0, 10, 21, 21⟩, ⟨0, 10, 25, 36⟩] ⟨0, 10, 29, 23⟩ [] ht (List.forall_mem_cons.mpr ⟨Or.inr ⟨by decide, eIO, cl_L_13, hNC (eUO, eIO) (List.mem_of_getElem? (i := 3) rfl)⟩, List.forall_mem_cons.mpr ⟨Or.inr ⟨by decide, eIA, cl_L_19, hNC (eUO, eIA) (List.mem_of_getElem? (i := 4) rfl)⟩, List.forall_mem_cons.mpr ⟨Or.inr ⟨by decide, eIS, cl_L_21, hNC (eUO, eIS) (List.mem_of_getElem? (i := 5) rfl)⟩, List.forall_mem_cons.mpr ⟨Or.inr ⟨by decide, eNS, cl_L_36, hNC (eUO, eNS) (List.mem_of_getElem? (i := 9) rfl)⟩, fun _ h => absurd h List.not_mem_nil⟩⟩⟩⟩) (by decide) (by decide) cl_L_23 (List.mem_of_getElem? (i := 3) rfl) (fun q => ?_)
  refine sg_as4 (pc := 29) C d_L_get_29 ?_
  refine sg_ic (pc := 31) (v := 5) C d_L_get_31 (by decide) ?_
  exact sg_iret (pc := 32) C I rfl rfl d_L_get_32 ⟨rfl, rfl, rfl⟩

set_option maxHeartbeats 4000000 in
set_option maxRecDepth 100000 in
theorem w_out (l : Launch) (Ω : sm_Ω) {X : sm_X} {Y : sm_R} {d : Nat} {x : Int32} {post : Option Value → sm_X → sm_R → Prop} (hd : d ≤ 7) (hm : sm_met l Ω y_S_out b_S_out 2 (some .int) d 723 [.ref (Ω.2.1 + 0), .int x] X Y post) (hp : ∀ r X2 Y2, post r X2 Y2 → ∃ y : Int32, r = some (.int y)) : sm_wm l Ω y_L_out b_L_out 4 [(0, 9, 12, 13)] 8 0 0 [.ref (Ω.2.1 + 0), .int x, .ref (Ω.2.1 + 722)] X Y (fun r X2 Y2 => r = some (.int (nI 0)) ∧ ∃ y X1, post (some (.int y)) X1 Y2 ∧ X2 = sm_up X1 722 0 (lI y)) := by
  refine sm_introW (own := RL) (L := [some (.ref (Ω.2.1 + 0)), some (.int x), some (.ref (Ω.2.1 + 722)), none]) (by decide) rfl (by simp [Value.category]) (Nat.le_of_ble_eq_true rfl) rfl ?_
  intro Γ C I ht hNC
  refine sg_aln (pc := 0) C d_L_out_0 rfl ?_
  refine sg_ic (pc := 1) (v := 0) C d_L_out_1 (by decide) ?_
  refine sg_aln (pc := 2) C d_L_out_2 rfl ?_
  refine sg_iln (pc := 3) C d_L_out_3 rfl ?_
  refine sm_callV (pc := 4) (As := [.int x]) C I hm cw_L_38 iw_S_out (C.1.2.2.2.2 _ (List.mem_cons_of_mem _ se_S_out)) (by decide) rfl rfl rfl rfl (by omega) ⟨by decide, by decide⟩ rfl (Nat.le_of_ble_eq_true rfl) d_L_out_4 (fun r X1 Y1 hr => ?_)
  obtain ⟨y, rfl⟩ := hp r X1 Y1 hr
  refine sm_di ?_
  refine sr_i2l (pc := 7) C d_L_out_7 (lI_l y) ?_
  refine sg_last (pc := 8) (n := 1) C (by decide) rfl (by decide) (by decide) d_L_out_8 ?_
  refine sg_goto (pc := 9) (tgt := 15) C d_L_out_9 (by decide) ?_
  refine sg_ic (pc := 15) (v := 0) C d_L_out_15 (by decide) ?_
  exact sg_iret (pc := 16) C I rfl rfl d_L_out_16 ⟨rfl, y, X1, hr, rfl⟩

set_option maxHeartbeats 4000000 in
set_option maxRecDepth 100000 in
theorem w_out_x1 (l : Launch) (Ω : sm_Ω) {X : sm_X} {Y : sm_R} {d : Nat} {x : Int32} (hd : d ≤ 7) (hm : sm_thr l Ω y_S_out b_S_out 2 (some .int) d [.ref (Ω.2.1 + 0), .int x] X Y eIO) : sm_wm l Ω y_L_out b_L_out 4 [(0, 9, 12, 13)] 8 1 6 [.ref (Ω.2.1 + 0), .int x, .ref (Ω.2.1 + 722)] X Y (sm_det (some (.int (nI 1))) X Y) := by
  refine sm_introW (own := RL) (L := [some (.ref (Ω.2.1 + 0)), some (.int x), some (.ref (Ω.2.1 + 722)), none]) (by decide) rfl (by simp [Value.category]) (Nat.le_of_ble_eq_true rfl) rfl ?_
  intro Γ C I ht hNC
  refine sg_aln (pc := 0) C d_L_out_0 rfl ?_
  refine sg_ic (pc := 1) (v := 0) C d_L_out_1 (by decide) ?_
  refine sg_aln (pc := 2) C d_L_out_2 rfl ?_
  refine sg_iln (pc := 3) C d_L_out_3 rfl ?_
  refine sm_callVC (pc := 4) (As := [.int x]) C I hm cw_L_38 iw_S_out (C.1.2.2.2.2 _ (List.mem_cons_of_mem _ se_S_out)) (by decide) rfl rfl rfl rfl (by omega) rfl (Nat.le_of_ble_eq_true rfl) d_L_out_4 [] ⟨0, 9, 12, 13⟩ [] ht (fun _ h => absurd h List.not_mem_nil) (by decide) (by decide) cl_L_13 (List.mem_of_getElem? (i := 0) rfl) (fun q => ?_)
  refine sg_as3 (pc := 12) C d_L_out_12 ?_
  refine sg_ic (pc := 13) (v := 1) C d_L_out_13 (by decide) ?_
  exact sg_iret (pc := 14) C I rfl rfl d_L_out_14 ⟨rfl, rfl, rfl⟩

set_option maxHeartbeats 4000000 in
set_option maxRecDepth 100000 in
theorem w_object (l : Launch) (Ω : sm_Ω) {X : sm_X} {Y : sm_R} {d : Nat} {x z : Int32} {post : Option Value → sm_X → sm_R → Prop} (hd : d ≤ 7) (hm : sm_met l Ω y_S_object b_S_object 4 (some .int) d 723 [.ref (Ω.2.1 + 0), .int x, .int z] X Y post) (hp : ∀ r X2 Y2, post r X2 Y2 → ∃ y : Int32, r = some (.int y)) : sm_wm l Ω y_L_object b_L_object 5 [(0, 10, 13, 13)] 8 0 0 [.ref (Ω.2.1 + 0), .int x, .int z, .ref (Ω.2.1 + 722)] X Y (fun r X2 Y2 => r = some (.int (nI 0)) ∧ ∃ y X1, post (some (.int y)) X1 Y2 ∧ X2 = sm_up X1 722 0 (lI y)) := by
  refine sm_introW (own := RL) (L := [some (.ref (Ω.2.1 + 0)), some (.int x), some (.int z), some (.ref (Ω.2.1 + 722)), none]) (by decide) rfl (by simp [Value.category]) (Nat.le_of_ble_eq_true rfl) rfl ?_
  intro Γ C I ht hNC
  refine sg_aln (pc := 0) C d_L_object_0 rfl ?_
  refine sg_ic (pc := 1) (v := 0) C d_L_object_1 (by decide) ?_
  refine sg_aln (pc := 2) C d_L_object_2 rfl ?_
  refine sg_iln (pc := 3) C d_L_object_3 rfl ?_
  refine sg_iln (pc := 4) C d_L_object_4 rfl ?_
  refine sm_callV (pc := 5) (As := [.int x, .int z]) C I hm cw_L_42 iw_S_object (C.1.2.2.2.2 _ (List.mem_cons_of_mem _ se_S_object)) (by decide) rfl rfl rfl rfl (by omega) ⟨by decide, by decide⟩ rfl (Nat.le_of_ble_eq_true rfl) d_L_object_5 (fun r X1 Y1 hr => ?_)
  obtain ⟨y, rfl⟩ := hp r X1 Y1 hr
  refine sm_di ?_
  refine sr_i2l (pc := 8) C d_L_object_8 (lI_l y) ?_
  refine sg_last (pc := 9) (n := 1) C (by decide) rfl (by decide) (by decide) d_L_object_9 ?_
  refine sg_goto (pc := 10) (tgt := 17) C d_L_object_10 (by decide) ?_
  refine sg_ic (pc := 17) (v := 0) C d_L_object_17 (by decide) ?_
  exact sg_iret (pc := 18) C I rfl rfl d_L_object_18 ⟨rfl, y, X1, hr, rfl⟩

set_option maxHeartbeats 4000000 in
set_option maxRecDepth 100000 in
theorem w_object_x1 (l : Launch) (Ω : sm_Ω) {X : sm_X} {Y : sm_R} {d : Nat} {x z : Int32} (hd : d ≤ 7) (hm : sm_thr l Ω y_S_object b_S_object 4 (some .int) d [.ref (Ω.2.1 + 0), .int x, .int z] X Y eIO) : sm_wm l Ω y_L_object b_L_object 5 [(0, 10, 13, 13)] 8 1 6 [.ref (Ω.2.1 + 0), .int x, .int z, .ref (Ω.2.1 + 722)] X Y (sm_det (some (.int (nI 1))) X Y) := by
  refine sm_introW (own := RL) (L := [some (.ref (Ω.2.1 + 0)), some (.int x), some (.int z), some (.ref (Ω.2.1 + 722)), none]) (by decide) rfl (by simp [Value.category]) (Nat.le_of_ble_eq_true rfl) rfl ?_
  intro Γ C I ht hNC
  refine sg_aln (pc := 0) C d_L_object_0 rfl ?_
  refine sg_ic (pc := 1) (v := 0) C d_L_object_1 (by decide) ?_
  refine sg_aln (pc := 2) C d_L_object_2 rfl ?_
  refine sg_iln (pc := 3) C d_L_object_3 rfl ?_
  refine sg_iln (pc := 4) C d_L_object_4 rfl ?_
  refine sm_callVC (pc := 5) (As := [.int x, .int z]) C I hm cw_L_42 iw_S_object (C.1.2.2.2.2 _ (List.mem_cons_of_mem _ se_S_object)) (by decide) rfl rfl rfl rfl (by omega) rfl (Nat.le_of_ble_eq_true rfl) d_L_object_5 [] ⟨0, 10, 13, 13⟩ [] ht (fun _ h => absurd h List.not_mem_nil) (by decide) (by decide) cl_L_13 (List.mem_of_getElem? (i := 0) rfl) (fun q => ?_)
  refine sg_as4 (pc := 13) C d_L_object_13 ?_
  refine sg_ic (pc := 15) (v := 1) C d_L_object_15 (by decide) ?_
  exact sg_iret (pc := 16) C I rfl rfl d_L_object_16 ⟨rfl, rfl, rfl⟩

set_option maxHeartbeats 4000000 in
set_option maxRecDepth 100000 in
theorem w_fail (l : Launch) (Ω : sm_Ω) {X : sm_X} {Y : sm_R} {d : Nat} {x : Int32} {post : Option Value → sm_X → sm_R → Prop} (hd : d ≤ 7) (hm : sm_met l Ω y_S_fail b_S_fail 2 none d 723 [.ref (Ω.2.1 + 0), .int x] X Y post) (hp : ∀ r X2 Y2, post r X2 Y2 → r = none) : sm_wm l Ω y_L_fail b_L_fail 3 [(0, 5, 8, 13), (0, 5, 11, 21)] 8 0 0 [.ref (Ω.2.1 + 0), .int x] X Y (fun r X2 Y2 => r = some (.int (nI 0)) ∧ post none X2 Y2) := by
  refine sm_introW (own := RL) (L := [some (.ref (Ω.2.1 + 0)), some (.int x), none]) (by decide) rfl (by simp [Value.category]) (Nat.le_of_ble_eq_true rfl) rfl ?_
  intro Γ C I ht hNC
  refine sg_aln (pc := 0) C d_L_fail_0 rfl ?_
  refine sg_iln (pc := 1) C d_L_fail_1 rfl ?_
  refine sm_callV (pc := 2) (As := [.int x]) C I hm cw_L_45 iw_S_fail (C.1.2.2.2.2 _ (List.mem_cons_of_mem _ se_S_fail)) (by decide) rfl rfl rfl rfl (by omega) ⟨by decide, by decide⟩ rfl (Nat.le_of_ble_eq_true rfl) d_L_fail_2 (fun r X1 Y1 hr => ?_)
  obtain rfl := hp r X1 Y1 hr
  refine sm_dn ?_
  refine sg_goto (pc := 5) (tgt := 14) C d_L_fail_5 (by decide) ?_
  refine sg_ic (pc := 14) (v := 0) C d_L_fail_14 (by decide) ?_
  exact sg_iret (pc := 15) C I rfl rfl d_L_fail_15 ⟨rfl, hr⟩

set_option maxHeartbeats 4000000 in
set_option maxRecDepth 100000 in
theorem w_fail_x1 (l : Launch) (Ω : sm_Ω) {X : sm_X} {Y : sm_R} {d : Nat} {x : Int32} (hd : d ≤ 7) (hm : sm_thr l Ω y_S_fail b_S_fail 2 none d [.ref (Ω.2.1 + 0), .int x] X Y eIO) : sm_wm l Ω y_L_fail b_L_fail 3 [(0, 5, 8, 13), (0, 5, 11, 21)] 8 1 6 [.ref (Ω.2.1 + 0), .int x] X Y (sm_det (some (.int (nI 1))) X Y) := by
  refine sm_introW (own := RL) (L := [some (.ref (Ω.2.1 + 0)), some (.int x), none]) (by decide) rfl (by simp [Value.category]) (Nat.le_of_ble_eq_true rfl) rfl ?_
  intro Γ C I ht hNC
  refine sg_aln (pc := 0) C d_L_fail_0 rfl ?_
  refine sg_iln (pc := 1) C d_L_fail_1 rfl ?_
  refine sm_callVC (pc := 2) (As := [.int x]) C I hm cw_L_45 iw_S_fail (C.1.2.2.2.2 _ (List.mem_cons_of_mem _ se_S_fail)) (by decide) rfl rfl rfl rfl (by omega) rfl (Nat.le_of_ble_eq_true rfl) d_L_fail_2 [] ⟨0, 5, 8, 13⟩ [⟨0, 5, 11, 21⟩] ht (fun _ h => absurd h List.not_mem_nil) (by decide) (by decide) cl_L_13 (List.mem_of_getElem? (i := 0) rfl) (fun q => ?_)
  refine sg_as2 (pc := 8) C d_L_fail_8 ?_
  refine sg_ic (pc := 9) (v := 1) C d_L_fail_9 (by decide) ?_
  exact sg_iret (pc := 10) C I rfl rfl d_L_fail_10 ⟨rfl, rfl, rfl⟩

set_option maxHeartbeats 4000000 in
set_option maxRecDepth 100000 in
theorem w_fail_x2 (l : Launch) (Ω : sm_Ω) {X : sm_X} {Y : sm_R} {d : Nat} {x : Int32} (hd : d ≤ 7) (hm : sm_thr l Ω y_S_fail b_S_fail 2 none d [.ref (Ω.2.1 + 0), .int x] X Y eIS) : sm_wm l Ω y_L_fail b_L_fail 3 [(0, 5, 8, 13), (0, 5, 11, 21)] 8 1 6 [.ref (Ω.2.1 + 0), .int x] X Y (sm_det (some (.int (nI 2))) X Y) := by
  refine sm_introW (own := RL) (L := [some (.ref (Ω.2.1 + 0)), some (.int x), none]) (by decide) rfl (by simp [Value.category]) (Nat.le_of_ble_eq_true rfl) rfl ?_
  intro Γ C I ht hNC
  refine sg_aln (pc := 0) C d_L_fail_0 rfl ?_
  refine sg_iln (pc := 1) C d_L_fail_1 rfl ?_
  refine sm_callVC (pc := 2) (As := [.int x]) C I hm cw_L_45 iw_S_fail (C.1.2.2.2.2 _ (List.mem_cons_of_mem _ se_S_fail)) (by decide) rfl rfl rfl rfl (by omega) rfl (Nat.le_of_ble_eq_true rfl) d_L_fail_2 [⟨0, 5, 8, 13⟩] ⟨0, 5, 11, 21⟩ [] ht (List.forall_mem_cons.mpr ⟨Or.inr ⟨by decide, eIO, cl_L_13, hNC (eIS, eIO) (List.mem_of_getElem? (i := 1) rfl)⟩, fun _ h => absurd h List.not_mem_nil⟩) (by decide) (by decide) cl_L_21 (List.mem_of_getElem? (i := 2) rfl) (fun q => ?_)
  refine sg_as2 (pc := 11) C d_L_fail_11 ?_
  refine sg_ic (pc := 12) (v := 2) C d_L_fail_12 (by decide) ?_
  exact sg_iret (pc := 13) C I rfl rfl d_L_fail_13 ⟨rfl, rfl, rfl⟩

set_option maxHeartbeats 4000000 in
set_option maxRecDepth 100000 in
theorem w_back (l : Launch) (Ω : sm_Ω) {X : sm_X} {Y : sm_R} {d : Nat} {x z : Int32} {post : Option Value → sm_X → sm_R → Prop} (hd : d ≤ 7) (hm : sm_met l Ω y_S_back b_S_back 3 none d 723 [.ref (Ω.2.1 + 0), .int x, .int z] X Y post) (hp : ∀ r X2 Y2, post r X2 Y2 → r = none) : sm_wm l Ω y_L_back b_L_back 4 [(0, 6, 9, 13), (0, 6, 12, 21)] 8 0 0 [.ref (Ω.2.1 + 0), .int x, .int z] X Y (fun r X2 Y2 => r = some (.int (nI 0)) ∧ post none X2 Y2) := by
  refine sm_introW (own := RL) (L := [some (.ref (Ω.2.1 + 0)), some (.int x), some (.int z), none]) (by decide) rfl (by simp [Value.category]) (Nat.le_of_ble_eq_true rfl) rfl ?_
  intro Γ C I ht hNC
  refine sg_aln (pc := 0) C d_L_back_0 rfl ?_
  refine sg_iln (pc := 1) C d_L_back_1 rfl ?_
  refine sg_iln (pc := 2) C d_L_back_2 rfl ?_
  refine sm_callV (pc := 3) (As := [.int x, .int z]) C I hm cw_L_48 iw_S_back (C.1.2.2.2.2 _ (List.mem_cons_of_mem _ se_S_back)) (by decide) rfl rfl rfl rfl (by omega) ⟨by decide, by decide⟩ rfl (Nat.le_of_ble_eq_true rfl) d_L_back_3 (fun r X1 Y1 hr => ?_)
  obtain rfl := hp r X1 Y1 hr
  refine sm_dn ?_
  refine sg_goto (pc := 6) (tgt := 15) C d_L_back_6 (by decide) ?_
  refine sg_ic (pc := 15) (v := 0) C d_L_back_15 (by decide) ?_
  exact sg_iret (pc := 16) C I rfl rfl d_L_back_16 ⟨rfl, hr⟩

set_option maxHeartbeats 4000000 in
set_option maxRecDepth 100000 in
theorem w_back_x1 (l : Launch) (Ω : sm_Ω) {X : sm_X} {Y : sm_R} {d : Nat} {x z : Int32} (hd : d ≤ 7) (hm : sm_thr l Ω y_S_back b_S_back 3 none d [.ref (Ω.2.1 + 0), .int x, .int z] X Y eIO) : sm_wm l Ω y_L_back b_L_back 4 [(0, 6, 9, 13), (0, 6, 12, 21)] 8 1 6 [.ref (Ω.2.1 + 0), .int x, .int z] X Y (sm_det (some (.int (nI 1))) X Y) := by
  refine sm_introW (own := RL) (L := [some (.ref (Ω.2.1 + 0)), some (.int x), some (.int z), none]) (by decide) rfl (by simp [Value.category]) (Nat.le_of_ble_eq_true rfl) rfl ?_
  intro Γ C I ht hNC
  refine sg_aln (pc := 0) C d_L_back_0 rfl ?_
  refine sg_iln (pc := 1) C d_L_back_1 rfl ?_
  refine sg_iln (pc := 2) C d_L_back_2 rfl ?_
  refine sm_callVC (pc := 3) (As := [.int x, .int z]) C I hm cw_L_48 iw_S_back (C.1.2.2.2.2 _ (List.mem_cons_of_mem _ se_S_back)) (by decide) rfl rfl rfl rfl (by omega) rfl (Nat.le_of_ble_eq_true rfl) d_L_back_3 [] ⟨0, 6, 9, 13⟩ [⟨0, 6, 12, 21⟩] ht (fun _ h => absurd h List.not_mem_nil) (by decide) (by decide) cl_L_13 (List.mem_of_getElem? (i := 0) rfl) (fun q => ?_)
  refine sg_as3 (pc := 9) C d_L_back_9 ?_
  refine sg_ic (pc := 10) (v := 1) C d_L_back_10 (by decide) ?_
  exact sg_iret (pc := 11) C I rfl rfl d_L_back_11 ⟨rfl, rfl, rfl⟩

set_option maxHeartbeats 4000000 in
set_option maxRecDepth 100000 in
theorem w_back_x2 (l : Launch) (Ω : sm_Ω) {X : sm_X} {Y : sm_R} {d : Nat} {x z : Int32} (hd : d ≤ 7) (hm : sm_thr l Ω y_S_back b_S_back 3 none d [.ref (Ω.2.1 + 0), .int x, .int z] X Y eIS) : sm_wm l Ω y_L_back b_L_back 4 [(0, 6, 9, 13), (0, 6, 12, 21)] 8 1 6 [.ref (Ω.2.1 + 0), .int x, .int z] X Y (sm_det (some (.int (nI 2))) X Y) := by
  refine sm_introW (own := RL) (L := [some (.ref (Ω.2.1 + 0)), some (.int x), some (.int z), none]) (by decide) rfl (by simp [Value.category]) (Nat.le_of_ble_eq_true rfl) rfl ?_
  intro Γ C I ht hNC
  refine sg_aln (pc := 0) C d_L_back_0 rfl ?_
  refine sg_iln (pc := 1) C d_L_back_1 rfl ?_
  refine sg_iln (pc := 2) C d_L_back_2 rfl ?_
  refine sm_callVC (pc := 3) (As := [.int x, .int z]) C I hm cw_L_48 iw_S_back (C.1.2.2.2.2 _ (List.mem_cons_of_mem _ se_S_back)) (by decide) rfl rfl rfl rfl (by omega) rfl (Nat.le_of_ble_eq_true rfl) d_L_back_3 [⟨0, 6, 9, 13⟩] ⟨0, 6, 12, 21⟩ [] ht (List.forall_mem_cons.mpr ⟨Or.inr ⟨by decide, eIO, cl_L_13, hNC (eIS, eIO) (List.mem_of_getElem? (i := 1) rfl)⟩, fun _ h => absurd h List.not_mem_nil⟩) (by decide) (by decide) cl_L_21 (List.mem_of_getElem? (i := 2) rfl) (fun q => ?_)
  refine sg_as3 (pc := 12) C d_L_back_12 ?_
  refine sg_ic (pc := 13) (v := 2) C d_L_back_13 (by decide) ?_
  exact sg_iret (pc := 14) C I rfl rfl d_L_back_14 ⟨rfl, rfl, rfl⟩

set_option maxHeartbeats 4000000 in
set_option maxRecDepth 100000 in
theorem w_rebuild (l : Launch) (Ω : sm_Ω) {X : sm_X} {Y : sm_R} {d : Nat} {x z : Int32} {post : Option Value → sm_X → sm_R → Prop} (hd : d ≤ 7) (hm : sm_met l Ω y_S_rebuild b_S_rebuild 6 (some .int) d 723 [.ref (Ω.2.1 + 0), .int x, .int z] X Y post) (hp : ∀ r X2 Y2, post r X2 Y2 → ∃ y : Int32, r = some (.int y)) : sm_wm l Ω y_L_rebuild b_L_rebuild 5 [(0, 10, 13, 13), (0, 10, 17, 19), (0, 10, 21, 21), (0, 10, 25, 23)] 8 0 0 [.ref (Ω.2.1 + 0), .int x, .int z, .ref (Ω.2.1 + 722)] X Y (fun r X2 Y2 => r = some (.int (nI 0)) ∧ ∃ y X1, post (some (.int y)) X1 Y2 ∧ X2 = sm_up X1 722 0 (lI y)) := by
  refine sm_introW (own := RL) (L := [some (.ref (Ω.2.1 + 0)), some (.int x), some (.int z), some (.ref (Ω.2.1 + 722)), none]) (by decide) rfl (by simp [Value.category]) (Nat.le_of_ble_eq_true rfl) rfl ?_
  intro Γ C I ht hNC
  refine sg_aln (pc := 0) C d_L_rebuild_0 rfl ?_
  refine sg_ic (pc := 1) (v := 0) C d_L_rebuild_1 (by decide) ?_
  refine sg_aln (pc := 2) C d_L_rebuild_2 rfl ?_
  refine sg_iln (pc := 3) C d_L_rebuild_3 rfl ?_
  refine sg_iln (pc := 4) C d_L_rebuild_4 rfl ?_
  refine sm_callV (pc := 5) (As := [.int x, .int z]) C I hm cw_L_52 iw_S_rebuild (C.1.2.2.2.2 _ (List.mem_cons_of_mem _ se_S_rebuild)) (by decide) rfl rfl rfl rfl (by omega) ⟨by decide, by decide⟩ rfl (Nat.le_of_ble_eq_true rfl) d_L_rebuild_5 (fun r X1 Y1 hr => ?_)
  obtain ⟨y, rfl⟩ := hp r X1 Y1 hr
  refine sm_di ?_
  refine sr_i2l (pc := 8) C d_L_rebuild_8 (lI_l y) ?_
  refine sg_last (pc := 9) (n := 1) C (by decide) rfl (by decide) (by decide) d_L_rebuild_9 ?_
  refine sg_goto (pc := 10) (tgt := 29) C d_L_rebuild_10 (by decide) ?_
  refine sg_ic (pc := 29) (v := 0) C d_L_rebuild_29 (by decide) ?_
  exact sg_iret (pc := 30) C I rfl rfl d_L_rebuild_30 ⟨rfl, y, X1, hr, rfl⟩

set_option maxHeartbeats 4000000 in
set_option maxRecDepth 100000 in
theorem w_rebuild_x1 (l : Launch) (Ω : sm_Ω) {X : sm_X} {Y : sm_R} {d : Nat} {x z : Int32} (hd : d ≤ 7) (hm : sm_thr l Ω y_S_rebuild b_S_rebuild 6 (some .int) d [.ref (Ω.2.1 + 0), .int x, .int z] X Y eIO) : sm_wm l Ω y_L_rebuild b_L_rebuild 5 [(0, 10, 13, 13), (0, 10, 17, 19), (0, 10, 21, 21), (0, 10, 25, 23)] 8 1 6 [.ref (Ω.2.1 + 0), .int x, .int z, .ref (Ω.2.1 + 722)] X Y (sm_det (some (.int (nI 1))) X Y) := by
  refine sm_introW (own := RL) (L := [some (.ref (Ω.2.1 + 0)), some (.int x), some (.int z), some (.ref (Ω.2.1 + 722)), none]) (by decide) rfl (by simp [Value.category]) (Nat.le_of_ble_eq_true rfl) rfl ?_
  intro Γ C I ht hNC
  refine sg_aln (pc := 0) C d_L_rebuild_0 rfl ?_
  refine sg_ic (pc := 1) (v := 0) C d_L_rebuild_1 (by decide) ?_
  refine sg_aln (pc := 2) C d_L_rebuild_2 rfl ?_
  refine sg_iln (pc := 3) C d_L_rebuild_3 rfl ?_
  refine sg_iln (pc := 4) C d_L_rebuild_4 rfl ?_
  refine sm_callVC (pc := 5) (As := [.int x, .int z]) C I hm cw_L_52 iw_S_rebuild (C.1.2.2.2.2 _ (List.mem_cons_of_mem _ se_S_rebuild)) (by decide) rfl rfl rfl rfl (by omega) rfl (Nat.le_of_ble_eq_true rfl) d_L_rebuild_5 [] ⟨0, 10, 13, 13⟩ [⟨0, 10, 17, 19⟩, ⟨0, 10, 21, 21⟩, ⟨0, 10, 25, 23⟩] ht (fun _ h => absurd h List.not_mem_nil) (by decide) (by decide) cl_L_13 (List.mem_of_getElem? (i := 0) rfl) (fun q => ?_)
  refine sg_as4 (pc := 13) C d_L_rebuild_13 ?_
  refine sg_ic (pc := 15) (v := 1) C d_L_rebuild_15 (by decide) ?_
  exact sg_iret (pc := 16) C I rfl rfl d_L_rebuild_16 ⟨rfl, rfl, rfl⟩

set_option maxHeartbeats 4000000 in
set_option maxRecDepth 100000 in
theorem w_rebuild_x2 (l : Launch) (Ω : sm_Ω) {X : sm_X} {Y : sm_R} {d : Nat} {x z : Int32} (hd : d ≤ 7) (hm : sm_thr l Ω y_S_rebuild b_S_rebuild 6 (some .int) d [.ref (Ω.2.1 + 0), .int x, .int z] X Y eIA) : sm_wm l Ω y_L_rebuild b_L_rebuild 5 [(0, 10, 13, 13), (0, 10, 17, 19), (0, 10, 21, 21), (0, 10, 25, 23)] 8 1 6 [.ref (Ω.2.1 + 0), .int x, .int z, .ref (Ω.2.1 + 722)] X Y (sm_det (some (.int (nI 2))) X Y) := by
  refine sm_introW (own := RL) (L := [some (.ref (Ω.2.1 + 0)), some (.int x), some (.int z), some (.ref (Ω.2.1 + 722)), none]) (by decide) rfl (by simp [Value.category]) (Nat.le_of_ble_eq_true rfl) rfl ?_
  intro Γ C I ht hNC
  refine sg_aln (pc := 0) C d_L_rebuild_0 rfl ?_
  refine sg_ic (pc := 1) (v := 0) C d_L_rebuild_1 (by decide) ?_
  refine sg_aln (pc := 2) C d_L_rebuild_2 rfl ?_
  refine sg_iln (pc := 3) C d_L_rebuild_3 rfl ?_
  refine sg_iln (pc := 4) C d_L_rebuild_4 rfl ?_
  refine sm_callVC (pc := 5) (As := [.int x, .int z]) C I hm cw_L_52 iw_S_rebuild (C.1.2.2.2.2 _ (List.mem_cons_of_mem _ se_S_rebuild)) (by decide) rfl rfl rfl rfl (by omega) rfl (Nat.le_of_ble_eq_true rfl) d_L_rebuild_5 [⟨0, 10, 13, 13⟩] ⟨0, 10, 17, 19⟩ [⟨0, 10, 21, 21⟩, ⟨0, 10, 25, 23⟩] ht (List.forall_mem_cons.mpr ⟨Or.inr ⟨by decide, eIO, cl_L_13, hNC (eIA, eIO) (List.mem_of_getElem? (i := 0) rfl)⟩, fun _ h => absurd h List.not_mem_nil⟩) (by decide) (by decide) cl_L_19 (List.mem_of_getElem? (i := 1) rfl) (fun q => ?_)
  refine sg_as4 (pc := 17) C d_L_rebuild_17 ?_
  refine sg_ic (pc := 19) (v := 2) C d_L_rebuild_19 (by decide) ?_
  exact sg_iret (pc := 20) C I rfl rfl d_L_rebuild_20 ⟨rfl, rfl, rfl⟩

set_option maxHeartbeats 4000000 in
set_option maxRecDepth 100000 in
theorem w_rebuild_x3 (l : Launch) (Ω : sm_Ω) {X : sm_X} {Y : sm_R} {d : Nat} {x z : Int32} (hd : d ≤ 7) (hm : sm_thr l Ω y_S_rebuild b_S_rebuild 6 (some .int) d [.ref (Ω.2.1 + 0), .int x, .int z] X Y eIS) : sm_wm l Ω y_L_rebuild b_L_rebuild 5 [(0, 10, 13, 13), (0, 10, 17, 19), (0, 10, 21, 21), (0, 10, 25, 23)] 8 1 6 [.ref (Ω.2.1 + 0), .int x, .int z, .ref (Ω.2.1 + 722)] X Y (sm_det (some (.int (nI 3))) X Y) := by
  refine sm_introW (own := RL) (L := [some (.ref (Ω.2.1 + 0)), some (.int x), some (.int z), some (.ref (Ω.2.1 + 722)), none]) (by decide) rfl (by simp [Value.category]) (Nat.le_of_ble_eq_true rfl) rfl ?_
  intro Γ C I ht hNC
  refine sg_aln (pc := 0) C d_L_rebuild_0 rfl ?_
  refine sg_ic (pc := 1) (v := 0) C d_L_rebuild_1 (by decide) ?_
  refine sg_aln (pc := 2) C d_L_rebuild_2 rfl ?_
  refine sg_iln (pc := 3) C d_L_rebuild_3 rfl ?_
  refine sg_iln (pc := 4) C d_L_rebuild_4 rfl ?_
  refine sm_callVC (pc := 5) (As := [.int x, .int z]) C I hm cw_L_52 iw_S_rebuild (C.1.2.2.2.2 _ (List.mem_cons_of_mem _ se_S_rebuild)) (by decide) rfl rfl rfl rfl (by omega) rfl (Nat.le_of_ble_eq_true rfl) d_L_rebuild_5 [⟨0, 10, 13, 13⟩, ⟨0, 10, 17, 19⟩] ⟨0, 10, 21, 21⟩ [⟨0, 10, 25, 23⟩] ht (List.forall_mem_cons.mpr ⟨Or.inr ⟨by decide, eIO, cl_L_13, hNC (eIS, eIO) (List.mem_of_getElem? (i := 1) rfl)⟩, List.forall_mem_cons.mpr ⟨Or.inr ⟨by decide, eIA, cl_L_19, hNC (eIS, eIA) (List.mem_of_getElem? (i := 2) rfl)⟩, fun _ h => absurd h List.not_mem_nil⟩⟩) (by decide) (by decide) cl_L_21 (List.mem_of_getElem? (i := 2) rfl) (fun q => ?_)
  refine sg_as4 (pc := 21) C d_L_rebuild_21 ?_
  refine sg_ic (pc := 23) (v := 3) C d_L_rebuild_23 (by decide) ?_
  exact sg_iret (pc := 24) C I rfl rfl d_L_rebuild_24 ⟨rfl, rfl, rfl⟩

set_option maxHeartbeats 4000000 in
set_option maxRecDepth 100000 in
theorem w_rebuild_x4 (l : Launch) (Ω : sm_Ω) {X : sm_X} {Y : sm_R} {d : Nat} {x z : Int32} (hd : d ≤ 7) (hm : sm_thr l Ω y_S_rebuild b_S_rebuild 6 (some .int) d [.ref (Ω.2.1 + 0), .int x, .int z] X Y eUO) : sm_wm l Ω y_L_rebuild b_L_rebuild 5 [(0, 10, 13, 13), (0, 10, 17, 19), (0, 10, 21, 21), (0, 10, 25, 23)] 8 1 6 [.ref (Ω.2.1 + 0), .int x, .int z, .ref (Ω.2.1 + 722)] X Y (sm_det (some (.int (nI 4))) X Y) := by
  refine sm_introW (own := RL) (L := [some (.ref (Ω.2.1 + 0)), some (.int x), some (.int z), some (.ref (Ω.2.1 + 722)), none]) (by decide) rfl (by simp [Value.category]) (Nat.le_of_ble_eq_true rfl) rfl ?_
  intro Γ C I ht hNC
  refine sg_aln (pc := 0) C d_L_rebuild_0 rfl ?_
  refine sg_ic (pc := 1) (v := 0) C d_L_rebuild_1 (by decide) ?_
  refine sg_aln (pc := 2) C d_L_rebuild_2 rfl ?_
  refine sg_iln (pc := 3) C d_L_rebuild_3 rfl ?_
  refine sg_iln (pc := 4) C d_L_rebuild_4 rfl ?_
  refine sm_callVC (pc := 5) (As := [.int x, .int z]) C I hm cw_L_52 iw_S_rebuild (C.1.2.2.2.2 _ (List.mem_cons_of_mem _ se_S_rebuild)) (by decide) rfl rfl rfl rfl (by omega) rfl (Nat.le_of_ble_eq_true rfl) d_L_rebuild_5 [⟨0, 10, 13, 13⟩, ⟨0, 10, 17, 19⟩, ⟨0, 10, 21, 21⟩] ⟨0, 10, 25, 23⟩ [] ht (List.forall_mem_cons.mpr ⟨Or.inr ⟨by decide, eIO, cl_L_13, hNC (eUO, eIO) (List.mem_of_getElem? (i := 3) rfl)⟩, List.forall_mem_cons.mpr ⟨Or.inr ⟨by decide, eIA, cl_L_19, hNC (eUO, eIA) (List.mem_of_getElem? (i := 4) rfl)⟩, List.forall_mem_cons.mpr ⟨Or.inr ⟨by decide, eIS, cl_L_21, hNC (eUO, eIS) (List.mem_of_getElem? (i := 5) rfl)⟩, fun _ h => absurd h List.not_mem_nil⟩⟩⟩) (by decide) (by decide) cl_L_23 (List.mem_of_getElem? (i := 3) rfl) (fun q => ?_)
  refine sg_as4 (pc := 25) C d_L_rebuild_25 ?_
  refine sg_ic (pc := 27) (v := 4) C d_L_rebuild_27 (by decide) ?_
  exact sg_iret (pc := 28) C I rfl rfl d_L_rebuild_28 ⟨rfl, rfl, rfl⟩

set_option maxHeartbeats 4000000 in
set_option maxRecDepth 100000 in
theorem w_node (l : Launch) (Ω : sm_Ω) {X : sm_X} {Y : sm_R} {d : Nat} {x z : Int32} {post : Option Value → sm_X → sm_R → Prop} (hd : d ≤ 7) (hm : sm_met l Ω y_S_node b_S_node 3 (some .int) d 723 [.ref (Ω.2.1 + 0), .int x, .int z] X Y post) (hp : ∀ r X2 Y2, post r X2 Y2 → ∃ y : Int32, r = some (.int y)) : sm_wm l Ω y_L_node b_L_node 5 [(0, 10, 13, 13)] 8 0 0 [.ref (Ω.2.1 + 0), .int x, .int z, .ref (Ω.2.1 + 722)] X Y (fun r X2 Y2 => r = some (.int (nI 0)) ∧ ∃ y X1, post (some (.int y)) X1 Y2 ∧ X2 = sm_up X1 722 0 (lI y)) := by
  refine sm_introW (own := RL) (L := [some (.ref (Ω.2.1 + 0)), some (.int x), some (.int z), some (.ref (Ω.2.1 + 722)), none]) (by decide) rfl (by simp [Value.category]) (Nat.le_of_ble_eq_true rfl) rfl ?_
  intro Γ C I ht hNC
  refine sg_aln (pc := 0) C d_L_node_0 rfl ?_
  refine sg_ic (pc := 1) (v := 0) C d_L_node_1 (by decide) ?_
  refine sg_aln (pc := 2) C d_L_node_2 rfl ?_
  refine sg_iln (pc := 3) C d_L_node_3 rfl ?_
  refine sg_iln (pc := 4) C d_L_node_4 rfl ?_
  refine sm_callV (pc := 5) (As := [.int x, .int z]) C I hm cw_L_55 iw_S_node (C.1.2.2.2.2 _ (List.mem_cons_of_mem _ se_S_node)) (by decide) rfl rfl rfl rfl (by omega) ⟨by decide, by decide⟩ rfl (Nat.le_of_ble_eq_true rfl) d_L_node_5 (fun r X1 Y1 hr => ?_)
  obtain ⟨y, rfl⟩ := hp r X1 Y1 hr
  refine sm_di ?_
  refine sr_i2l (pc := 8) C d_L_node_8 (lI_l y) ?_
  refine sg_last (pc := 9) (n := 1) C (by decide) rfl (by decide) (by decide) d_L_node_9 ?_
  refine sg_goto (pc := 10) (tgt := 17) C d_L_node_10 (by decide) ?_
  refine sg_ic (pc := 17) (v := 0) C d_L_node_17 (by decide) ?_
  exact sg_iret (pc := 18) C I rfl rfl d_L_node_18 ⟨rfl, y, X1, hr, rfl⟩

set_option maxHeartbeats 4000000 in
set_option maxRecDepth 100000 in
theorem w_node_x1 (l : Launch) (Ω : sm_Ω) {X : sm_X} {Y : sm_R} {d : Nat} {x z : Int32} (hd : d ≤ 7) (hm : sm_thr l Ω y_S_node b_S_node 3 (some .int) d [.ref (Ω.2.1 + 0), .int x, .int z] X Y eIO) : sm_wm l Ω y_L_node b_L_node 5 [(0, 10, 13, 13)] 8 1 6 [.ref (Ω.2.1 + 0), .int x, .int z, .ref (Ω.2.1 + 722)] X Y (sm_det (some (.int (nI 1))) X Y) := by
  refine sm_introW (own := RL) (L := [some (.ref (Ω.2.1 + 0)), some (.int x), some (.int z), some (.ref (Ω.2.1 + 722)), none]) (by decide) rfl (by simp [Value.category]) (Nat.le_of_ble_eq_true rfl) rfl ?_
  intro Γ C I ht hNC
  refine sg_aln (pc := 0) C d_L_node_0 rfl ?_
  refine sg_ic (pc := 1) (v := 0) C d_L_node_1 (by decide) ?_
  refine sg_aln (pc := 2) C d_L_node_2 rfl ?_
  refine sg_iln (pc := 3) C d_L_node_3 rfl ?_
  refine sg_iln (pc := 4) C d_L_node_4 rfl ?_
  refine sm_callVC (pc := 5) (As := [.int x, .int z]) C I hm cw_L_55 iw_S_node (C.1.2.2.2.2 _ (List.mem_cons_of_mem _ se_S_node)) (by decide) rfl rfl rfl rfl (by omega) rfl (Nat.le_of_ble_eq_true rfl) d_L_node_5 [] ⟨0, 10, 13, 13⟩ [] ht (fun _ h => absurd h List.not_mem_nil) (by decide) (by decide) cl_L_13 (List.mem_of_getElem? (i := 0) rfl) (fun q => ?_)
  refine sg_as4 (pc := 13) C d_L_node_13 ?_
  refine sg_ic (pc := 15) (v := 1) C d_L_node_15 (by decide) ?_
  exact sg_iret (pc := 16) C I rfl rfl d_L_node_16 ⟨rfl, rfl, rfl⟩

set_option maxHeartbeats 4000000 in
set_option maxRecDepth 100000 in
theorem w_share (l : Launch) (Ω : sm_Ω) {X : sm_X} {Y : sm_R} {d : Nat} {x z u : Int32} {post : Option Value → sm_X → sm_R → Prop} (hd : d ≤ 7) (hm : sm_met l Ω y_S_share b_S_share 5 (some .int) d 723 [.ref (Ω.2.1 + 0), .int x, .int z, .int u] X Y post) (hp : ∀ r X2 Y2, post r X2 Y2 → ∃ y : Int32, r = some (.int y)) : sm_wm l Ω y_L_share b_L_share 6 [(0, 12, 15, 13)] 8 0 0 [.ref (Ω.2.1 + 0), .int x, .int z, .int u, .ref (Ω.2.1 + 722)] X Y (fun r X2 Y2 => r = some (.int (nI 0)) ∧ ∃ y X1, post (some (.int y)) X1 Y2 ∧ X2 = sm_up X1 722 0 (lI y)) := by
  refine sm_introW (own := RL) (L := [some (.ref (Ω.2.1 + 0)), some (.int x), some (.int z), some (.int u), some (.ref (Ω.2.1 + 722)), none]) (by decide) rfl (by simp [Value.category]) (Nat.le_of_ble_eq_true rfl) rfl ?_
  intro Γ C I ht hNC
  refine sg_al (pc := 0) C d_L_share_0 rfl ?_
  refine sg_ic (pc := 2) (v := 0) C d_L_share_2 (by decide) ?_
  refine sg_aln (pc := 3) C d_L_share_3 rfl ?_
  refine sg_iln (pc := 4) C d_L_share_4 rfl ?_
  refine sg_iln (pc := 5) C d_L_share_5 rfl ?_
  refine sg_iln (pc := 6) C d_L_share_6 rfl ?_
  refine sm_callV (pc := 7) (As := [.int x, .int z, .int u]) C I hm cw_L_58 iw_S_share (C.1.2.2.2.2 _ (List.mem_cons_of_mem _ se_S_share)) (by decide) rfl rfl rfl rfl (by omega) ⟨by decide, by decide⟩ rfl (Nat.le_of_ble_eq_true rfl) d_L_share_7 (fun r X1 Y1 hr => ?_)
  obtain ⟨y, rfl⟩ := hp r X1 Y1 hr
  refine sm_di ?_
  refine sr_i2l (pc := 10) C d_L_share_10 (lI_l y) ?_
  refine sg_last (pc := 11) (n := 1) C (by decide) rfl (by decide) (by decide) d_L_share_11 ?_
  refine sg_goto (pc := 12) (tgt := 19) C d_L_share_12 (by decide) ?_
  refine sg_ic (pc := 19) (v := 0) C d_L_share_19 (by decide) ?_
  exact sg_iret (pc := 20) C I rfl rfl d_L_share_20 ⟨rfl, y, X1, hr, rfl⟩

set_option maxHeartbeats 4000000 in
set_option maxRecDepth 100000 in
theorem w_share_x1 (l : Launch) (Ω : sm_Ω) {X : sm_X} {Y : sm_R} {d : Nat} {x z u : Int32} (hd : d ≤ 7) (hm : sm_thr l Ω y_S_share b_S_share 5 (some .int) d [.ref (Ω.2.1 + 0), .int x, .int z, .int u] X Y eIO) : sm_wm l Ω y_L_share b_L_share 6 [(0, 12, 15, 13)] 8 1 6 [.ref (Ω.2.1 + 0), .int x, .int z, .int u, .ref (Ω.2.1 + 722)] X Y (sm_det (some (.int (nI 1))) X Y) := by
  refine sm_introW (own := RL) (L := [some (.ref (Ω.2.1 + 0)), some (.int x), some (.int z), some (.int u), some (.ref (Ω.2.1 + 722)), none]) (by decide) rfl (by simp [Value.category]) (Nat.le_of_ble_eq_true rfl) rfl ?_
  intro Γ C I ht hNC
  refine sg_al (pc := 0) C d_L_share_0 rfl ?_
  refine sg_ic (pc := 2) (v := 0) C d_L_share_2 (by decide) ?_
  refine sg_aln (pc := 3) C d_L_share_3 rfl ?_
  refine sg_iln (pc := 4) C d_L_share_4 rfl ?_
  refine sg_iln (pc := 5) C d_L_share_5 rfl ?_
  refine sg_iln (pc := 6) C d_L_share_6 rfl ?_
  refine sm_callVC (pc := 7) (As := [.int x, .int z, .int u]) C I hm cw_L_58 iw_S_share (C.1.2.2.2.2 _ (List.mem_cons_of_mem _ se_S_share)) (by decide) rfl rfl rfl rfl (by omega) rfl (Nat.le_of_ble_eq_true rfl) d_L_share_7 [] ⟨0, 12, 15, 13⟩ [] ht (fun _ h => absurd h List.not_mem_nil) (by decide) (by decide) cl_L_13 (List.mem_of_getElem? (i := 0) rfl) (fun q => ?_)
  refine sg_as5 (pc := 15) C d_L_share_15 ?_
  refine sg_ic (pc := 17) (v := 1) C d_L_share_17 (by decide) ?_
  exact sg_iret (pc := 18) C I rfl rfl d_L_share_18 ⟨rfl, rfl, rfl⟩

set_option maxHeartbeats 4000000 in
set_option maxRecDepth 100000 in
theorem w_byteAt (l : Launch) (Ω : sm_Ω) {X : sm_X} {Y : sm_R} {d : Nat} {x z u : Int32} {post : Option Value → sm_X → sm_R → Prop} (hd : d ≤ 7) (hm : sm_met l Ω y_S_byteAt b_S_byteAt 5 (some .int) d 723 [.ref (Ω.2.1 + 0), .int x, .int z, .int u] X Y post) (hp : ∀ r X2 Y2, post r X2 Y2 → ∃ y : Int32, r = some (.int y)) : sm_wm l Ω y_L_byteAt b_L_byteAt 6 [(0, 12, 15, 13)] 8 0 0 [.ref (Ω.2.1 + 0), .int x, .int z, .int u, .ref (Ω.2.1 + 722)] X Y (fun r X2 Y2 => r = some (.int (nI 0)) ∧ ∃ y X1, post (some (.int y)) X1 Y2 ∧ X2 = sm_up X1 722 0 (lI y)) := by
  refine sm_introW (own := RL) (L := [some (.ref (Ω.2.1 + 0)), some (.int x), some (.int z), some (.int u), some (.ref (Ω.2.1 + 722)), none]) (by decide) rfl (by simp [Value.category]) (Nat.le_of_ble_eq_true rfl) rfl ?_
  intro Γ C I ht hNC
  refine sg_al (pc := 0) C d_L_byteAt_0 rfl ?_
  refine sg_ic (pc := 2) (v := 0) C d_L_byteAt_2 (by decide) ?_
  refine sg_aln (pc := 3) C d_L_byteAt_3 rfl ?_
  refine sg_iln (pc := 4) C d_L_byteAt_4 rfl ?_
  refine sg_iln (pc := 5) C d_L_byteAt_5 rfl ?_
  refine sg_iln (pc := 6) C d_L_byteAt_6 rfl ?_
  refine sm_callV (pc := 7) (As := [.int x, .int z, .int u]) C I hm cw_L_62 iw_S_byteAt (C.1.2.2.2.2 _ (List.mem_cons_of_mem _ se_S_byteAt)) (by decide) rfl rfl rfl rfl (by omega) ⟨by decide, by decide⟩ rfl (Nat.le_of_ble_eq_true rfl) d_L_byteAt_7 (fun r X1 Y1 hr => ?_)
  obtain ⟨y, rfl⟩ := hp r X1 Y1 hr
  refine sm_di ?_
  refine sr_i2l (pc := 10) C d_L_byteAt_10 (lI_l y) ?_
  refine sg_last (pc := 11) (n := 1) C (by decide) rfl (by decide) (by decide) d_L_byteAt_11 ?_
  refine sg_goto (pc := 12) (tgt := 19) C d_L_byteAt_12 (by decide) ?_
  refine sg_ic (pc := 19) (v := 0) C d_L_byteAt_19 (by decide) ?_
  exact sg_iret (pc := 20) C I rfl rfl d_L_byteAt_20 ⟨rfl, y, X1, hr, rfl⟩

set_option maxHeartbeats 4000000 in
set_option maxRecDepth 100000 in
theorem w_byteAt_x1 (l : Launch) (Ω : sm_Ω) {X : sm_X} {Y : sm_R} {d : Nat} {x z u : Int32} (hd : d ≤ 7) (hm : sm_thr l Ω y_S_byteAt b_S_byteAt 5 (some .int) d [.ref (Ω.2.1 + 0), .int x, .int z, .int u] X Y eIO) : sm_wm l Ω y_L_byteAt b_L_byteAt 6 [(0, 12, 15, 13)] 8 1 6 [.ref (Ω.2.1 + 0), .int x, .int z, .int u, .ref (Ω.2.1 + 722)] X Y (sm_det (some (.int (nI 1))) X Y) := by
  refine sm_introW (own := RL) (L := [some (.ref (Ω.2.1 + 0)), some (.int x), some (.int z), some (.int u), some (.ref (Ω.2.1 + 722)), none]) (by decide) rfl (by simp [Value.category]) (Nat.le_of_ble_eq_true rfl) rfl ?_
  intro Γ C I ht hNC
  refine sg_al (pc := 0) C d_L_byteAt_0 rfl ?_
  refine sg_ic (pc := 2) (v := 0) C d_L_byteAt_2 (by decide) ?_
  refine sg_aln (pc := 3) C d_L_byteAt_3 rfl ?_
  refine sg_iln (pc := 4) C d_L_byteAt_4 rfl ?_
  refine sg_iln (pc := 5) C d_L_byteAt_5 rfl ?_
  refine sg_iln (pc := 6) C d_L_byteAt_6 rfl ?_
  refine sm_callVC (pc := 7) (As := [.int x, .int z, .int u]) C I hm cw_L_62 iw_S_byteAt (C.1.2.2.2.2 _ (List.mem_cons_of_mem _ se_S_byteAt)) (by decide) rfl rfl rfl rfl (by omega) rfl (Nat.le_of_ble_eq_true rfl) d_L_byteAt_7 [] ⟨0, 12, 15, 13⟩ [] ht (fun _ h => absurd h List.not_mem_nil) (by decide) (by decide) cl_L_13 (List.mem_of_getElem? (i := 0) rfl) (fun q => ?_)
  refine sg_as5 (pc := 15) C d_L_byteAt_15 ?_
  refine sg_ic (pc := 17) (v := 1) C d_L_byteAt_17 (by decide) ?_
  exact sg_iret (pc := 18) C I rfl rfl d_L_byteAt_18 ⟨rfl, rfl, rfl⟩

set_option maxHeartbeats 4000000 in
set_option maxRecDepth 100000 in
theorem w_field (l : Launch) (Ω : sm_Ω) {X : sm_X} {Y : sm_R} {d : Nat} {x z u : Int32} {post : Option Value → sm_X → sm_R → Prop} (hd : d ≤ 7) (hm : sm_met l Ω y_S_field b_S_field 4 (some .int) d 723 [.ref (Ω.2.1 + 0), .int x, .int z, .int u] X Y post) (hp : ∀ r X2 Y2, post r X2 Y2 → ∃ y : Int32, r = some (.int y)) : sm_wm l Ω y_L_field b_L_field 6 [(0, 12, 15, 13), (0, 12, 19, 19)] 8 0 0 [.ref (Ω.2.1 + 0), .int x, .int z, .int u, .ref (Ω.2.1 + 722)] X Y (fun r X2 Y2 => r = some (.int (nI 0)) ∧ ∃ y X1, post (some (.int y)) X1 Y2 ∧ X2 = sm_up X1 722 0 (lI y)) := by
  refine sm_introW (own := RL) (L := [some (.ref (Ω.2.1 + 0)), some (.int x), some (.int z), some (.int u), some (.ref (Ω.2.1 + 722)), none]) (by decide) rfl (by simp [Value.category]) (Nat.le_of_ble_eq_true rfl) rfl ?_
  intro Γ C I ht hNC
  refine sg_al (pc := 0) C d_L_field_0 rfl ?_
  refine sg_ic (pc := 2) (v := 0) C d_L_field_2 (by decide) ?_
  refine sg_aln (pc := 3) C d_L_field_3 rfl ?_
  refine sg_iln (pc := 4) C d_L_field_4 rfl ?_
  refine sg_iln (pc := 5) C d_L_field_5 rfl ?_
  refine sg_iln (pc := 6) C d_L_field_6 rfl ?_
  refine sm_callV (pc := 7) (As := [.int x, .int z, .int u]) C I hm cw_L_65 iw_S_field (C.1.2.2.2.2 _ (List.mem_cons_of_mem _ se_S_field)) (by decide) rfl rfl rfl rfl (by omega) ⟨by decide, by decide⟩ rfl (Nat.le_of_ble_eq_true rfl) d_L_field_7 (fun r X1 Y1 hr => ?_)
  obtain ⟨y, rfl⟩ := hp r X1 Y1 hr
  refine sm_di ?_
  refine sr_i2l (pc := 10) C d_L_field_10 (lI_l y) ?_
  refine sg_last (pc := 11) (n := 1) C (by decide) rfl (by decide) (by decide) d_L_field_11 ?_
  refine sg_goto (pc := 12) (tgt := 23) C d_L_field_12 (by decide) ?_
  refine sg_ic (pc := 23) (v := 0) C d_L_field_23 (by decide) ?_
  exact sg_iret (pc := 24) C I rfl rfl d_L_field_24 ⟨rfl, y, X1, hr, rfl⟩

set_option maxHeartbeats 4000000 in
set_option maxRecDepth 100000 in
theorem w_field_x1 (l : Launch) (Ω : sm_Ω) {X : sm_X} {Y : sm_R} {d : Nat} {x z u : Int32} (hd : d ≤ 7) (hm : sm_thr l Ω y_S_field b_S_field 4 (some .int) d [.ref (Ω.2.1 + 0), .int x, .int z, .int u] X Y eIO) : sm_wm l Ω y_L_field b_L_field 6 [(0, 12, 15, 13), (0, 12, 19, 19)] 8 1 6 [.ref (Ω.2.1 + 0), .int x, .int z, .int u, .ref (Ω.2.1 + 722)] X Y (sm_det (some (.int (nI 1))) X Y) := by
  refine sm_introW (own := RL) (L := [some (.ref (Ω.2.1 + 0)), some (.int x), some (.int z), some (.int u), some (.ref (Ω.2.1 + 722)), none]) (by decide) rfl (by simp [Value.category]) (Nat.le_of_ble_eq_true rfl) rfl ?_
  intro Γ C I ht hNC
  refine sg_al (pc := 0) C d_L_field_0 rfl ?_
  refine sg_ic (pc := 2) (v := 0) C d_L_field_2 (by decide) ?_
  refine sg_aln (pc := 3) C d_L_field_3 rfl ?_
  refine sg_iln (pc := 4) C d_L_field_4 rfl ?_
  refine sg_iln (pc := 5) C d_L_field_5 rfl ?_
  refine sg_iln (pc := 6) C d_L_field_6 rfl ?_
  refine sm_callVC (pc := 7) (As := [.int x, .int z, .int u]) C I hm cw_L_65 iw_S_field (C.1.2.2.2.2 _ (List.mem_cons_of_mem _ se_S_field)) (by decide) rfl rfl rfl rfl (by omega) rfl (Nat.le_of_ble_eq_true rfl) d_L_field_7 [] ⟨0, 12, 15, 13⟩ [⟨0, 12, 19, 19⟩] ht (fun _ h => absurd h List.not_mem_nil) (by decide) (by decide) cl_L_13 (List.mem_of_getElem? (i := 0) rfl) (fun q => ?_)
  refine sg_as5 (pc := 15) C d_L_field_15 ?_
  refine sg_ic (pc := 17) (v := 1) C d_L_field_17 (by decide) ?_
  exact sg_iret (pc := 18) C I rfl rfl d_L_field_18 ⟨rfl, rfl, rfl⟩

set_option maxHeartbeats 4000000 in
set_option maxRecDepth 100000 in
theorem w_field_x2 (l : Launch) (Ω : sm_Ω) {X : sm_X} {Y : sm_R} {d : Nat} {x z u : Int32} (hd : d ≤ 7) (hm : sm_thr l Ω y_S_field b_S_field 4 (some .int) d [.ref (Ω.2.1 + 0), .int x, .int z, .int u] X Y eIA) : sm_wm l Ω y_L_field b_L_field 6 [(0, 12, 15, 13), (0, 12, 19, 19)] 8 1 6 [.ref (Ω.2.1 + 0), .int x, .int z, .int u, .ref (Ω.2.1 + 722)] X Y (sm_det (some (.int (nI 2))) X Y) := by
  refine sm_introW (own := RL) (L := [some (.ref (Ω.2.1 + 0)), some (.int x), some (.int z), some (.int u), some (.ref (Ω.2.1 + 722)), none]) (by decide) rfl (by simp [Value.category]) (Nat.le_of_ble_eq_true rfl) rfl ?_
  intro Γ C I ht hNC
  refine sg_al (pc := 0) C d_L_field_0 rfl ?_
  refine sg_ic (pc := 2) (v := 0) C d_L_field_2 (by decide) ?_
  refine sg_aln (pc := 3) C d_L_field_3 rfl ?_
  refine sg_iln (pc := 4) C d_L_field_4 rfl ?_
  refine sg_iln (pc := 5) C d_L_field_5 rfl ?_
  refine sg_iln (pc := 6) C d_L_field_6 rfl ?_
  refine sm_callVC (pc := 7) (As := [.int x, .int z, .int u]) C I hm cw_L_65 iw_S_field (C.1.2.2.2.2 _ (List.mem_cons_of_mem _ se_S_field)) (by decide) rfl rfl rfl rfl (by omega) rfl (Nat.le_of_ble_eq_true rfl) d_L_field_7 [⟨0, 12, 15, 13⟩] ⟨0, 12, 19, 19⟩ [] ht (List.forall_mem_cons.mpr ⟨Or.inr ⟨by decide, eIO, cl_L_13, hNC (eIA, eIO) (List.mem_of_getElem? (i := 0) rfl)⟩, fun _ h => absurd h List.not_mem_nil⟩) (by decide) (by decide) cl_L_19 (List.mem_of_getElem? (i := 1) rfl) (fun q => ?_)
  refine sg_as5 (pc := 19) C d_L_field_19 ?_
  refine sg_ic (pc := 21) (v := 2) C d_L_field_21 (by decide) ?_
  exact sg_iret (pc := 22) C I rfl rfl d_L_field_22 ⟨rfl, rfl, rfl⟩
