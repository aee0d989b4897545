/-! THE REFERENCE: its small helpers -/
def bR (x : Int32) (n : Nat) : Prop := nI 0 ≤ x ∧ x ≤ nI (n - 1)
theorem bR_iff {x : Int32} {n : Nat} (h1 : 1 ≤ n) (hn : n < 2147483648) : bR x n ↔ iR x n := by
  constructor
  · intro ⟨a, b⟩
    rcases pk_ix x (n := n) hn with h | h | ⟨j, hj, e⟩
    · exact absurd h (Int32.not_lt.mpr a)
    · exact absurd (Int32.lt_of_lt_of_le (nI_lt (show n - 1 < n by omega) hn) h) (Int32.not_lt.mpr b)
    · exact ⟨j, hj, e⟩
  · rintro ⟨j, hj, rfl⟩
    exact ⟨nI_le (Nat.zero_le j) (by omega), nI_le (by omega) (by omega)⟩
set_option maxHeartbeats 4000000 in
set_option maxRecDepth 100000 in
theorem c_X7_isIn (G : gG) (z0 : Nat) (l : Launch) {h : gH} (x lo hi : Int32) : gC G z0 l yX7_isIn wsX7_isIn 0 0 [.int x, .int lo, .int hi] h (fun v h' => v = some (.int (if lo ≤ x ∧ x ≤ hi then nI 1 else nI 0)) ∧ h' = h) 0 0 := by
  refine gC_of (cc := cX7_isIn) (nL := 3) (ret := (some .boolean)) (by decide) rfl (Nat.le_of_ble_eq_true rfl) ?_
  intro X F E _
  change gF G z0 X cX7_isIn 3 RX7 wsX7_isIn (some .boolean) "isIn" 0 0 _ _ at F
  show gV G z0 X 0 0 h 0 [(0, .int x), (1, .int lo), (2, .int hi)] []
  refine v_iload_n (pc' := 1) F dX7_isIn_0 rfl (j := 0) rfl rfl ?_
  refine v_iload_n (pc' := 2) F dX7_isIn_1 rfl (j := 1) rfl rfl ?_
  refine v_icmp_lt (tgt := 14) (pc' := 5) F dX7_isIn_2 (by decide) rfl (fun c1 => ?_) (fun c1 => ?_)
  · refine v_iconst (pc' := 15) (v := nI 0) F dX7_isIn_14 (by decide) rfl ?_
    refine v_zret F E (by omega) (by omega) (by decide) dX7_isIn_15 ?_
    exact ⟨by rw [if_neg (fun z => absurd c1 (Int32.not_lt.mpr z.1))], rfl⟩
  · refine v_iload_n (pc' := 6) F dX7_isIn_5 rfl (j := 0) rfl rfl ?_
    refine v_iload_n (pc' := 7) F dX7_isIn_6 rfl (j := 2) rfl rfl ?_
    refine v_icmp_gt (tgt := 14) (pc' := 10) F dX7_isIn_7 (by decide) rfl (fun c2 => ?_) (fun c2 => ?_)
    · refine v_iconst (pc' := 15) (v := nI 0) F dX7_isIn_14 (by decide) rfl ?_
      refine v_zret F E (by omega) (by omega) (by decide) dX7_isIn_15 ?_
      exact ⟨by rw [if_neg (fun z => absurd c2 (Int32.not_lt.mpr z.2))], rfl⟩
    · refine v_iconst (pc' := 11) (v := nI 1) F dX7_isIn_10 (by decide) rfl ?_
      refine v_goto (tgt := 15) F dX7_isIn_11 (by decide) ?_
      refine v_zret F E (by omega) (by omega) (by decide) dX7_isIn_15 ?_
      exact ⟨by rw [if_pos ⟨Int32.not_lt.mp c1, Int32.not_lt.mp c2⟩], rfl⟩
theorem k_X7_get_7 : gCl wsX7_get 7 RX7 TX7 26 := ⟨by decide +kernel, rfl⟩
theorem m_X7_get_f7 : Cond.fieldLink RX7 7 "SteadyQueuesModel" "rows" "[I" ∈ wsX7_get := by decide +kernel
theorem m_X7_get_f47 : Cond.fieldLink RX7 47 "SteadyQueuesModel" "now" "I" ∈ wsX7_get := by decide +kernel
set_option maxHeartbeats 4000000 in
set_option maxRecDepth 100000 in
theorem c_X7_get (G : gG) (z0 : Nat) (l : Launch) {h : gH} {m rows asd now vals many way told oth lst text : Nat} {th und fl rl kd ok st wm fed len spot fa fat num frm may : Int32} {R : Nat → Int32} {k : Nat} (hm : h m = some (.inr (7, [.int th, .ref rows, .ref asd, .int (nI now), .int und, .ref vals, .ref many, .int fl, .int rl, .int kd, .int ok, .int st, .ref way, .int wm, .ref told, .ref oth, .ref lst, .ref text, .int fed, .int len, .int spot, .int fa, .int fat, .int num, .int frm, .int may]))) (hrows : h rows = some (oI G 2970 R)) (hnow : now < 9) (hk : k < 330) : gC G z0 l yX7_get wsX7_get 0 0 [.ref m, .int (nI k)] h (fun v h' => v = some (.int (R (330 * now + k))) ∧ h' = h) 0 0 := by
  refine gC_of (cc := cX7_get) (nL := 2) (ret := (some .int)) (by decide) rfl (Nat.le_of_ble_eq_true rfl) ?_
  intro X F E _
  change gF G z0 X cX7_get 2 RX7 wsX7_get (some .int) "get" 0 0 _ _ at F
  show gV G z0 X 0 0 h 0 [(0, .ref m), (1, .int (nI k))] []
  refine v_aload_n (pc' := 1) F dX7_get_0 rfl (j := 0) rfl rfl ?_
  refine v_getf (pc' := 4) (v := .ref rows) F k_X7_get_7 hm 1 (by decide) m_X7_get_f7 rfl dX7_get_1 rfl ?_
  refine v_sipush (pc' := 7) (v := nI 330) F dX7_get_4 (by decide) rfl ?_
  refine v_aload_n (pc' := 8) F dX7_get_7 rfl (j := 0) rfl rfl ?_
  refine v_getf (pc' := 11) (v := .int (nI now)) F k_X7_get_7 hm 3 (by decide) m_X7_get_f47 rfl dX7_get_8 rfl ?_
  refine v_imul (pc' := 12) (v := nI (330 * now)) F dX7_get_11 (pk_mul 330 now) rfl ?_
  refine v_iload_n (pc' := 13) F dX7_get_12 rfl (j := 1) rfl rfl ?_
  refine v_iadd (pc' := 14) (v := nI (330 * now + k)) F dX7_get_13 (nI_add (330 * now) k) rfl ?_
  refine w_iald (pc' := 15) (v := R (330 * now + k)) F hrows (by omega) (by omega) rfl dX7_get_14 rfl ?_
  exact v_iret F E (by omega) (by omega)  dX7_get_15 ⟨rfl, rfl⟩
theorem k_X7_put_7 : gCl wsX7_put 7 RX7 TX7 26 := ⟨by decide +kernel, rfl⟩
theorem m_X7_put_f7 : Cond.fieldLink RX7 7 "SteadyQueuesModel" "rows" "[I" ∈ wsX7_put := by decide +kernel
theorem m_X7_put_f47 : Cond.fieldLink RX7 47 "SteadyQueuesModel" "now" "I" ∈ wsX7_put := by decide +kernel
set_option maxHeartbeats 4000000 in
set_option maxRecDepth 100000 in
theorem c_X7_put (G : gG) (z0 : Nat) (l : Launch) {h : gH} {m rows asd now vals many way told oth lst text : Nat} {th und fl rl kd ok st wm fed len spot fa fat num frm may : Int32} {R : Nat → Int32} {k : Nat} (y : Int32) (hm : h m = some (.inr (7, [.int th, .ref rows, .ref asd, .int (nI now), .int und, .ref vals, .ref many, .int fl, .int rl, .int kd, .int ok, .int st, .ref way, .int wm, .ref told, .ref oth, .ref lst, .ref text, .int fed, .int len, .int spot, .int fa, .int fat, .int num, .int frm, .int may]))) (hrows : h rows = some (oI G 2970 R)) (hnow : now < 9) (hk : k < 330) : gC G z0 l yX7_put wsX7_put 0 0 [.ref m, .int (nI k), .int y] h (fun v h' => v = none ∧ h' rows = some (oI G 2970 (upd R (330 * now + k) y)) ∧ gfr [rows] h h') 0 0 := by
  refine gC_of (cc := cX7_put) (nL := 3) (ret := none) (by decide) rfl (Nat.le_of_ble_eq_true rfl) ?_
  intro X F E _
  change gF G z0 X cX7_put 3 RX7 wsX7_put none "put" 0 0 _ _ at F
  show gV G z0 X 0 0 h 0 [(0, .ref m), (1, .int (nI k)), (2, .int y)] []
  refine v_aload_n (pc' := 1) F dX7_put_0 rfl (j := 0) rfl rfl ?_
  refine v_getf (pc' := 4) (v := .ref rows) F k_X7_put_7 hm 1 (by decide) m_X7_put_f7 rfl dX7_put_1 rfl ?_
  refine v_sipush (pc' := 7) (v := nI 330) F dX7_put_4 (by decide) rfl ?_
  refine v_aload_n (pc' := 8) F dX7_put_7 rfl (j := 0) rfl rfl ?_
  refine v_getf (pc' := 11) (v := .int (nI now)) F k_X7_put_7 hm 3 (by decide) m_X7_put_f47 rfl dX7_put_8 rfl ?_
  refine v_imul (pc' := 12) (v := nI (330 * now)) F dX7_put_11 (pk_mul 330 now) rfl ?_
  refine v_iload_n (pc' := 13) F dX7_put_12 rfl (j := 1) rfl rfl ?_
  refine v_iadd (pc' := 14) (v := nI (330 * now + k)) F dX7_put_13 (nI_add (330 * now) k) rfl ?_
  refine v_iload_n (pc' := 15) F dX7_put_14 rfl (j := 2) rfl rfl ?_
  refine w_iast (pc' := 16) F hrows (by omega) (by omega) dX7_put_15 rfl (fun h1 a2 f3 => ?_)
  have fr4 : gfr [rows] h h1 := f3
  exact v_vret F E (by omega) (by omega)  dX7_put_16 ⟨rfl, a2, fr4⟩
theorem hv_X7_get : yX7_get.cls = RX7 ∧ yX7_get.cls ≠ "java/lang/invoke/MethodHandle" ∧ yX7_get.cls ≠ "java/lang/invoke/VarHandle" ∧ (parseMethodDescriptor yX7_get.desc).map (fun d => d.parameters.length) = some 1 := by decide +kernel
set_option maxHeartbeats 4000000 in
set_option maxRecDepth 100000 in
theorem c_X7_of (G : gG) (z0 : Nat) (l : Launch) {h : gH} {m rows asd now vals many way told oth lst text : Nat} {th und fl rl kd ok st wm fed len spot fa fat num frm may : Int32} {R : Nat → Int32} {v w : Nat} (hm : h m = some (.inr (7, [.int th, .ref rows, .ref asd, .int (nI now), .int und, .ref vals, .ref many, .int fl, .int rl, .int kd, .int ok, .int st, .ref way, .int wm, .ref told, .ref oth, .ref lst, .ref text, .int fed, .int len, .int spot, .int fa, .int fat, .int num, .int frm, .int may]))) (hrows : h rows = some (oI G 2970 R)) (hnow : now < 9) (hv : v < 64) (hw : w < 5) : gC G z0 l yX7_of wsX7_of 1 21 [.ref m, .int (nI v), .int (nI w)] h (fun o h' => o = some (.int (R (330 * now + (10 + 5 * v + w)))) ∧ h' = h) 0 0 := by
  refine gC_of (cc := cX7_of) (nL := 3) (ret := (some .int)) (by decide) rfl (Nat.le_of_ble_eq_true rfl) ?_
  intro X F E _
  change gF G z0 X cX7_of 3 RX7 wsX7_of (some .int) "of" 1 21 _ _ at F
  show gV G z0 X 0 0 h 0 [(0, .ref m), (1, .int (nI v)), (2, .int (nI w))] []
  refine v_aload_n (pc' := 1) F dX7_of_0 rfl (j := 0) rfl rfl ?_
  refine v_bipush (pc' := 3) (v := nI 10) F dX7_of_1 (by decide) rfl ?_
  refine v_iconst (pc' := 4) (v := nI 5) F dX7_of_3 (by decide) rfl ?_
  refine v_iload_n (pc' := 5) F dX7_of_4 rfl (j := 1) rfl rfl ?_
  refine v_imul (pc' := 6) (v := nI (5 * v)) F dX7_of_5 (pk_mul 5 v) rfl ?_
  refine v_iadd (pc' := 7) (v := nI (10 + (5 * v))) F dX7_of_6 (nI_add 10 (5 * v)) rfl ?_
  refine v_iload_n (pc' := 8) F dX7_of_7 rfl (j := 2) rfl rfl ?_
  refine v_iadd (pc' := 9) (v := nI (10 + (5 * v) + w)) F dX7_of_8 (nI_add (10 + (5 * v)) w) rfl ?_
  refine v_callV (pc' := 12) (rt := (some .int)) (mcc := 0) (msc := 0) (As := [.int (nI (10 + (5 * v) + w))]) (st := []) F (fun l => c_X7_get G z0 l (k := 10 + 5 * v + w) hm hrows hnow (by omega)) gX7_of_X7_get rfl hv_X7_get (by decide) (by decide) hm rfl rfl rfl (Nat.le_of_ble_eq_true rfl) (by omega) (by omega) dX7_of_9 rfl (fun v1 h hq => ?_)
  obtain ⟨rfl, rfl⟩ := hq
  exact v_iret F E (by omega) (by omega)  dX7_of_12 ⟨rfl, rfl⟩
theorem hv_X7_put : yX7_put.cls = RX7 ∧ yX7_put.cls ≠ "java/lang/invoke/MethodHandle" ∧ yX7_put.cls ≠ "java/lang/invoke/VarHandle" ∧ (parseMethodDescriptor yX7_put.desc).map (fun d => d.parameters.length) = some 2 := by decide +kernel
set_option maxHeartbeats 4000000 in
set_option maxRecDepth 100000 in
theorem c_X7_puts (G : gG) (z0 : Nat) (l : Launch) {h : gH} {m rows asd now vals many way told oth lst text : Nat} {th und fl rl kd ok st wm fed len spot fa fat num frm may : Int32} {R : Nat → Int32} {v w : Nat} (y : Int32) (hm : h m = some (.inr (7, [.int th, .ref rows, .ref asd, .int (nI now), .int und, .ref vals, .ref many, .int fl, .int rl, .int kd, .int ok, .int st, .ref way, .int wm, .ref told, .ref oth, .ref lst, .ref text, .int fed, .int len, .int spot, .int fa, .int fat, .int num, .int frm, .int may]))) (hrows : h rows = some (oI G 2970 R)) (hnow : now < 9) (hv : v < 64) (hw : w < 5) : gC G z0 l yX7_puts wsX7_puts 1 22 [.ref m, .int (nI v), .int (nI w), .int y] h (fun o h' => o = none ∧ h' rows = some (oI G 2970 (upd R (330 * now + (10 + 5 * v + w)) y)) ∧ gfr [rows] h h') 0 0 := by
  refine gC_of (cc := cX7_puts) (nL := 4) (ret := none) (by decide) rfl (Nat.le_of_ble_eq_true rfl) ?_
  intro X F E _
  change gF G z0 X cX7_puts 4 RX7 wsX7_puts none "puts" 1 22 _ _ at F
  show gV G z0 X 0 0 h 0 [(0, .ref m), (1, .int (nI v)), (2, .int (nI w)), (3, .int y)] []
  refine v_aload_n (pc' := 1) F dX7_puts_0 rfl (j := 0) rfl rfl ?_
  refine v_bipush (pc' := 3) (v := nI 10) F dX7_puts_1 (by decide) rfl ?_
  refine v_iconst (pc' := 4) (v := nI 5) F dX7_puts_3 (by decide) rfl ?_
  refine v_iload_n (pc' := 5) F dX7_puts_4 rfl (j := 1) rfl rfl ?_
  refine v_imul (pc' := 6) (v := nI (5 * v)) F dX7_puts_5 (pk_mul 5 v) rfl ?_
  refine v_iadd (pc' := 7) (v := nI (10 + (5 * v))) F dX7_puts_6 (nI_add 10 (5 * v)) rfl ?_
  refine v_iload_n (pc' := 8) F dX7_puts_7 rfl (j := 2) rfl rfl ?_
  refine v_iadd (pc' := 9) (v := nI (10 + (5 * v) + w)) F dX7_puts_8 (nI_add (10 + (5 * v)) w) rfl ?_
  refine v_iload_n (pc' := 10) F dX7_puts_9 rfl (j := 3) rfl rfl ?_
  refine v_callV (pc' := 13) (rt := none) (mcc := 0) (msc := 0) (As := [.int (nI (10 + (5 * v) + w)), .int y]) (st := []) F (fun l => c_X7_put G z0 l (k := 10 + 5 * v + w) y hm hrows hnow (by omega)) gX7_puts_X7_put rfl hv_X7_put (by decide) (by decide) hm rfl rfl rfl (Nat.le_of_ble_eq_true rfl) (by omega) (by omega) dX7_puts_10 rfl (fun v2 h1 hq => ?_)
  obtain ⟨rfl, hr2, f2⟩ := hq
  exact v_vret F E (by omega) (by omega)  dX7_puts_13 ⟨rfl, hr2, f2⟩
set_option maxHeartbeats 4000000 in
set_option maxRecDepth 100000 in
theorem c_X7_versions (G : gG) (z0 : Nat) (l : Launch) {h : gH} {m rows asd now vals many way told oth lst text : Nat} {th und fl rl kd ok st wm fed len spot fa fat num frm may : Int32} {R : Nat → Int32} {n : Nat} (hm : h m = some (.inr (7, [.int th, .ref rows, .ref asd, .int (nI now), .int und, .ref vals, .ref many, .int fl, .int rl, .int kd, .int ok, .int st, .ref way, .int wm, .ref told, .ref oth, .ref lst, .ref text, .int fed, .int len, .int spot, .int fa, .int fat, .int num, .int frm, .int may]))) (hrows : h rows = some (oI G 2970 R)) (hnow : now < 9) (hn : R (330 * now) = nI n) : gC G z0 l yX7_versions wsX7_versions 1 21 [.ref m] h (fun v h' => v = some (.int (nI n)) ∧ h' = h) 0 0 := by
  refine gC_of (cc := cX7_versions) (nL := 1) (ret := (some .int)) (by decide) rfl (Nat.le_of_ble_eq_true rfl) ?_
  intro X F E _
  change gF G z0 X cX7_versions 1 RX7 wsX7_versions (some .int) "versions" 1 21 _ _ at F
  show gV G z0 X 0 0 h 0 [(0, .ref m)] []
  refine v_aload_n (pc' := 1) F dX7_versions_0 rfl (j := 0) rfl rfl ?_
  refine v_iconst (pc' := 2) (v := nI 0) F dX7_versions_1 (by decide) rfl ?_
  refine v_callV (pc' := 5) (rt := (some .int)) (mcc := 0) (msc := 0) (As := [.int (nI 0)]) (st := []) F (fun l => c_X7_get G z0 l (k := 0) hm hrows hnow (by omega)) gX7_versions_X7_get rfl hv_X7_get (by decide) (by decide) hm rfl rfl rfl (Nat.le_of_ble_eq_true rfl) (by omega) (by omega) dX7_versions_2 rfl (fun v1 h hq => ?_)
  rw [Nat.add_zero, hn] at hq; obtain ⟨rfl, rfl⟩ := hq
  exact v_iret F E (by omega) (by omega)  dX7_versions_5 ⟨rfl, rfl⟩
theorem hv_X7_versions : yX7_versions.cls = RX7 ∧ yX7_versions.cls ≠ "java/lang/invoke/MethodHandle" ∧ yX7_versions.cls ≠ "java/lang/invoke/VarHandle" ∧ (parseMethodDescriptor yX7_versions.desc).map (fun d => d.parameters.length) = some 0 := by decide +kernel
theorem hd_X7_isIn : yX7_isIn.cls ≠ "java/lang/invoke/MethodHandle" ∧ yX7_isIn.cls ≠ "java/lang/invoke/VarHandle" ∧ (parseMethodDescriptor yX7_isIn.desc).map (fun d => d.parameters.length) = some 3 := by decide +kernel
set_option maxHeartbeats 4000000 in
set_option maxRecDepth 100000 in
theorem c_X7_isVersion (G : gG) (z0 : Nat) (l : Launch) {h : gH} {m rows asd now vals many way told oth lst text : Nat} {th und fl rl kd ok st wm fed len spot fa fat num frm may : Int32} {R : Nat → Int32} {n : Nat} (x : Int32) (hm : h m = some (.inr (7, [.int th, .ref rows, .ref asd, .int (nI now), .int und, .ref vals, .ref many, .int fl, .int rl, .int kd, .int ok, .int st, .ref way, .int wm, .ref told, .ref oth, .ref lst, .ref text, .int fed, .int len, .int spot, .int fa, .int fat, .int num, .int frm, .int may]))) (hrows : h rows = some (oI G 2970 R)) (hnow : now < 9) (hn : R (330 * now) = nI n) (h1n : 1 ≤ n) (hn64 : n ≤ 64) : gC G z0 l yX7_isVersion wsX7_isVersion 2 41 [.ref m, .int x] h (fun v h' => v = some (.int (if nI 0 ≤ x ∧ x ≤ nI (n - 1) then nI 1 else nI 0)) ∧ h' = h) 0 0 := by
  refine gC_of (cc := cX7_isVersion) (nL := 2) (ret := (some .boolean)) (by decide) rfl (Nat.le_of_ble_eq_true rfl) ?_
  intro X F E _
  change gF G z0 X cX7_isVersion 2 RX7 wsX7_isVersion (some .boolean) "isVersion" 2 41 _ _ at F
  show gV G z0 X 0 0 h 0 [(0, .ref m), (1, .int x)] []
  refine v_iload_n (pc' := 1) F dX7_isVersion_0 rfl (j := 1) rfl rfl ?_
  refine v_iconst (pc' := 2) (v := nI 0) F dX7_isVersion_1 (by decide) rfl ?_
  refine v_aload_n (pc' := 3) F dX7_isVersion_2 rfl (j := 0) rfl rfl ?_
  refine v_callV (pc' := 6) (rt := (some .int)) (mcc := 0) (msc := 0) (As := []) (st := [.int (nI 0), .int x]) F (fun l => c_X7_versions G z0 l hm hrows hnow hn) gX7_isVersion_X7_versions rfl hv_X7_versions (by decide) (by decide) hm rfl rfl rfl (Nat.le_of_ble_eq_true rfl) (by omega) (by omega) dX7_isVersion_3 rfl (fun v1 h hq => ?_)
  obtain ⟨rfl, rfl⟩ := hq
  refine v_iconst (pc' := 7) (v := nI 1) F dX7_isVersion_6 (by decide) rfl ?_
  refine v_isub (pc' := 8) (v := nI (n - 1)) F dX7_isVersion_7 (g_subn (by omega) (by omega)) rfl ?_
  refine v_callS (pc' := 11) (rt := (some .boolean)) (mcc := 0) (msc := 0) (As := [.int x, .int (nI 0), .int (nI (n - 1))]) (st := []) F (fun l => c_X7_isIn G z0 l x (nI 0) (nI (n - 1))) gX7_isVersion_X7_isIn rfl hd_X7_isIn (by decide) (by decide) rfl rfl (Nat.le_of_ble_eq_true rfl) (by omega) (by omega) dX7_isVersion_8 rfl (fun v2 h hq => ?_)
  obtain ⟨rfl, rfl⟩ := hq
  refine v_zret F E (by omega) (by omega) (by split <;> decide) dX7_isVersion_11 ?_
  exact ⟨rfl, rfl⟩
theorem k_X7_right_7 : gCl wsX7_right 7 RX7 TX7 26 := ⟨by decide +kernel, rfl⟩
theorem m_X7_right_f44 : Cond.fieldLink RX7 44 "SteadyQueuesModel" "thrown" "I" ∈ wsX7_right := by decide +kernel
set_option maxHeartbeats 4000000 in
set_option maxRecDepth 100000 in
theorem c_X7_right0 (G : gG) (z0 : Nat) (l : Launch) {h : gH} {m rows asd vals many way told oth lst text : Nat} {th now und fl rl kd ok st wm fed len spot fa fat num frm may : Int32} (co : Int32) (hco : co ≠ 0) (hm : h m = some (.inr (7, [.int (nI 0), .ref rows, .ref asd, .int now, .int und, .ref vals, .ref many, .int fl, .int rl, .int kd, .int ok, .int st, .ref way, .int wm, .ref told, .ref oth, .ref lst, .ref text, .int fed, .int len, .int spot, .int fa, .int fat, .int num, .int frm, .int may]))) : gC G z0 l yX7_right wsX7_right 0 0 [.ref m, .int (nI 0), .int co] h (fun v h' => v = some (.int (nI 0)) ∧ h' m = some (.inr (7, [.int co, .ref rows, .ref asd, .int now, .int und, .ref vals, .ref many, .int fl, .int rl, .int kd, .int ok, .int st, .ref way, .int wm, .ref told, .ref oth, .ref lst, .ref text, .int fed, .int len, .int spot, .int fa, .int fat, .int num, .int frm, .int may])) ∧ gfr [m] h h') 0 0 := by
  refine gC_of (cc := cX7_right) (nL := 3) (ret := (some .boolean)) (by decide) rfl (Nat.le_of_ble_eq_true rfl) ?_
  intro X F E _
  change gF G z0 X cX7_right 3 RX7 wsX7_right (some .boolean) "right" 0 0 _ _ at F
  show gV G z0 X 0 0 h 0 [(0, .ref m), (1, .int (nI 0)), (2, .int co)] []
  refine v_aload_n (pc' := 1) F dX7_right_0 rfl (j := 0) rfl rfl ?_
  refine v_getf (pc' := 4) (v := .int (nI 0)) F k_X7_right_7 hm 0 (by decide) m_X7_right_f44 rfl dX7_right_1 rfl ?_
  refine w_if_ne (tgt := 16) (pc' := 7) F (by omega) dX7_right_4 (by decide) rfl (fun c0 => absurd c0 (by omega)) (fun _ => ?_)
  refine v_iload_n (pc' := 8) F dX7_right_7 rfl (j := 1) rfl rfl ?_
  refine w_if_ne (tgt := 16) (pc' := 11) F (by omega) dX7_right_8 (by decide) rfl (fun c0 => absurd c0 (by omega)) (fun _ => ?_)
  refine v_aload_n (pc' := 12) F dX7_right_11 rfl (j := 0) rfl rfl ?_
  refine v_iload_n (pc' := 13) F dX7_right_12 rfl (j := 2) rfl rfl ?_
  refine w_putf (pc' := 16) F k_X7_right_7 tyX7_ok nmX7 hm 0 (by decide) m_X7_right_f44 rfl  rfl rfl (show 0 < 26 by decide) [.int co, .ref rows, .ref asd, .int now, .int und, .ref vals, .ref many, .int fl, .int rl, .int kd, .int ok, .int st, .ref way, .int wm, .ref told, .ref oth, .ref lst, .ref text, .int fed, .int len, .int spot, .int fa, .int fat, .int num, .int frm, .int may] rfl dX7_right_13 rfl (fun h1 a2 f3 => ?_)
  refine v_aload_n (pc' := 17) F dX7_right_16 rfl (j := 0) rfl rfl ?_
  refine v_getf (pc' := 20) (v := .int co) F k_X7_right_7 a2 0 (by decide) m_X7_right_f44 rfl dX7_right_17 rfl ?_
  have fr4 : gfr [m] h h1 := f3
  refine v_if_ne (tgt := 27) (pc' := 23) F dX7_right_20 (by decide) rfl (fun _ => ?_) (fun c0 => absurd c0 hco)
  refine v_iconst (pc' := 28) (v := nI 0) F dX7_right_27 (by decide) rfl ?_
  refine v_zret F E (by omega) (by omega) (by decide) dX7_right_28 ?_
  exact ⟨rfl, a2, fr4⟩
set_option maxHeartbeats 4000000 in
set_option maxRecDepth 100000 in
theorem c_X7_right1 (G : gG) (z0 : Nat) (l : Launch) {h : gH} {m rows asd vals many way told oth lst text : Nat} {th now und fl rl kd ok st wm fed len spot fa fat num frm may : Int32} (co : Int32) (hco : co ≠ 0) (hm : h m = some (.inr (7, [.int (nI 0), .ref rows, .ref asd, .int now, .int und, .ref vals, .ref many, .int fl, .int rl, .int kd, .int ok, .int st, .ref way, .int wm, .ref told, .ref oth, .ref lst, .ref text, .int fed, .int len, .int spot, .int fa, .int fat, .int num, .int frm, .int may]))) : gC G z0 l yX7_right wsX7_right 0 0 [.ref m, .int (nI 1), .int co] h (fun v h' => v = some (.int (nI 1)) ∧ h' = h) 0 0 := by
  refine gC_of (cc := cX7_right) (nL := 3) (ret := (some .boolean)) (by decide) rfl (Nat.le_of_ble_eq_true rfl) ?_
  intro X F E _
  change gF G z0 X cX7_right 3 RX7 wsX7_right (some .boolean) "right" 0 0 _ _ at F
  show gV G z0 X 0 0 h 0 [(0, .ref m), (1, .int (nI 1)), (2, .int co)] []
  refine v_aload_n (pc' := 1) F dX7_right_0 rfl (j := 0) rfl rfl ?_
  refine v_getf (pc' := 4) (v := .int (nI 0)) F k_X7_right_7 hm 0 (by decide) m_X7_right_f44 rfl dX7_right_1 rfl ?_
  refine w_if_ne (tgt := 16) (pc' := 7) F (by omega) dX7_right_4 (by decide) rfl (fun c0 => absurd c0 (by omega)) (fun _ => ?_)
  refine v_iload_n (pc' := 8) F dX7_right_7 rfl (j := 1) rfl rfl ?_
  refine w_if_ne (tgt := 16) (pc' := 11) F (by omega) dX7_right_8 (by decide) rfl (fun _ => ?_) (fun c0 => absurd c0 (by omega))
  refine v_aload_n (pc' := 17) F dX7_right_16 rfl (j := 0) rfl rfl ?_
  refine v_getf (pc' := 20) (v := .int (nI 0)) F k_X7_right_7 hm 0 (by decide) m_X7_right_f44 rfl dX7_right_17 rfl ?_
  refine w_if_ne (tgt := 27) (pc' := 23) F (by omega) dX7_right_20 (by decide) rfl (fun c0 => absurd c0 (by omega)) (fun _ => ?_)
  refine v_iconst (pc' := 24) (v := nI 1) F dX7_right_23 (by decide) rfl ?_
  refine v_goto (tgt := 28) F dX7_right_24 (by decide) ?_
  refine v_zret F E (by omega) (by omega) (by decide) dX7_right_28 ?_
  exact ⟨rfl, rfl⟩
theorem k_X7_thrown_7 : gCl wsX7_thrown 7 RX7 TX7 26 := ⟨by decide +kernel, rfl⟩
theorem m_X7_thrown_f44 : Cond.fieldLink RX7 44 "SteadyQueuesModel" "thrown" "I" ∈ wsX7_thrown := by decide +kernel
set_option maxHeartbeats 4000000 in
set_option maxRecDepth 100000 in
theorem c_X7_thrown (G : gG) (z0 : Nat) (l : Launch) {h : gH} {m rows asd vals many way told oth lst text : Nat} {th now und fl rl kd ok st wm fed len spot fa fat num frm may : Int32} (hm : h m = some (.inr (7, [.int th, .ref rows, .ref asd, .int now, .int und, .ref vals, .ref many, .int fl, .int rl, .int kd, .int ok, .int st, .ref way, .int wm, .ref told, .ref oth, .ref lst, .ref text, .int fed, .int len, .int spot, .int fa, .int fat, .int num, .int frm, .int may]))) : gC G z0 l yX7_thrown wsX7_thrown 0 0 [.ref m] h (fun v h' => v = some (.int th) ∧ h' = h) 0 0 := by
  refine gC_of (cc := cX7_thrown) (nL := 1) (ret := (some .int)) (by decide) rfl (Nat.le_of_ble_eq_true rfl) ?_
  intro X F E _
  change gF G z0 X cX7_thrown 1 RX7 wsX7_thrown (some .int) "thrown" 0 0 _ _ at F
  show gV G z0 X 0 0 h 0 [(0, .ref m)] []
  refine v_aload_n (pc' := 1) F dX7_thrown_0 rfl (j := 0) rfl rfl ?_
  refine v_getf (pc' := 4) (v := .int th) F k_X7_thrown_7 hm 0 (by decide) m_X7_thrown_f44 rfl dX7_thrown_1 rfl ?_
  exact v_iret F E (by omega) (by omega)  dX7_thrown_4 ⟨rfl, rfl⟩
