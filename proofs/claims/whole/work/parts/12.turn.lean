/-! THE TURN -/
def isT (h : gH) (t : Nat) (T : mT) : Prop :=
  match T with
  | (k, ok, oF, nF, oR, nR) => ∃ (a b c d : Option Nat), h t = some (.inr (4, [.int (nI k), .int (nI ok), va_rf a, va_rf b, va_rf c, va_rf d])) ∧ isL h oF a ∧ isL h nF b ∧ isL h oR c ∧ isL h nR d
theorem isT.keep {h h' : gH} {t : Nat} {T : mT} (q : isT h t T) (f : gpl h h') (ft : ∀ e, h t = some e → h' t = some e) : isT h' t T := by
  obtain ⟨k, ok, oF, nF, oR, nR⟩ := T
  obtain ⟨a, b, c, d, h1, h2, h3, h4, h5⟩ := q
  exact ⟨a, b, c, d, ft _ h1, h2.keep f, h3.keep f, h4.keep f, h5.keep f⟩
def tPost (h : gH) (t : Nat) (T : mT) (v : Option Value) (h' : gH) : Prop := (tStep T = none ∧ v = some (.int (nI 0)) ∧ h' = h) ∨ (∃ T', tStep T = some T' ∧ v = some (.int (nI 1)) ∧ isT h' t T' ∧ gfr [t] h h')
theorem m_X4_init_ml3 : Cond.methodLink RX4 3 objectInit ∈ wsX4_init := by decide +kernel
theorem m_X4_init_oi : Cond.instanceMethod objectInit ∈ wsX4_init := by decide +kernel
theorem m_X4_init_oc : Cond.code objectInit ⟨#[0xb1]⟩ 1 none ∈ wsX4_init := by decide +kernel
theorem k_X4_init_4 : gCl wsX4_init 4 RX4 TX4 6 := ⟨by decide +kernel, rfl⟩
theorem m_X4_init_f9 : Cond.fieldLink RX4 9 "SteadyQueues$Turn" "kind" "I" ∈ wsX4_init := by decide +kernel
theorem m_X4_init_f15 : Cond.fieldLink RX4 15 "SteadyQueues$Turn" "ok" "I" ∈ wsX4_init := by decide +kernel
theorem m_X4_init_f18 : Cond.fieldLink RX4 18 "SteadyQueues$Turn" "oldFront" "LSteadyQueues$Cell;" ∈ wsX4_init := by decide +kernel
theorem m_X4_init_f22 : Cond.fieldLink RX4 22 "SteadyQueues$Turn" "newFront" "LSteadyQueues$Cell;" ∈ wsX4_init := by decide +kernel
theorem m_X4_init_f25 : Cond.fieldLink RX4 25 "SteadyQueues$Turn" "oldRear" "LSteadyQueues$Cell;" ∈ wsX4_init := by decide +kernel
theorem m_X4_init_f28 : Cond.fieldLink RX4 28 "SteadyQueues$Turn" "newRear" "LSteadyQueues$Cell;" ∈ wsX4_init := by decide +kernel
set_option maxHeartbeats 4000000 in
set_option maxRecDepth 100000 in
theorem c_X4_init (G : gG) (z0 : Nat) (l : Launch) {h : gH} {t : Nat} (ht : h t = some (.inr (4, [.int (nI 0), .int (nI 0), .null, .null, .null, .null]))) : gC G z0 l yX4_init wsX4_init 1 20 [.ref t] h (fun v h' => v = none ∧ isT h' t t0 ∧ gfr [t] h h') 0 0 := by
  refine gC_of (cc := cX4_init) (nL := 1) (ret := none) (by decide) rfl (Nat.le_of_ble_eq_true rfl) ?_
  intro X F E _
  change gF G z0 X cX4_init 1 RX4 wsX4_init none "<init>" 1 20 _ _ at F
  show gV G z0 X 0 0 h 0 [(0, .ref t)] []
  refine v_aload_n (pc' := 1) F dX4_init_0 rfl (j := 0) rfl rfl ?_
  refine v_objInit (pc' := 4) F m_X4_init_ml3 m_X4_init_oi m_X4_init_oc (by decide) (Nat.le_of_ble_eq_true rfl) dX4_init_1 rfl ?_
  refine v_aload_n (pc' := 5) F dX4_init_4 rfl (j := 0) rfl rfl ?_
  refine v_iconst (pc' := 6) (v := nI 0) F dX4_init_5 (by decide) rfl ?_
  refine w_putf (pc' := 9) F k_X4_init_4 tyX4_ok nmX4 ht 0 (by decide) m_X4_init_f9 rfl  rfl rfl (show 0 < 6 by decide) [.int (nI 0), .int (nI 0), .null, .null, .null, .null] rfl dX4_init_6 rfl (fun h1 a2 f3 => ?_)
  refine v_aload_n (pc' := 10) F dX4_init_9 rfl (j := 0) rfl rfl ?_
  refine v_iconst (pc' := 11) (v := nI 0) F dX4_init_10 (by decide) rfl ?_
  refine w_putf (pc' := 14) F k_X4_init_4 tyX4_ok nmX4 a2 1 (by decide) m_X4_init_f15 rfl  rfl rfl (show 1 < 6 by decide) [.int (nI 0), .int (nI 0), .null, .null, .null, .null] rfl dX4_init_11 rfl (fun h4 a5 f6 => ?_)
  refine v_aload_n (pc' := 15) F dX4_init_14 rfl (j := 0) rfl rfl ?_
  refine v_null (pc' := 16) F dX4_init_15 rfl ?_
  refine w_putf (pc' := 19) F k_X4_init_4 tyX4_ok nmX4 a5 2 (by decide) m_X4_init_f18 rfl  rfl rfl (show 2 < 6 by decide) [.int (nI 0), .int (nI 0), .null, .null, .null, .null] rfl dX4_init_16 rfl (fun h7 a8 f9 => ?_)
  refine v_aload_n (pc' := 20) F dX4_init_19 rfl (j := 0) rfl rfl ?_
  refine v_null (pc' := 21) F dX4_init_20 rfl ?_
  refine w_putf (pc' := 24) F k_X4_init_4 tyX4_ok nmX4 a8 3 (by decide) m_X4_init_f22 rfl  rfl rfl (show 3 < 6 by decide) [.int (nI 0), .int (nI 0), .null, .null, .null, .null] rfl dX4_init_21 rfl (fun h10 a11 f12 => ?_)
  refine v_aload_n (pc' := 25) F dX4_init_24 rfl (j := 0) rfl rfl ?_
  refine v_null (pc' := 26) F dX4_init_25 rfl ?_
  refine w_putf (pc' := 29) F k_X4_init_4 tyX4_ok nmX4 a11 4 (by decide) m_X4_init_f25 rfl  rfl rfl (show 4 < 6 by decide) [.int (nI 0), .int (nI 0), .null, .null, .null, .null] rfl dX4_init_26 rfl (fun h13 a14 f15 => ?_)
  refine v_aload_n (pc' := 30) F dX4_init_29 rfl (j := 0) rfl rfl ?_
  refine v_null (pc' := 31) F dX4_init_30 rfl ?_
  refine w_putf (pc' := 34) F k_X4_init_4 tyX4_ok nmX4 a14 5 (by decide) m_X4_init_f28 rfl  rfl rfl (show 5 < 6 by decide) [.int (nI 0), .int (nI 0), .null, .null, .null, .null] rfl dX4_init_31 rfl (fun h16 a17 f18 => ?_)
  have fr19 : gfr [t] h h16 := (gfr.t f3 (gfr.t f6 (gfr.t f9 (gfr.t f12 (gfr.t f15 f18)))))
  exact v_vret F E (by omega) (by omega)  dX4_init_34 ⟨rfl, ⟨none, none, none, none, a17, rfl, rfl, rfl, rfl⟩, fr19⟩
theorem k_X4_copyFrom_4 : gCl wsX4_copyFrom 4 RX4 TX4 6 := ⟨by decide +kernel, rfl⟩
theorem m_X4_copyFrom_f9 : Cond.fieldLink RX4 9 "SteadyQueues$Turn" "kind" "I" ∈ wsX4_copyFrom := by decide +kernel
theorem m_X4_copyFrom_f15 : Cond.fieldLink RX4 15 "SteadyQueues$Turn" "ok" "I" ∈ wsX4_copyFrom := by decide +kernel
theorem m_X4_copyFrom_f18 : Cond.fieldLink RX4 18 "SteadyQueues$Turn" "oldFront" "LSteadyQueues$Cell;" ∈ wsX4_copyFrom := by decide +kernel
theorem m_X4_copyFrom_f22 : Cond.fieldLink RX4 22 "SteadyQueues$Turn" "newFront" "LSteadyQueues$Cell;" ∈ wsX4_copyFrom := by decide +kernel
theorem m_X4_copyFrom_f25 : Cond.fieldLink RX4 25 "SteadyQueues$Turn" "oldRear" "LSteadyQueues$Cell;" ∈ wsX4_copyFrom := by decide +kernel
theorem m_X4_copyFrom_f28 : Cond.fieldLink RX4 28 "SteadyQueues$Turn" "newRear" "LSteadyQueues$Cell;" ∈ wsX4_copyFrom := by decide +kernel
set_option maxHeartbeats 4000000 in
set_option maxRecDepth 100000 in
theorem c_X4_copyFrom (G : gG) (z0 : Nat) (l : Launch) {h : gH} {t u : Nat} {T : mT} (hne : t ≠ u) (hT : ∃ (x1 x2 : Int32) (x3 x4 x5 x6 : Option Nat), h t = some (.inr (4, [.int x1, .int x2, va_rf x3, va_rf x4, va_rf x5, va_rf x6]))) (hU : isT h u T) : gC G z0 l yX4_copyFrom wsX4_copyFrom 0 0 [.ref t, .ref u] h (fun v h' => v = none ∧ isT h' t T ∧ gfr [t] h h') 0 0 := by
  obtain ⟨k, ok, oF, nF, oR, nR⟩ := T
  obtain ⟨a, b, c, d, hu, ha, hb, hc, hd⟩ := hU
  obtain ⟨x1, x2, x3, x4, x5, x6, ht⟩ := hT
  refine gC_of (cc := cX4_copyFrom) (nL := 2) (ret := none) (by decide) rfl (Nat.le_of_ble_eq_true rfl) ?_
  intro X F E _
  change gF G z0 X cX4_copyFrom 2 RX4 wsX4_copyFrom none "copyFrom" 0 0 _ _ at F
  show gV G z0 X 0 0 h 0 [(0, .ref t), (1, .ref u)] []
  refine v_aload_n (pc' := 1) F dX4_copyFrom_0 rfl (j := 0) rfl rfl ?_
  refine v_aload_n (pc' := 2) F dX4_copyFrom_1 rfl (j := 1) rfl rfl ?_
  refine v_getf (pc' := 5) (v := .int (nI k)) F k_X4_copyFrom_4 hu 0 (by decide) m_X4_copyFrom_f9 rfl dX4_copyFrom_2 rfl ?_
  refine w_putf (pc' := 8) F k_X4_copyFrom_4 tyX4_ok nmX4 ht 0 (by decide) m_X4_copyFrom_f9 rfl  rfl rfl (show 0 < 6 by decide) [.int (nI k), .int x2, va_rf x3, va_rf x4, va_rf x5, va_rf x6] rfl dX4_copyFrom_5 rfl (fun h1 a2 f3 => ?_)
  refine v_aload_n (pc' := 9) F dX4_copyFrom_8 rfl (j := 0) rfl rfl ?_
  refine v_aload_n (pc' := 10) F dX4_copyFrom_9 rfl (j := 1) rfl rfl ?_
  have g4 := f3 _ _ (gnc hne.symm gn0) hu
  refine v_getf (pc' := 13) (v := .int (nI ok)) F k_X4_copyFrom_4 g4 1 (by decide) m_X4_copyFrom_f15 rfl dX4_copyFrom_10 rfl ?_
  refine w_putf (pc' := 16) F k_X4_copyFrom_4 tyX4_ok nmX4 a2 1 (by decide) m_X4_copyFrom_f15 rfl  rfl rfl (show 1 < 6 by decide) [.int (nI k), .int (nI ok), va_rf x3, va_rf x4, va_rf x5, va_rf x6] rfl dX4_copyFrom_13 rfl (fun h5 a6 f7 => ?_)
  refine v_aload_n (pc' := 17) F dX4_copyFrom_16 rfl (j := 0) rfl rfl ?_
  refine v_aload_n (pc' := 18) F dX4_copyFrom_17 rfl (j := 1) rfl rfl ?_
  have g8 := f7 _ _ (gnc hne.symm gn0) g4
  refine v_getf (pc' := 21) (v := va_rf a) F k_X4_copyFrom_4 g8 2 (by decide) m_X4_copyFrom_f18 rfl dX4_copyFrom_18 rfl ?_
  refine w_putf (pc' := 24) F k_X4_copyFrom_4 tyX4_ok nmX4 a6 2 (by decide) m_X4_copyFrom_f18 rfl  (gnar _ _) (gfit _ _) (show 2 < 6 by decide) [.int (nI k), .int (nI ok), va_rf a, va_rf x4, va_rf x5, va_rf x6] rfl dX4_copyFrom_21 rfl (fun h9 a10 f11 => ?_)
  refine v_aload_n (pc' := 25) F dX4_copyFrom_24 rfl (j := 0) rfl rfl ?_
  refine v_aload_n (pc' := 26) F dX4_copyFrom_25 rfl (j := 1) rfl rfl ?_
  have g12 := f11 _ _ (gnc hne.symm gn0) g8
  refine v_getf (pc' := 29) (v := va_rf b) F k_X4_copyFrom_4 g12 3 (by decide) m_X4_copyFrom_f22 rfl dX4_copyFrom_26 rfl ?_
  refine w_putf (pc' := 32) F k_X4_copyFrom_4 tyX4_ok nmX4 a10 3 (by decide) m_X4_copyFrom_f22 rfl  (gnar _ _) (gfit _ _) (show 3 < 6 by decide) [.int (nI k), .int (nI ok), va_rf a, va_rf b, va_rf x5, va_rf x6] rfl dX4_copyFrom_29 rfl (fun h13 a14 f15 => ?_)
  refine v_aload_n (pc' := 33) F dX4_copyFrom_32 rfl (j := 0) rfl rfl ?_
  refine v_aload_n (pc' := 34) F dX4_copyFrom_33 rfl (j := 1) rfl rfl ?_
  have g16 := f15 _ _ (gnc hne.symm gn0) g12
  refine v_getf (pc' := 37) (v := va_rf c) F k_X4_copyFrom_4 g16 4 (by decide) m_X4_copyFrom_f25 rfl dX4_copyFrom_34 rfl ?_
  refine w_putf (pc' := 40) F k_X4_copyFrom_4 tyX4_ok nmX4 a14 4 (by decide) m_X4_copyFrom_f25 rfl  (gnar _ _) (gfit _ _) (show 4 < 6 by decide) [.int (nI k), .int (nI ok), va_rf a, va_rf b, va_rf c, va_rf x6] rfl dX4_copyFrom_37 rfl (fun h17 a18 f19 => ?_)
  refine v_aload_n (pc' := 41) F dX4_copyFrom_40 rfl (j := 0) rfl rfl ?_
  refine v_aload_n (pc' := 42) F dX4_copyFrom_41 rfl (j := 1) rfl rfl ?_
  have g20 := f19 _ _ (gnc hne.symm gn0) g16
  refine v_getf (pc' := 45) (v := va_rf d) F k_X4_copyFrom_4 g20 5 (by decide) m_X4_copyFrom_f28 rfl dX4_copyFrom_42 rfl ?_
  refine w_putf (pc' := 48) F k_X4_copyFrom_4 tyX4_ok nmX4 a18 5 (by decide) m_X4_copyFrom_f28 rfl  (gnar _ _) (gfit _ _) (show 5 < 6 by decide) [.int (nI k), .int (nI ok), va_rf a, va_rf b, va_rf c, va_rf d] rfl dX4_copyFrom_45 rfl (fun h21 a22 f23 => ?_)
  have fr24 : gfr [t] h h21 := (gfr.t f3 (gfr.t f7 (gfr.t f11 (gfr.t f15 (gfr.t f19 f23)))))
  have pl25 := gfr.pl fr24 (by intro a9 m9 fs9 z9; simp only [List.mem_cons, List.not_mem_nil, or_false] at m9; subst m9; (rw [ht] at z9; cases z9))
  exact v_vret F E (by omega) (by omega)  dX4_copyFrom_48 ⟨rfl, ⟨a, b, c, d, a22, ha.keep pl25, hb.keep pl25, hc.keep pl25, hd.keep pl25⟩, fr24⟩
theorem k_X4_begin_4 : gCl wsX4_begin 4 RX4 TX4 6 := ⟨by decide +kernel, rfl⟩
theorem m_X4_begin_f9 : Cond.fieldLink RX4 9 "SteadyQueues$Turn" "kind" "I" ∈ wsX4_begin := by decide +kernel
theorem m_X4_begin_f15 : Cond.fieldLink RX4 15 "SteadyQueues$Turn" "ok" "I" ∈ wsX4_begin := by decide +kernel
theorem m_X4_begin_f18 : Cond.fieldLink RX4 18 "SteadyQueues$Turn" "oldFront" "LSteadyQueues$Cell;" ∈ wsX4_begin := by decide +kernel
theorem m_X4_begin_f22 : Cond.fieldLink RX4 22 "SteadyQueues$Turn" "newFront" "LSteadyQueues$Cell;" ∈ wsX4_begin := by decide +kernel
theorem m_X4_begin_f25 : Cond.fieldLink RX4 25 "SteadyQueues$Turn" "oldRear" "LSteadyQueues$Cell;" ∈ wsX4_begin := by decide +kernel
theorem m_X4_begin_f28 : Cond.fieldLink RX4 28 "SteadyQueues$Turn" "newRear" "LSteadyQueues$Cell;" ∈ wsX4_begin := by decide +kernel
set_option maxHeartbeats 4000000 in
set_option maxRecDepth 100000 in
theorem c_X4_begin (G : gG) (z0 : Nat) (l : Launch) {h : gH} {t : Nat} {xs ys : List Int32} {a b : Option Nat} (hT : ∃ (x1 x2 : Int32) (x3 x4 x5 x6 : Option Nat), h t = some (.inr (4, [.int x1, .int x2, va_rf x3, va_rf x4, va_rf x5, va_rf x6]))) (ha : isL h xs a) (hb : isL h ys b) : gC G z0 l yX4_begin wsX4_begin 0 0 [.ref t, va_rf a, va_rf b] h (fun v h' => v = none ∧ isT h' t (1, 0, xs, [], ys, []) ∧ gfr [t] h h') 0 0 := by
  obtain ⟨x1, x2, x3, x4, x5, x6, ht⟩ := hT
  refine gC_of (cc := cX4_begin) (nL := 3) (ret := none) (by decide) rfl (by simp [lg_sl, gcat, gci, gcr, gcn, gcl, gvs, gvn]) ?_
  intro X F E _
  rw [show lv_args 0 [.ref t, va_rf a, va_rf b] = [(0, .ref t), (1, va_rf a), (2, va_rf b)] from by simp [lv_args, gcat, gci, gcr, gcn, gcl, gvs, gvn]]
  change gF G z0 X cX4_begin 3 RX4 wsX4_begin none "begin" 0 0 _ _ at F
  show gV G z0 X 0 0 h 0 [(0, .ref t), (1, va_rf a), (2, va_rf b)] []
  refine v_aload_n (pc' := 1) F dX4_begin_0 rfl (j := 0) rfl rfl ?_
  refine v_iconst (pc' := 2) (v := nI 1) F dX4_begin_1 (by decide) rfl ?_
  refine w_putf (pc' := 5) F k_X4_begin_4 tyX4_ok nmX4 ht 0 (by decide) m_X4_begin_f9 rfl  rfl rfl (show 0 < 6 by decide) [.int (nI 1), .int x2, va_rf x3, va_rf x4, va_rf x5, va_rf x6] rfl dX4_begin_2 rfl (fun h1 a2 f3 => ?_)
  refine v_aload_n (pc' := 6) F dX4_begin_5 rfl (j := 0) rfl rfl ?_
  refine v_iconst (pc' := 7) (v := nI 0) F dX4_begin_6 (by decide) rfl ?_
  refine w_putf (pc' := 10) F k_X4_begin_4 tyX4_ok nmX4 a2 1 (by decide) m_X4_begin_f15 rfl  rfl rfl (show 1 < 6 by decide) [.int (nI 1), .int (nI 0), va_rf x3, va_rf x4, va_rf x5, va_rf x6] rfl dX4_begin_7 rfl (fun h4 a5 f6 => ?_)
  refine v_aload_n (pc' := 11) F dX4_begin_10 rfl (j := 0) rfl rfl ?_
  refine v_aloadq_n (pc' := 12) F dX4_begin_11 rfl (j := 1) rfl rfl ?_
  refine w_putf (pc' := 15) F k_X4_begin_4 tyX4_ok nmX4 a5 2 (by decide) m_X4_begin_f18 rfl  (gnar _ _) (gfit _ _) (show 2 < 6 by decide) [.int (nI 1), .int (nI 0), va_rf a, va_rf x4, va_rf x5, va_rf x6] rfl dX4_begin_12 rfl (fun h7 a8 f9 => ?_)
  refine v_aload_n (pc' := 16) F dX4_begin_15 rfl (j := 0) rfl rfl ?_
  refine v_null (pc' := 17) F dX4_begin_16 rfl ?_
  refine w_putf (pc' := 20) F k_X4_begin_4 tyX4_ok nmX4 a8 3 (by decide) m_X4_begin_f22 rfl  rfl rfl (show 3 < 6 by decide) [.int (nI 1), .int (nI 0), va_rf a, .null, va_rf x5, va_rf x6] rfl dX4_begin_17 rfl (fun h10 a11 f12 => ?_)
  refine v_aload_n (pc' := 21) F dX4_begin_20 rfl (j := 0) rfl rfl ?_
  refine v_aloadq_n (pc' := 22) F dX4_begin_21 rfl (j := 2) rfl rfl ?_
  refine w_putf (pc' := 25) F k_X4_begin_4 tyX4_ok nmX4 a11 4 (by decide) m_X4_begin_f25 rfl  (gnar _ _) (gfit _ _) (show 4 < 6 by decide) [.int (nI 1), .int (nI 0), va_rf a, .null, va_rf b, va_rf x6] rfl dX4_begin_22 rfl (fun h13 a14 f15 => ?_)
  refine v_aload_n (pc' := 26) F dX4_begin_25 rfl (j := 0) rfl rfl ?_
  refine v_null (pc' := 27) F dX4_begin_26 rfl ?_
  refine w_putf (pc' := 30) F k_X4_begin_4 tyX4_ok nmX4 a14 5 (by decide) m_X4_begin_f28 rfl  rfl rfl (show 5 < 6 by decide) [.int (nI 1), .int (nI 0), va_rf a, .null, va_rf b, .null] rfl dX4_begin_27 rfl (fun h16 a17 f18 => ?_)
  have fr19 : gfr [t] h h16 := (gfr.t f3 (gfr.t f6 (gfr.t f9 (gfr.t f12 (gfr.t f15 f18)))))
  have pl20 := gfr.pl fr19 (by intro a9 m9 fs9 z9; simp only [List.mem_cons, List.not_mem_nil, or_false] at m9; subst m9; (rw [ht] at z9; cases z9))
  exact v_vret F E (by omega) (by omega)  dX4_begin_30 ⟨rfl, ⟨a, none, b, none, a17, ha.keep pl20, rfl, hb.keep pl20, rfl⟩, fr19⟩
theorem k_X4_finish_4 : gCl wsX4_finish 4 RX4 TX4 6 := ⟨by decide +kernel, rfl⟩
theorem m_X4_finish_f9 : Cond.fieldLink RX4 9 "SteadyQueues$Turn" "kind" "I" ∈ wsX4_finish := by decide +kernel
theorem m_X4_finish_f22 : Cond.fieldLink RX4 22 "SteadyQueues$Turn" "newFront" "LSteadyQueues$Cell;" ∈ wsX4_finish := by decide +kernel
set_option maxHeartbeats 4000000 in
set_option maxRecDepth 100000 in
theorem c_X4_finish (G : gG) (z0 : Nat) (l : Launch) {h : gH} {t k ok : Nat} {oF nF oR nR : List Int32} (hT : isT h t (k, ok, oF, nF, oR, nR)) : gC G z0 l yX4_finish wsX4_finish 0 0 [.ref t] h (fun v h' => v = none ∧ isT h' t (3, ok, oF, [], oR, nR) ∧ gfr [t] h h') 0 0 := by
  obtain ⟨a, b, c, d, ht, ha, hb, hc, hd⟩ := hT
  refine gC_of (cc := cX4_finish) (nL := 1) (ret := none) (by decide) rfl (Nat.le_of_ble_eq_true rfl) ?_
  intro X F E _
  change gF G z0 X cX4_finish 1 RX4 wsX4_finish none "finish" 0 0 _ _ at F
  show gV G z0 X 0 0 h 0 [(0, .ref t)] []
  refine v_aload_n (pc' := 1) F dX4_finish_0 rfl (j := 0) rfl rfl ?_
  refine v_iconst (pc' := 2) (v := nI 3) F dX4_finish_1 (by decide) rfl ?_
  refine w_putf (pc' := 5) F k_X4_finish_4 tyX4_ok nmX4 ht 0 (by decide) m_X4_finish_f9 rfl  rfl rfl (show 0 < 6 by decide) [.int (nI 3), .int (nI ok), va_rf a, va_rf b, va_rf c, va_rf d] rfl dX4_finish_2 rfl (fun h1 a2 f3 => ?_)
  refine v_aload_n (pc' := 6) F dX4_finish_5 rfl (j := 0) rfl rfl ?_
  refine v_null (pc' := 7) F dX4_finish_6 rfl ?_
  refine w_putf (pc' := 10) F k_X4_finish_4 tyX4_ok nmX4 a2 3 (by decide) m_X4_finish_f22 rfl  rfl rfl (show 3 < 6 by decide) [.int (nI 3), .int (nI ok), va_rf a, .null, va_rf c, va_rf d] rfl dX4_finish_7 rfl (fun h4 a5 f6 => ?_)
  have fr7 : gfr [t] h h4 := (gfr.t f3 f6)
  have pl8 := gfr.pl fr7 (by intro a9 m9 fs9 z9; simp only [List.mem_cons, List.not_mem_nil, or_false] at m9; subst m9; (rw [ht] at z9; cases z9))
  exact v_vret F E (by omega) (by omega)  dX4_finish_10 ⟨rfl, ⟨a, none, c, d, a5, ha.keep pl8, rfl, hc.keep pl8, hd.keep pl8⟩, fr7⟩
theorem k_X4_endWithList_4 : gCl wsX4_endWithList 4 RX4 TX4 6 := ⟨by decide +kernel, rfl⟩
theorem m_X4_endWithList_f28 : Cond.fieldLink RX4 28 "SteadyQueues$Turn" "newRear" "LSteadyQueues$Cell;" ∈ wsX4_endWithList := by decide +kernel
theorem m_X4_endWithList_f9 : Cond.fieldLink RX4 9 "SteadyQueues$Turn" "kind" "I" ∈ wsX4_endWithList := by decide +kernel
set_option maxHeartbeats 4000000 in
set_option maxRecDepth 100000 in
theorem c_X4_endWithList (G : gG) (z0 : Nat) (l : Launch) {h : gH} {t k ok : Nat} {oF nF oR nR : List Int32} (hT : isT h t (k, ok, oF, nF, oR, nR)) : gC G z0 l yX4_endWithList wsX4_endWithList 0 0 [.ref t] h (fun v h' => ∃ r, v = some (va_rf r) ∧ isL h' nR r ∧ isT h' t (0, ok, oF, nF, oR, []) ∧ gfr [t] h h') 0 0 := by
  obtain ⟨a, b, c, d, ht, ha, hb, hc, hd⟩ := hT
  refine gC_of (cc := cX4_endWithList) (nL := 2) (ret := (some (.object "SteadyQueues$Cell"))) (by decide) rfl (Nat.le_of_ble_eq_true rfl) ?_
  intro X F E _
  change gF G z0 X cX4_endWithList 2 RX4 wsX4_endWithList (some (.object "SteadyQueues$Cell")) "endWithList" 0 0 _ _ at F
  show gV G z0 X 0 0 h 0 [(0, .ref t)] []
  refine v_aload_n (pc' := 1) F dX4_endWithList_0 rfl (j := 0) rfl rfl ?_
  refine v_getf (pc' := 4) (v := va_rf d) F k_X4_endWithList_4 ht 5 (by decide) m_X4_endWithList_f28 rfl dX4_endWithList_1 rfl ?_
  refine v_astoreq_n (pc' := 5) (i := 1) (L' := [(1, va_rf d), (0, .ref t)]) F dX4_endWithList_4 rfl (by decide) rfl rfl ?_
  refine v_aload_n (pc' := 6) F dX4_endWithList_5 rfl (j := 1) rfl rfl ?_
  refine v_iconst (pc' := 7) (v := nI 0) F dX4_endWithList_6 (by decide) rfl ?_
  refine w_putf (pc' := 10) F k_X4_endWithList_4 tyX4_ok nmX4 ht 0 (by decide) m_X4_endWithList_f9 rfl  rfl rfl (show 0 < 6 by decide) [.int (nI 0), .int (nI ok), va_rf a, va_rf b, va_rf c, va_rf d] rfl dX4_endWithList_7 rfl (fun h1 a2 f3 => ?_)
  refine v_aload_n (pc' := 11) F dX4_endWithList_10 rfl (j := 1) rfl rfl ?_
  refine v_null (pc' := 12) F dX4_endWithList_11 rfl ?_
  refine w_putf (pc' := 15) F k_X4_endWithList_4 tyX4_ok nmX4 a2 5 (by decide) m_X4_endWithList_f28 rfl  rfl rfl (show 5 < 6 by decide) [.int (nI 0), .int (nI ok), va_rf a, va_rf b, va_rf c, .null] rfl dX4_endWithList_12 rfl (fun h4 a5 f6 => ?_)
  refine v_aloadq_n (pc' := 16) F dX4_endWithList_15 rfl (j := 0) rfl rfl ?_
  have fr7 : gfr [t] h h4 := (gfr.t f3 f6)
  have pl8 := gfr.pl fr7 (by intro a9 m9 fs9 z9; simp only [List.mem_cons, List.not_mem_nil, or_false] at m9; subst m9; (rw [ht] at z9; cases z9))
  exact v_aret (r := d) F E (by omega) (by omega) dX4_endWithList_16 ⟨d, rfl, hd.keep pl8, ⟨a, b, c, none, a5, ha.keep pl8, hb.keep pl8, hc.keep pl8, rfl⟩, fr7⟩
theorem k_X4_step_4 : gCl wsX4_step 4 RX4 TX4 6 := ⟨by decide +kernel, rfl⟩
theorem m_X4_step_f9 : Cond.fieldLink RX4 9 "SteadyQueues$Turn" "kind" "I" ∈ wsX4_step := by decide +kernel
theorem m_X4_step_f18 : Cond.fieldLink RX4 18 "SteadyQueues$Turn" "oldFront" "LSteadyQueues$Cell;" ∈ wsX4_step := by decide +kernel
theorem m_X4_step_f25 : Cond.fieldLink RX4 25 "SteadyQueues$Turn" "oldRear" "LSteadyQueues$Cell;" ∈ wsX4_step := by decide +kernel
theorem k_X4_step_1 : gCl wsX4_step 1 RX1 TX1 2 := ⟨by decide +kernel, rfl⟩
theorem m_X4_step_f39 : Cond.fieldLink RX4 39 "SteadyQueues$Cell" "next" "LSteadyQueues$Cell;" ∈ wsX4_step := by decide +kernel
theorem m_X4_step_c31 : Cond.classLink RX4 31 RX1 ∈ wsX4_step := by decide +kernel
theorem m_X4_step_in1 : Cond.instantiable RX1 2 ∈ wsX4_step := by decide +kernel
theorem m_X4_step_ini1 : Cond.initialized RX1 ∈ wsX4_step := by decide +kernel
theorem m_X4_step_f33 : Cond.fieldLink RX4 33 "SteadyQueues$Cell" "value" "I" ∈ wsX4_step := by decide +kernel
theorem m_X4_step_f28 : Cond.fieldLink RX4 28 "SteadyQueues$Turn" "newRear" "LSteadyQueues$Cell;" ∈ wsX4_step := by decide +kernel
theorem m_X4_step_ml36 : Cond.methodLink RX4 36 yX1_init ∈ wsX4_step := by decide +kernel
theorem m_X4_step_imX1_init : Cond.instanceMethod yX1_init ∈ wsX4_step := by decide +kernel
theorem hd_X1_init : yX1_init.cls ≠ "java/lang/invoke/MethodHandle" ∧ yX1_init.cls ≠ "java/lang/invoke/VarHandle" ∧ (parseMethodDescriptor yX1_init.desc).map (fun d => d.parameters.length) = some 2 := by decide +kernel
theorem m_X4_step_f22 : Cond.fieldLink RX4 22 "SteadyQueues$Turn" "newFront" "LSteadyQueues$Cell;" ∈ wsX4_step := by decide +kernel
theorem m_X4_step_f15 : Cond.fieldLink RX4 15 "SteadyQueues$Turn" "ok" "I" ∈ wsX4_step := by decide +kernel
theorem hv_X4_finish : yX4_finish.cls = RX4 ∧ yX4_finish.cls ≠ "java/lang/invoke/MethodHandle" ∧ yX4_finish.cls ≠ "java/lang/invoke/VarHandle" ∧ (parseMethodDescriptor yX4_finish.desc).map (fun d => d.parameters.length) = some 0 := by decide +kernel
theorem tStep_other {k ok : Nat} {oF nF oR nR : List Int32} (h1 : ¬ k = 1) (h2 : ¬ k = 2) : tStep (k, ok, oF, nF, oR, nR) = none := by
  unfold tStep
  split
  · rename_i z; cases z; exact absurd rfl h1
  · rename_i z; cases z; exact absurd rfl h1
  · rename_i z; cases z; exact absurd rfl h2
  · rename_i z; cases z; exact absurd rfl h2
  · rfl
set_option maxHeartbeats 4000000 in
set_option maxRecDepth 100000 in
/-- one step of a turn -/
theorem c_X4_step (G : gG) (z0 : Nat) (l : Launch) {h : gH} {t : Nat} {T : mT} (hT : isT h t T) (hok : T.1 < 4 ∧ T.2.1 < 1000) : gC G z0 l yX4_step wsX4_step 2 42 [.ref t] h (tPost h t T) 2 4 := by
  have hok := hok
  obtain ⟨hk0, ho0⟩ := hok
  obtain ⟨k, ok, oF, nF, oR, nR⟩ := T
  simp only at hk0 ho0
  obtain ⟨a, b, c, d, ht, ha, hb, hc, hd⟩ := hT
  by_cases hk1 : k = 1
  · subst hk1
    cases oF with
    | nil =>
      cases ha
      cases oR with
      | nil =>
        cases hc
        refine gC_of (cc := cX4_step) (nL := 1) (ret := (some .boolean)) (by decide) rfl (Nat.le_of_ble_eq_true rfl) ?_
        intro X F E _
        change gF G z0 X cX4_step 1 RX4 wsX4_step (some .boolean) "step" 2 42 _ _ at F
        show gV G z0 X 0 0 h 0 [(0, .ref t)] []
        refine v_aload_n (pc' := 1) F dX4_step_0 rfl (j := 0) rfl rfl ?_
        refine v_getf (pc' := 4) (v := .int (nI 1)) F k_X4_step_4 ht 0 (by decide) m_X4_step_f9 rfl dX4_step_1 rfl ?_
        refine v_iconst (pc' := 5) (v := nI 1) F dX4_step_4 (by decide) rfl ?_
        refine w_icmp_ne (tgt := 100) (pc' := 8) F (by omega) (by omega) dX4_step_5 (by decide) rfl (fun c0 => absurd c0 (by omega)) (fun _ => ?_)
        refine v_aload_n (pc' := 9) F dX4_step_8 rfl (j := 0) rfl rfl ?_
        refine v_getf (pc' := 12) (v := .null) F k_X4_step_4 ht 2 (by decide) m_X4_step_f18 rfl dX4_step_9 rfl ?_
        refine v_ifnullN (tgt := 100) F dX4_step_12 (by decide) ?_
        refine v_aload_n (pc' := 101) F dX4_step_100 rfl (j := 0) rfl rfl ?_
        refine v_getf (pc' := 104) (v := .int (nI 1)) F k_X4_step_4 ht 0 (by decide) m_X4_step_f9 rfl dX4_step_101 rfl ?_
        refine v_iconst (pc' := 105) (v := nI 1) F dX4_step_104 (by decide) rfl ?_
        refine w_icmp_ne (tgt := 166) (pc' := 108) F (by omega) (by omega) dX4_step_105 (by decide) rfl (fun c0 => absurd c0 (by omega)) (fun _ => ?_)
        refine v_aload_n (pc' := 109) F dX4_step_108 rfl (j := 0) rfl rfl ?_
        refine v_getf (pc' := 112) (v := .null) F k_X4_step_4 ht 2 (by decide) m_X4_step_f18 rfl dX4_step_109 rfl ?_
        refine v_ifnonnullN (pc' := 115) F dX4_step_112 rfl ?_
        refine v_aload_n (pc' := 116) F dX4_step_115 rfl (j := 0) rfl rfl ?_
        refine v_getf (pc' := 119) (v := .null) F k_X4_step_4 ht 4 (by decide) m_X4_step_f25 rfl dX4_step_116 rfl ?_
        refine v_ifnullN (tgt := 166) F dX4_step_119 (by decide) ?_
        refine v_aload_n (pc' := 167) F dX4_step_166 rfl (j := 0) rfl rfl ?_
        refine v_getf (pc' := 170) (v := .int (nI 1)) F k_X4_step_4 ht 0 (by decide) m_X4_step_f9 rfl dX4_step_167 rfl ?_
        refine v_iconst (pc' := 171) (v := nI 2) F dX4_step_170 (by decide) rfl ?_
        refine w_icmp_ne (tgt := 187) (pc' := 174) F (by omega) (by omega) dX4_step_171 (by decide) rfl (fun _ => ?_) (fun c0 => absurd c0 (by omega))
        refine v_aload_n (pc' := 188) F dX4_step_187 rfl (j := 0) rfl rfl ?_
        refine v_getf (pc' := 191) (v := .int (nI 1)) F k_X4_step_4 ht 0 (by decide) m_X4_step_f9 rfl dX4_step_188 rfl ?_
        refine v_iconst (pc' := 192) (v := nI 2) F dX4_step_191 (by decide) rfl ?_
        refine w_icmp_ne (tgt := 254) (pc' := 195) F (by omega) (by omega) dX4_step_192 (by decide) rfl (fun _ => ?_) (fun c0 => absurd c0 (by omega))
        refine v_iconst (pc' := 255) (v := nI 0) F dX4_step_254 (by decide) rfl ?_
        exact v_zret F E (by omega) (by omega) (by decide) dX4_step_255 (Or.inl ⟨by simp [tStep], rfl, rfl⟩)
      | cons y oR =>
        obtain ⟨c1, cn, rfl, hc1, hcn⟩ := hc
        cases oR with
        | nil =>
          cases hcn
          refine gC_of (cc := cX4_step) (nL := 1) (ret := (some .boolean)) (by decide) rfl (Nat.le_of_ble_eq_true rfl) ?_
          intro X F E _
          change gF G z0 X cX4_step 1 RX4 wsX4_step (some .boolean) "step" 2 42 _ _ at F
          show gV G z0 X 0 0 h 0 [(0, .ref t)] []
          refine v_aload_n (pc' := 1) F dX4_step_0 rfl (j := 0) rfl rfl ?_
          refine v_getf (pc' := 4) (v := .int (nI 1)) F k_X4_step_4 ht 0 (by decide) m_X4_step_f9 rfl dX4_step_1 rfl ?_
          refine v_iconst (pc' := 5) (v := nI 1) F dX4_step_4 (by decide) rfl ?_
          refine w_icmp_ne (tgt := 100) (pc' := 8) F (by omega) (by omega) dX4_step_5 (by decide) rfl (fun c0 => absurd c0 (by omega)) (fun _ => ?_)
          refine v_aload_n (pc' := 9) F dX4_step_8 rfl (j := 0) rfl rfl ?_
          refine v_getf (pc' := 12) (v := .null) F k_X4_step_4 ht 2 (by decide) m_X4_step_f18 rfl dX4_step_9 rfl ?_
          refine v_ifnullN (tgt := 100) F dX4_step_12 (by decide) ?_
          refine v_aload_n (pc' := 101) F dX4_step_100 rfl (j := 0) rfl rfl ?_
          refine v_getf (pc' := 104) (v := .int (nI 1)) F k_X4_step_4 ht 0 (by decide) m_X4_step_f9 rfl dX4_step_101 rfl ?_
          refine v_iconst (pc' := 105) (v := nI 1) F dX4_step_104 (by decide) rfl ?_
          refine w_icmp_ne (tgt := 166) (pc' := 108) F (by omega) (by omega) dX4_step_105 (by decide) rfl (fun c0 => absurd c0 (by omega)) (fun _ => ?_)
          refine v_aload_n (pc' := 109) F dX4_step_108 rfl (j := 0) rfl rfl ?_
          refine v_getf (pc' := 112) (v := .null) F k_X4_step_4 ht 2 (by decide) m_X4_step_f18 rfl dX4_step_109 rfl ?_
          refine v_ifnonnullN (pc' := 115) F dX4_step_112 rfl ?_
          refine v_aload_n (pc' := 116) F dX4_step_115 rfl (j := 0) rfl rfl ?_
          refine v_getf (pc' := 119) (v := .ref c1) F k_X4_step_4 ht 4 (by decide) m_X4_step_f25 rfl dX4_step_116 rfl ?_
          refine v_ifnull (pc' := 122) F dX4_step_119 rfl ?_
          refine v_aload_n (pc' := 123) F dX4_step_122 rfl (j := 0) rfl rfl ?_
          refine v_getf (pc' := 126) (v := .ref c1) F k_X4_step_4 ht 4 (by decide) m_X4_step_f25 rfl dX4_step_123 rfl ?_
          refine v_getf (pc' := 129) (v := .null) F k_X4_step_1 hc1 1 (by decide) m_X4_step_f39 rfl dX4_step_126 rfl ?_
          refine v_ifnonnullN (pc' := 132) F dX4_step_129 rfl ?_
          refine v_aload_n (pc' := 133) F dX4_step_132 rfl (j := 0) rfl rfl ?_
          refine w_new (pc' := 136) F [.int (nI 0), .null] k_X4_step_1 tyX1_ok m_X4_step_c31 m_X4_step_in1 m_X4_step_ini1 (g_dv1 ) (by omega) (by omega) dX4_step_133 rfl (fun q1 h2 e3 a4 f5 => ?_)
          refine v_dup (pc' := 137) F dX4_step_136 rfl rfl ?_
          refine v_aload_n (pc' := 138) F dX4_step_137 rfl (j := 0) rfl rfl ?_
          have g6 := f5 _ _ gn0 ht
          refine v_getf (pc' := 141) (v := .ref c1) F k_X4_step_4 g6 4 (by decide) m_X4_step_f25 rfl dX4_step_138 rfl ?_
          have g7 := f5 _ _ gn0 hc1
          refine v_getf (pc' := 144) (v := .int y) F k_X4_step_1 g7 0 (by decide) m_X4_step_f33 rfl dX4_step_141 rfl ?_
          refine v_aload_n (pc' := 145) F dX4_step_144 rfl (j := 0) rfl rfl ?_
          refine v_getf (pc' := 148) (v := va_rf d) F k_X4_step_4 g6 5 (by decide) m_X4_step_f28 rfl dX4_step_145 rfl ?_
          refine v_callI (pc' := 151) (mcc := 0) (msc := 0) (As := [.int y, va_rf d]) (st := [.ref q1, .ref t]) F (fun l => c_X1_init G z0 l y d a4) gX4_step_X1_init rfl m_X4_step_ini1 m_X4_step_ml36 m_X4_step_imX1_init rfl hd_X1_init (by decide) (by decide) rfl rfl (Nat.le_of_ble_eq_true rfl) (by omega) (by omega) dX4_step_148 rfl (fun v10 h9 hq => ?_)
          obtain ⟨rfl, cck8, ffk8⟩ := hq
          have g11 := ffk8 _ _ (gnc (g_neN ht e3) gn0) g6
          refine w_putf (pc' := 154) F k_X4_step_4 tyX4_ok nmX4 g11 5 (by decide) m_X4_step_f28 rfl  rfl rfl (show 5 < 6 by decide) [.int (nI 1), .int (nI ok), .null, va_rf b, .ref c1, .ref q1] rfl dX4_step_151 rfl (fun h12 a13 f14 => ?_)
          refine v_aload_n (pc' := 155) F dX4_step_154 rfl (j := 0) rfl rfl ?_
          refine v_null (pc' := 156) F dX4_step_155 rfl ?_
          refine w_putf (pc' := 159) F k_X4_step_4 tyX4_ok nmX4 a13 4 (by decide) m_X4_step_f25 rfl  rfl rfl (show 4 < 6 by decide) [.int (nI 1), .int (nI ok), .null, va_rf b, .null, .ref q1] rfl dX4_step_156 rfl (fun h15 a16 f17 => ?_)
          refine v_aload_n (pc' := 160) F dX4_step_159 rfl (j := 0) rfl rfl ?_
          refine v_iconst (pc' := 161) (v := nI 2) F dX4_step_160 (by decide) rfl ?_
          refine w_putf (pc' := 164) F k_X4_step_4 tyX4_ok nmX4 a16 0 (by decide) m_X4_step_f9 rfl  rfl rfl (show 0 < 6 by decide) [.int (nI 2), .int (nI ok), .null, va_rf b, .null, .ref q1] rfl dX4_step_161 rfl (fun h18 a19 f20 => ?_)
          refine v_iconst (pc' := 165) (v := nI 1) F dX4_step_164 (by decide) rfl ?_
          have fr22 : gfr [q1, t] h h18 := (gfr.t (gfr.mono0 f5) (gfr.t (gfr.mono ffk8 (by intro q9 z9 m9; apply z9; simp only [List.mem_cons, List.not_mem_nil, or_false] at m9 ⊢; omega)) (gfr.t (gfr.mono f14 (by intro q9 z9 m9; apply z9; simp only [List.mem_cons, List.not_mem_nil, or_false] at m9 ⊢; omega)) (gfr.t (gfr.mono f17 (by intro q9 z9 m9; apply z9; simp only [List.mem_cons, List.not_mem_nil, or_false] at m9 ⊢; omega)) (gfr.mono f20 (by intro q9 z9 m9; apply z9; simp only [List.mem_cons, List.not_mem_nil, or_false] at m9 ⊢; omega))))))
          have fr21 := gfr.drop e3 fr22
          have pl23 := gfr.pl fr21 (by intro a9 m9 fs9 z9; simp only [List.mem_cons, List.not_mem_nil, or_false] at m9; subst m9; (rw [ht] at z9; cases z9))
          have g24 := f14 _ _ (gnc ((g_neN ht e3).symm) gn0) cck8
          have g25 := f17 _ _ (gnc ((g_neN ht e3).symm) gn0) g24
          have g26 := f20 _ _ (gnc ((g_neN ht e3).symm) gn0) g25
          exact v_zret F E (by omega) (by omega) (by decide) dX4_step_165 (Or.inr ⟨_, rfl, rfl, ⟨none, b, none, some q1, a19, rfl, hb.keep pl23, rfl, ⟨_, d, rfl, g26, hd.keep pl23⟩⟩, fr21⟩)
        | cons y2 oR =>
          obtain ⟨c2, cn2, rfl, hc2, hcn2⟩ := hcn
          refine gC_of (cc := cX4_step) (nL := 1) (ret := (some .boolean)) (by decide) rfl (Nat.le_of_ble_eq_true rfl) ?_
          intro X F E _
          change gF G z0 X cX4_step 1 RX4 wsX4_step (some .boolean) "step" 2 42 _ _ at F
          show gV G z0 X 0 0 h 0 [(0, .ref t)] []
          refine v_aload_n (pc' := 1) F dX4_step_0 rfl (j := 0) rfl rfl ?_
          refine v_getf (pc' := 4) (v := .int (nI 1)) F k_X4_step_4 ht 0 (by decide) m_X4_step_f9 rfl dX4_step_1 rfl ?_
          refine v_iconst (pc' := 5) (v := nI 1) F dX4_step_4 (by decide) rfl ?_
          refine w_icmp_ne (tgt := 100) (pc' := 8) F (by omega) (by omega) dX4_step_5 (by decide) rfl (fun c0 => absurd c0 (by omega)) (fun _ => ?_)
          refine v_aload_n (pc' := 9) F dX4_step_8 rfl (j := 0) rfl rfl ?_
          refine v_getf (pc' := 12) (v := .null) F k_X4_step_4 ht 2 (by decide) m_X4_step_f18 rfl dX4_step_9 rfl ?_
          refine v_ifnullN (tgt := 100) F dX4_step_12 (by decide) ?_
          refine v_aload_n (pc' := 101) F dX4_step_100 rfl (j := 0) rfl rfl ?_
          refine v_getf (pc' := 104) (v := .int (nI 1)) F k_X4_step_4 ht 0 (by decide) m_X4_step_f9 rfl dX4_step_101 rfl ?_
          refine v_iconst (pc' := 105) (v := nI 1) F dX4_step_104 (by decide) rfl ?_
          refine w_icmp_ne (tgt := 166) (pc' := 108) F (by omega) (by omega) dX4_step_105 (by decide) rfl (fun c0 => absurd c0 (by omega)) (fun _ => ?_)
          refine v_aload_n (pc' := 109) F dX4_step_108 rfl (j := 0) rfl rfl ?_
          refine v_getf (pc' := 112) (v := .null) F k_X4_step_4 ht 2 (by decide) m_X4_step_f18 rfl dX4_step_109 rfl ?_
          refine v_ifnonnullN (pc' := 115) F dX4_step_112 rfl ?_
          refine v_aload_n (pc' := 116) F dX4_step_115 rfl (j := 0) rfl rfl ?_
          refine v_getf (pc' := 119) (v := .ref c1) F k_X4_step_4 ht 4 (by decide) m_X4_step_f25 rfl dX4_step_116 rfl ?_
          refine v_ifnull (pc' := 122) F dX4_step_119 rfl ?_
          refine v_aload_n (pc' := 123) F dX4_step_122 rfl (j := 0) rfl rfl ?_
          refine v_getf (pc' := 126) (v := .ref c1) F k_X4_step_4 ht 4 (by decide) m_X4_step_f25 rfl dX4_step_123 rfl ?_
          refine v_getf (pc' := 129) (v := .ref c2) F k_X4_step_1 hc1 1 (by decide) m_X4_step_f39 rfl dX4_step_126 rfl ?_
          refine v_ifnonnull (tgt := 166) F dX4_step_129 (by decide) ?_
          refine v_aload_n (pc' := 167) F dX4_step_166 rfl (j := 0) rfl rfl ?_
          refine v_getf (pc' := 170) (v := .int (nI 1)) F k_X4_step_4 ht 0 (by decide) m_X4_step_f9 rfl dX4_step_167 rfl ?_
          refine v_iconst (pc' := 171) (v := nI 2) F dX4_step_170 (by decide) rfl ?_
          refine w_icmp_ne (tgt := 187) (pc' := 174) F (by omega) (by omega) dX4_step_171 (by decide) rfl (fun _ => ?_) (fun c0 => absurd c0 (by omega))
          refine v_aload_n (pc' := 188) F dX4_step_187 rfl (j := 0) rfl rfl ?_
          refine v_getf (pc' := 191) (v := .int (nI 1)) F k_X4_step_4 ht 0 (by decide) m_X4_step_f9 rfl dX4_step_188 rfl ?_
          refine v_iconst (pc' := 192) (v := nI 2) F dX4_step_191 (by decide) rfl ?_
          refine w_icmp_ne (tgt := 254) (pc' := 195) F (by omega) (by omega) dX4_step_192 (by decide) rfl (fun _ => ?_) (fun c0 => absurd c0 (by omega))
          refine v_iconst (pc' := 255) (v := nI 0) F dX4_step_254 (by decide) rfl ?_
          exact v_zret F E (by omega) (by omega) (by decide) dX4_step_255 (Or.inl ⟨by simp [tStep], rfl, rfl⟩)
    | cons x oF =>
      obtain ⟨a1, an, rfl, ha1, han⟩ := ha
      cases oR with
      | nil =>
        cases hc
        refine gC_of (cc := cX4_step) (nL := 1) (ret := (some .boolean)) (by decide) rfl (Nat.le_of_ble_eq_true rfl) ?_
        intro X F E _
        change gF G z0 X cX4_step 1 RX4 wsX4_step (some .boolean) "step" 2 42 _ _ at F
        show gV G z0 X 0 0 h 0 [(0, .ref t)] []
        refine v_aload_n (pc' := 1) F dX4_step_0 rfl (j := 0) rfl rfl ?_
        refine v_getf (pc' := 4) (v := .int (nI 1)) F k_X4_step_4 ht 0 (by decide) m_X4_step_f9 rfl dX4_step_1 rfl ?_
        refine v_iconst (pc' := 5) (v := nI 1) F dX4_step_4 (by decide) rfl ?_
        refine w_icmp_ne (tgt := 100) (pc' := 8) F (by omega) (by omega) dX4_step_5 (by decide) rfl (fun c0 => absurd c0 (by omega)) (fun _ => ?_)
        refine v_aload_n (pc' := 9) F dX4_step_8 rfl (j := 0) rfl rfl ?_
        refine v_getf (pc' := 12) (v := .ref a1) F k_X4_step_4 ht 2 (by decide) m_X4_step_f18 rfl dX4_step_9 rfl ?_
        refine v_ifnull (pc' := 15) F dX4_step_12 rfl ?_
        refine v_aload_n (pc' := 16) F dX4_step_15 rfl (j := 0) rfl rfl ?_
        refine v_getf (pc' := 19) (v := .null) F k_X4_step_4 ht 4 (by decide) m_X4_step_f25 rfl dX4_step_16 rfl ?_
        refine v_ifnullN (tgt := 100) F dX4_step_19 (by decide) ?_
        refine v_aload_n (pc' := 101) F dX4_step_100 rfl (j := 0) rfl rfl ?_
        refine v_getf (pc' := 104) (v := .int (nI 1)) F k_X4_step_4 ht 0 (by decide) m_X4_step_f9 rfl dX4_step_101 rfl ?_
        refine v_iconst (pc' := 105) (v := nI 1) F dX4_step_104 (by decide) rfl ?_
        refine w_icmp_ne (tgt := 166) (pc' := 108) F (by omega) (by omega) dX4_step_105 (by decide) rfl (fun c0 => absurd c0 (by omega)) (fun _ => ?_)
        refine v_aload_n (pc' := 109) F dX4_step_108 rfl (j := 0) rfl rfl ?_
        refine v_getf (pc' := 112) (v := .ref a1) F k_X4_step_4 ht 2 (by decide) m_X4_step_f18 rfl dX4_step_109 rfl ?_
        refine v_ifnonnull (tgt := 166) F dX4_step_112 (by decide) ?_
        refine v_aload_n (pc' := 167) F dX4_step_166 rfl (j := 0) rfl rfl ?_
        refine v_getf (pc' := 170) (v := .int (nI 1)) F k_X4_step_4 ht 0 (by decide) m_X4_step_f9 rfl dX4_step_167 rfl ?_
        refine v_iconst (pc' := 171) (v := nI 2) F dX4_step_170 (by decide) rfl ?_
        refine w_icmp_ne (tgt := 187) (pc' := 174) F (by omega) (by omega) dX4_step_171 (by decide) rfl (fun _ => ?_) (fun c0 => absurd c0 (by omega))
        refine v_aload_n (pc' := 188) F dX4_step_187 rfl (j := 0) rfl rfl ?_
        refine v_getf (pc' := 191) (v := .int (nI 1)) F k_X4_step_4 ht 0 (by decide) m_X4_step_f9 rfl dX4_step_188 rfl ?_
        refine v_iconst (pc' := 192) (v := nI 2) F dX4_step_191 (by decide) rfl ?_
        refine w_icmp_ne (tgt := 254) (pc' := 195) F (by omega) (by omega) dX4_step_192 (by decide) rfl (fun _ => ?_) (fun c0 => absurd c0 (by omega))
        refine v_iconst (pc' := 255) (v := nI 0) F dX4_step_254 (by decide) rfl ?_
        exact v_zret F E (by omega) (by omega) (by decide) dX4_step_255 (Or.inl ⟨by simp [tStep], rfl, rfl⟩)
      | cons y oR =>
        obtain ⟨c1, cn, rfl, hc1, hcn⟩ := hc
        refine gC_of (cc := cX4_step) (nL := 1) (ret := (some .boolean)) (by decide) rfl (Nat.le_of_ble_eq_true rfl) ?_
        intro X F E _
        change gF G z0 X cX4_step 1 RX4 wsX4_step (some .boolean) "step" 2 42 _ _ at F
        show gV G z0 X 0 0 h 0 [(0, .ref t)] []
        refine v_aload_n (pc' := 1) F dX4_step_0 rfl (j := 0) rfl rfl ?_
        refine v_getf (pc' := 4) (v := .int (nI 1)) F k_X4_step_4 ht 0 (by decide) m_X4_step_f9 rfl dX4_step_1 rfl ?_
        refine v_iconst (pc' := 5) (v := nI 1) F dX4_step_4 (by decide) rfl ?_
        refine w_icmp_ne (tgt := 100) (pc' := 8) F (by omega) (by omega) dX4_step_5 (by decide) rfl (fun c0 => absurd c0 (by omega)) (fun _ => ?_)
        refine v_aload_n (pc' := 9) F dX4_step_8 rfl (j := 0) rfl rfl ?_
        refine v_getf (pc' := 12) (v := .ref a1) F k_X4_step_4 ht 2 (by decide) m_X4_step_f18 rfl dX4_step_9 rfl ?_
        refine v_ifnull (pc' := 15) F dX4_step_12 rfl ?_
        refine v_aload_n (pc' := 16) F dX4_step_15 rfl (j := 0) rfl rfl ?_
        refine v_getf (pc' := 19) (v := .ref c1) F k_X4_step_4 ht 4 (by decide) m_X4_step_f25 rfl dX4_step_16 rfl ?_
        refine v_ifnull (pc' := 22) F dX4_step_19 rfl ?_
        refine v_aload_n (pc' := 23) F dX4_step_22 rfl (j := 0) rfl rfl ?_
        refine w_new (pc' := 26) F [.int (nI 0), .null] k_X4_step_1 tyX1_ok m_X4_step_c31 m_X4_step_in1 m_X4_step_ini1 (g_dv1 ) (by omega) (by omega) dX4_step_23 rfl (fun q1 h2 e3 a4 f5 => ?_)
        refine v_dup (pc' := 27) F dX4_step_26 rfl rfl ?_
        refine v_aload_n (pc' := 28) F dX4_step_27 rfl (j := 0) rfl rfl ?_
        have g6 := f5 _ _ gn0 ht
        refine v_getf (pc' := 31) (v := .ref a1) F k_X4_step_4 g6 2 (by decide) m_X4_step_f18 rfl dX4_step_28 rfl ?_
        have g7 := f5 _ _ gn0 ha1
        refine v_getf (pc' := 34) (v := .int x) F k_X4_step_1 g7 0 (by decide) m_X4_step_f33 rfl dX4_step_31 rfl ?_
        refine v_aload_n (pc' := 35) F dX4_step_34 rfl (j := 0) rfl rfl ?_
        refine v_getf (pc' := 38) (v := va_rf b) F k_X4_step_4 g6 3 (by decide) m_X4_step_f22 rfl dX4_step_35 rfl ?_
        refine v_callI (pc' := 41) (mcc := 0) (msc := 0) (As := [.int x, va_rf b]) (st := [.ref q1, .ref t]) F (fun l => c_X1_init G z0 l x b a4) gX4_step_X1_init rfl m_X4_step_ini1 m_X4_step_ml36 m_X4_step_imX1_init rfl hd_X1_init (by decide) (by decide) rfl rfl (Nat.le_of_ble_eq_true rfl) (by omega) (by omega) dX4_step_38 rfl (fun v10 h9 hq => ?_)
        obtain ⟨rfl, cck8, ffk8⟩ := hq
        have g11 := ffk8 _ _ (gnc (g_neN ht e3) gn0) g6
        refine w_putf (pc' := 44) F k_X4_step_4 tyX4_ok nmX4 g11 3 (by decide) m_X4_step_f22 rfl  rfl rfl (show 3 < 6 by decide) [.int (nI 1), .int (nI ok), .ref a1, .ref q1, .ref c1, va_rf d] rfl dX4_step_41 rfl (fun h12 a13 f14 => ?_)
        refine v_aload_n (pc' := 45) F dX4_step_44 rfl (j := 0) rfl rfl ?_
        refine w_new (pc' := 48) F [.int (nI 0), .null] k_X4_step_1 tyX1_ok m_X4_step_c31 m_X4_step_in1 m_X4_step_ini1 (g_dv1 ) (by omega) (by omega) dX4_step_45 rfl (fun q15 h16 e17 a18 f19 => ?_)
        have g20 := ffk8 _ _ (gnc (g_neN ha1 e3) gn0) g7
        have g21 := f14 _ _ (gnc (g_neC g20 g11 (by decide)) gn0) g20
        have g22 := f5 _ _ gn0 hc1
        have g23 := ffk8 _ _ (gnc (g_neN hc1 e3) gn0) g22
        have g24 := f14 _ _ (gnc (g_neC g23 g11 (by decide)) gn0) g23
        have g25 := f14 _ _ (gnc ((g_neN ht e3).symm) gn0) cck8
        refine v_dup (pc' := 49) F dX4_step_48 rfl rfl ?_
        refine v_aload_n (pc' := 50) F dX4_step_49 rfl (j := 0) rfl rfl ?_
        have g26 := f19 _ _ gn0 a13
        refine v_getf (pc' := 53) (v := .ref c1) F k_X4_step_4 g26 4 (by decide) m_X4_step_f25 rfl dX4_step_50 rfl ?_
        have g27 := f19 _ _ gn0 g24
        refine v_getf (pc' := 56) (v := .int y) F k_X4_step_1 g27 0 (by decide) m_X4_step_f33 rfl dX4_step_53 rfl ?_
        refine v_aload_n (pc' := 57) F dX4_step_56 rfl (j := 0) rfl rfl ?_
        refine v_getf (pc' := 60) (v := va_rf d) F k_X4_step_4 g26 5 (by decide) m_X4_step_f28 rfl dX4_step_57 rfl ?_
        refine v_callI (pc' := 63) (mcc := 0) (msc := 0) (As := [.int y, va_rf d]) (st := [.ref q15, .ref t]) F (fun l => c_X1_init G z0 l y d a18) gX4_step_X1_init rfl m_X4_step_ini1 m_X4_step_ml36 m_X4_step_imX1_init rfl hd_X1_init (by decide) (by decide) rfl rfl (Nat.le_of_ble_eq_true rfl) (by omega) (by omega) dX4_step_60 rfl (fun v30 h29 hq => ?_)
        obtain ⟨rfl, cck28, ffk28⟩ := hq
        have g31 := ffk28 _ _ (gnc (g_neN a13 e17) gn0) g26
        refine w_putf (pc' := 66) F k_X4_step_4 tyX4_ok nmX4 g31 5 (by decide) m_X4_step_f28 rfl  rfl rfl (show 5 < 6 by decide) [.int (nI 1), .int (nI ok), .ref a1, .ref q1, .ref c1, .ref q15] rfl dX4_step_63 rfl (fun h32 a33 f34 => ?_)
        refine v_aload_n (pc' := 67) F dX4_step_66 rfl (j := 0) rfl rfl ?_
        refine v_aload_n (pc' := 68) F dX4_step_67 rfl (j := 0) rfl rfl ?_
        refine v_getf (pc' := 71) (v := .ref a1) F k_X4_step_4 a33 2 (by decide) m_X4_step_f18 rfl dX4_step_68 rfl ?_
        have g35 := f19 _ _ gn0 g21
        have g36 := ffk28 _ _ (gnc (g_neN g21 e17) gn0) g35
        have g37 := f34 _ _ (gnc (g_neC g36 g31 (by decide)) gn0) g36
        refine v_getf (pc' := 74) (v := va_rf an) F k_X4_step_1 g37 1 (by decide) m_X4_step_f39 rfl dX4_step_71 rfl ?_
        refine w_putf (pc' := 77) F k_X4_step_4 tyX4_ok nmX4 a33 2 (by decide) m_X4_step_f18 rfl  (gnar _ _) (gfit _ _) (show 2 < 6 by decide) [.int (nI 1), .int (nI ok), va_rf an, .ref q1, .ref c1, .ref q15] rfl dX4_step_74 rfl (fun h38 a39 f40 => ?_)
        refine v_aload_n (pc' := 78) F dX4_step_77 rfl (j := 0) rfl rfl ?_
        refine v_aload_n (pc' := 79) F dX4_step_78 rfl (j := 0) rfl rfl ?_
        refine v_getf (pc' := 82) (v := .ref c1) F k_X4_step_4 a39 4 (by decide) m_X4_step_f25 rfl dX4_step_79 rfl ?_
        have g41 := ffk28 _ _ (gnc (g_neN g24 e17) gn0) g27
        have g42 := f34 _ _ (gnc (g_neC g41 g31 (by decide)) gn0) g41
        have g43 := f40 _ _ (gnc (g_neC g42 a33 (by decide)) gn0) g42
        refine v_getf (pc' := 85) (v := va_rf cn) F k_X4_step_1 g43 1 (by decide) m_X4_step_f39 rfl dX4_step_82 rfl ?_
        refine w_putf (pc' := 88) F k_X4_step_4 tyX4_ok nmX4 a39 4 (by decide) m_X4_step_f25 rfl  (gnar _ _) (gfit _ _) (show 4 < 6 by decide) [.int (nI 1), .int (nI ok), va_rf an, .ref q1, va_rf cn, .ref q15] rfl dX4_step_85 rfl (fun h44 a45 f46 => ?_)
        refine v_aload_n (pc' := 89) F dX4_step_88 rfl (j := 0) rfl rfl ?_
        refine v_dup (pc' := 90) F dX4_step_89 rfl rfl ?_
        refine v_getf (pc' := 93) (v := .int (nI ok)) F k_X4_step_4 a45 1 (by decide) m_X4_step_f15 rfl dX4_step_90 rfl ?_
        refine v_iconst (pc' := 94) (v := nI 1) F dX4_step_93 (by decide) rfl ?_
        refine v_iadd (pc' := 95) (v := nI (ok + 1)) F dX4_step_94 (nI_add ok 1) rfl ?_
        refine w_putf (pc' := 98) F k_X4_step_4 tyX4_ok nmX4 a45 1 (by decide) m_X4_step_f15 rfl  rfl rfl (show 1 < 6 by decide) [.int (nI 1), .int (nI (ok + 1)), va_rf an, .ref q1, va_rf cn, .ref q15] rfl dX4_step_95 rfl (fun h47 a48 f49 => ?_)
        refine v_iconst (pc' := 99) (v := nI 1) F dX4_step_98 (by decide) rfl ?_
        have fr51 : gfr [q1, q15, t] h h47 := (gfr.t (gfr.mono0 f5) (gfr.t (gfr.mono ffk8 (by intro q9 z9 m9; apply z9; simp only [List.mem_cons, List.not_mem_nil, or_false] at m9 ⊢; omega)) (gfr.t (gfr.mono f14 (by intro q9 z9 m9; apply z9; simp only [List.mem_cons, List.not_mem_nil, or_false] at m9 ⊢; omega)) (gfr.t (gfr.mono0 f19) (gfr.t (gfr.mono ffk28 (by intro q9 z9 m9; apply z9; simp only [List.mem_cons, List.not_mem_nil, or_false] at m9 ⊢; omega)) (gfr.t (gfr.mono f34 (by intro q9 z9 m9; apply z9; simp only [List.mem_cons, List.not_mem_nil, or_false] at m9 ⊢; omega)) (gfr.t (gfr.mono f40 (by intro q9 z9 m9; apply z9; simp only [List.mem_cons, List.not_mem_nil, or_false] at m9 ⊢; omega)) (gfr.t (gfr.mono f46 (by intro q9 z9 m9; apply z9; simp only [List.mem_cons, List.not_mem_nil, or_false] at m9 ⊢; omega)) (gfr.mono f49 (by intro q9 z9 m9; apply z9; simp only [List.mem_cons, List.not_mem_nil, or_false] at m9 ⊢; omega))))))))))
        have fr52 := gfr.drop e3 fr51
        have fr53 : gfr [q1, t] h h12 := (gfr.t (gfr.mono0 f5) (gfr.t (gfr.mono ffk8 (by intro q9 z9 m9; apply z9; simp only [List.mem_cons, List.not_mem_nil, or_false] at m9 ⊢; omega)) (gfr.mono f14 (by intro q9 z9 m9; apply z9; simp only [List.mem_cons, List.not_mem_nil, or_false] at m9 ⊢; omega))))
        have e54 := gfr.non fr53 e17 (gnc ((g_neN g25 e17).symm) (gnc ((g_neN a13 e17).symm) gn0))
        have fr50 := gfr.drop e54 fr52
        have pl55 := gfr.pl fr50 (by intro a9 m9 fs9 z9; simp only [List.mem_cons, List.not_mem_nil, or_false] at m9; subst m9; (rw [ht] at z9; cases z9))
        have g56 := f19 _ _ gn0 g25
        have g57 := ffk28 _ _ (gnc (g_neN g25 e17) gn0) g56
        have g58 := f34 _ _ (gnc ((g_neN ht e3).symm) gn0) g57
        have g59 := f40 _ _ (gnc ((g_neN ht e3).symm) gn0) g58
        have g60 := f46 _ _ (gnc ((g_neN ht e3).symm) gn0) g59
        have g61 := f49 _ _ (gnc ((g_neN ht e3).symm) gn0) g60
        have g62 := f34 _ _ (gnc ((g_neN a13 e17).symm) gn0) cck28
        have g63 := f40 _ _ (gnc ((g_neN a13 e17).symm) gn0) g62
        have g64 := f46 _ _ (gnc ((g_neN a13 e17).symm) gn0) g63
        have g65 := f49 _ _ (gnc ((g_neN a13 e17).symm) gn0) g64
        exact v_zret F E (by omega) (by omega) (by decide) dX4_step_99 (Or.inr ⟨_, rfl, rfl, ⟨an, some q1, cn, some q15, a48, han.keep pl55, ⟨_, b, rfl, g61, hb.keep pl55⟩, hcn.keep pl55, ⟨_, d, rfl, g65, hd.keep pl55⟩⟩, fr50⟩)
  · by_cases hk2 : k = 2
    · subst hk2
      cases ok with
      | zero =>
        refine gC_of (cc := cX4_step) (nL := 1) (ret := (some .boolean)) (by decide) rfl (Nat.le_of_ble_eq_true rfl) ?_
        intro X F E _
        change gF G z0 X cX4_step 1 RX4 wsX4_step (some .boolean) "step" 2 42 _ _ at F
        show gV G z0 X 0 0 h 0 [(0, .ref t)] []
        refine v_aload_n (pc' := 1) F dX4_step_0 rfl (j := 0) rfl rfl ?_
        refine v_getf (pc' := 4) (v := .int (nI 2)) F k_X4_step_4 ht 0 (by decide) m_X4_step_f9 rfl dX4_step_1 rfl ?_
        refine v_iconst (pc' := 5) (v := nI 1) F dX4_step_4 (by decide) rfl ?_
        refine w_icmp_ne (tgt := 100) (pc' := 8) F (by omega) (by omega) dX4_step_5 (by decide) rfl (fun _ => ?_) (fun c0 => absurd c0 (by omega))
        refine v_aload_n (pc' := 101) F dX4_step_100 rfl (j := 0) rfl rfl ?_
        refine v_getf (pc' := 104) (v := .int (nI 2)) F k_X4_step_4 ht 0 (by decide) m_X4_step_f9 rfl dX4_step_101 rfl ?_
        refine v_iconst (pc' := 105) (v := nI 1) F dX4_step_104 (by decide) rfl ?_
        refine w_icmp_ne (tgt := 166) (pc' := 108) F (by omega) (by omega) dX4_step_105 (by decide) rfl (fun _ => ?_) (fun c0 => absurd c0 (by omega))
        refine v_aload_n (pc' := 167) F dX4_step_166 rfl (j := 0) rfl rfl ?_
        refine v_getf (pc' := 170) (v := .int (nI 2)) F k_X4_step_4 ht 0 (by decide) m_X4_step_f9 rfl dX4_step_167 rfl ?_
        refine v_iconst (pc' := 171) (v := nI 2) F dX4_step_170 (by decide) rfl ?_
        refine w_icmp_ne (tgt := 187) (pc' := 174) F (by omega) (by omega) dX4_step_171 (by decide) rfl (fun c0 => absurd c0 (by omega)) (fun _ => ?_)
        refine v_aload_n (pc' := 175) F dX4_step_174 rfl (j := 0) rfl rfl ?_
        refine v_getf (pc' := 178) (v := .int (nI 0)) F k_X4_step_4 ht 1 (by decide) m_X4_step_f15 rfl dX4_step_175 rfl ?_
        refine w_if_ne (tgt := 187) (pc' := 181) F (by omega) dX4_step_178 (by decide) rfl (fun c0 => absurd c0 (by omega)) (fun _ => ?_)
        refine v_aload_n (pc' := 182) F dX4_step_181 rfl (j := 0) rfl rfl ?_
        refine v_callV (pc' := 185) (rt := none) (mcc := 0) (msc := 0) (As := []) (st := []) F (fun l => c_X4_finish G z0 l ⟨a, b, c, d, ht, ha, hb, hc, hd⟩) gX4_step_X4_finish rfl hv_X4_finish (by decide) (by decide) ht rfl rfl rfl (Nat.le_of_ble_eq_true rfl) (by omega) (by omega) dX4_step_182 rfl (fun v2 h1 hq => ?_)
        obtain ⟨rfl, hT2, hf2⟩ := hq
        refine v_iconst (pc' := 186) (v := nI 1) F dX4_step_185 (by decide) rfl ?_
        exact v_zret F E (by omega) (by omega) (by decide) dX4_step_186 (Or.inr ⟨_, rfl, rfl, hT2, hf2⟩)
      | succ ok =>
        cases nF with
        | nil =>
          cases hb
          refine gC_of (cc := cX4_step) (nL := 1) (ret := (some .boolean)) (by decide) rfl (Nat.le_of_ble_eq_true rfl) ?_
          intro X F E _
          change gF G z0 X cX4_step 1 RX4 wsX4_step (some .boolean) "step" 2 42 _ _ at F
          show gV G z0 X 0 0 h 0 [(0, .ref t)] []
          refine v_aload_n (pc' := 1) F dX4_step_0 rfl (j := 0) rfl rfl ?_
          refine v_getf (pc' := 4) (v := .int (nI 2)) F k_X4_step_4 ht 0 (by decide) m_X4_step_f9 rfl dX4_step_1 rfl ?_
          refine v_iconst (pc' := 5) (v := nI 1) F dX4_step_4 (by decide) rfl ?_
          refine w_icmp_ne (tgt := 100) (pc' := 8) F (by omega) (by omega) dX4_step_5 (by decide) rfl (fun _ => ?_) (fun c0 => absurd c0 (by omega))
          refine v_aload_n (pc' := 101) F dX4_step_100 rfl (j := 0) rfl rfl ?_
          refine v_getf (pc' := 104) (v := .int (nI 2)) F k_X4_step_4 ht 0 (by decide) m_X4_step_f9 rfl dX4_step_101 rfl ?_
          refine v_iconst (pc' := 105) (v := nI 1) F dX4_step_104 (by decide) rfl ?_
          refine w_icmp_ne (tgt := 166) (pc' := 108) F (by omega) (by omega) dX4_step_105 (by decide) rfl (fun _ => ?_) (fun c0 => absurd c0 (by omega))
          refine v_aload_n (pc' := 167) F dX4_step_166 rfl (j := 0) rfl rfl ?_
          refine v_getf (pc' := 170) (v := .int (nI 2)) F k_X4_step_4 ht 0 (by decide) m_X4_step_f9 rfl dX4_step_167 rfl ?_
          refine v_iconst (pc' := 171) (v := nI 2) F dX4_step_170 (by decide) rfl ?_
          refine w_icmp_ne (tgt := 187) (pc' := 174) F (by omega) (by omega) dX4_step_171 (by decide) rfl (fun c0 => absurd c0 (by omega)) (fun _ => ?_)
          refine v_aload_n (pc' := 175) F dX4_step_174 rfl (j := 0) rfl rfl ?_
          refine v_getf (pc' := 178) (v := .int (nI (ok + 1))) F k_X4_step_4 ht 1 (by decide) m_X4_step_f15 rfl dX4_step_175 rfl ?_
          refine w_if_ne (tgt := 187) (pc' := 181) F (by omega) dX4_step_178 (by decide) rfl (fun _ => ?_) (fun c0 => absurd c0 (by omega))
          refine v_aload_n (pc' := 188) F dX4_step_187 rfl (j := 0) rfl rfl ?_
          refine v_getf (pc' := 191) (v := .int (nI 2)) F k_X4_step_4 ht 0 (by decide) m_X4_step_f9 rfl dX4_step_188 rfl ?_
          refine v_iconst (pc' := 192) (v := nI 2) F dX4_step_191 (by decide) rfl ?_
          refine w_icmp_ne (tgt := 254) (pc' := 195) F (by omega) (by omega) dX4_step_192 (by decide) rfl (fun c0 => absurd c0 (by omega)) (fun _ => ?_)
          refine v_aload_n (pc' := 196) F dX4_step_195 rfl (j := 0) rfl rfl ?_
          refine v_getf (pc' := 199) (v := .int (nI (ok + 1))) F k_X4_step_4 ht 1 (by decide) m_X4_step_f15 rfl dX4_step_196 rfl ?_
          refine w_if_le (tgt := 254) (pc' := 202) F (by omega) dX4_step_199 (by decide) rfl (fun c0 => absurd c0 (by omega)) (fun _ => ?_)
          refine v_aload_n (pc' := 203) F dX4_step_202 rfl (j := 0) rfl rfl ?_
          refine v_getf (pc' := 206) (v := .null) F k_X4_step_4 ht 3 (by decide) m_X4_step_f22 rfl dX4_step_203 rfl ?_
          refine v_ifnullN (tgt := 254) F dX4_step_206 (by decide) ?_
          refine v_iconst (pc' := 255) (v := nI 0) F dX4_step_254 (by decide) rfl ?_
          exact v_zret F E (by omega) (by omega) (by decide) dX4_step_255 (Or.inl ⟨by simp [tStep], rfl, rfl⟩)
        | cons x nF =>
          obtain ⟨b1, bn, rfl, hb1, hbn⟩ := hb
          refine gC_of (cc := cX4_step) (nL := 1) (ret := (some .boolean)) (by decide) rfl (Nat.le_of_ble_eq_true rfl) ?_
          intro X F E _
          change gF G z0 X cX4_step 1 RX4 wsX4_step (some .boolean) "step" 2 42 _ _ at F
          show gV G z0 X 0 0 h 0 [(0, .ref t)] []
          refine v_aload_n (pc' := 1) F dX4_step_0 rfl (j := 0) rfl rfl ?_
          refine v_getf (pc' := 4) (v := .int (nI 2)) F k_X4_step_4 ht 0 (by decide) m_X4_step_f9 rfl dX4_step_1 rfl ?_
          refine v_iconst (pc' := 5) (v := nI 1) F dX4_step_4 (by decide) rfl ?_
          refine w_icmp_ne (tgt := 100) (pc' := 8) F (by omega) (by omega) dX4_step_5 (by decide) rfl (fun _ => ?_) (fun c0 => absurd c0 (by omega))
          refine v_aload_n (pc' := 101) F dX4_step_100 rfl (j := 0) rfl rfl ?_
          refine v_getf (pc' := 104) (v := .int (nI 2)) F k_X4_step_4 ht 0 (by decide) m_X4_step_f9 rfl dX4_step_101 rfl ?_
          refine v_iconst (pc' := 105) (v := nI 1) F dX4_step_104 (by decide) rfl ?_
          refine w_icmp_ne (tgt := 166) (pc' := 108) F (by omega) (by omega) dX4_step_105 (by decide) rfl (fun _ => ?_) (fun c0 => absurd c0 (by omega))
          refine v_aload_n (pc' := 167) F dX4_step_166 rfl (j := 0) rfl rfl ?_
          refine v_getf (pc' := 170) (v := .int (nI 2)) F k_X4_step_4 ht 0 (by decide) m_X4_step_f9 rfl dX4_step_167 rfl ?_
          refine v_iconst (pc' := 171) (v := nI 2) F dX4_step_170 (by decide) rfl ?_
          refine w_icmp_ne (tgt := 187) (pc' := 174) F (by omega) (by omega) dX4_step_171 (by decide) rfl (fun c0 => absurd c0 (by omega)) (fun _ => ?_)
          refine v_aload_n (pc' := 175) F dX4_step_174 rfl (j := 0) rfl rfl ?_
          refine v_getf (pc' := 178) (v := .int (nI (ok + 1))) F k_X4_step_4 ht 1 (by decide) m_X4_step_f15 rfl dX4_step_175 rfl ?_
          refine w_if_ne (tgt := 187) (pc' := 181) F (by omega) dX4_step_178 (by decide) rfl (fun _ => ?_) (fun c0 => absurd c0 (by omega))
          refine v_aload_n (pc' := 188) F dX4_step_187 rfl (j := 0) rfl rfl ?_
          refine v_getf (pc' := 191) (v := .int (nI 2)) F k_X4_step_4 ht 0 (by decide) m_X4_step_f9 rfl dX4_step_188 rfl ?_
          refine v_iconst (pc' := 192) (v := nI 2) F dX4_step_191 (by decide) rfl ?_
          refine w_icmp_ne (tgt := 254) (pc' := 195) F (by omega) (by omega) dX4_step_192 (by decide) rfl (fun c0 => absurd c0 (by omega)) (fun _ => ?_)
          refine v_aload_n (pc' := 196) F dX4_step_195 rfl (j := 0) rfl rfl ?_
          refine v_getf (pc' := 199) (v := .int (nI (ok + 1))) F k_X4_step_4 ht 1 (by decide) m_X4_step_f15 rfl dX4_step_196 rfl ?_
          refine w_if_le (tgt := 254) (pc' := 202) F (by omega) dX4_step_199 (by decide) rfl (fun c0 => absurd c0 (by omega)) (fun _ => ?_)
          refine v_aload_n (pc' := 203) F dX4_step_202 rfl (j := 0) rfl rfl ?_
          refine v_getf (pc' := 206) (v := .ref b1) F k_X4_step_4 ht 3 (by decide) m_X4_step_f22 rfl dX4_step_203 rfl ?_
          refine v_ifnull (pc' := 209) F dX4_step_206 rfl ?_
          refine v_aload_n (pc' := 210) F dX4_step_209 rfl (j := 0) rfl rfl ?_
          refine w_new (pc' := 213) F [.int (nI 0), .null] k_X4_step_1 tyX1_ok m_X4_step_c31 m_X4_step_in1 m_X4_step_ini1 (g_dv1 ) (by omega) (by omega) dX4_step_210 rfl (fun q1 h2 e3 a4 f5 => ?_)
          refine v_dup (pc' := 214) F dX4_step_213 rfl rfl ?_
          refine v_aload_n (pc' := 215) F dX4_step_214 rfl (j := 0) rfl rfl ?_
          have g6 := f5 _ _ gn0 ht
          refine v_getf (pc' := 218) (v := .ref b1) F k_X4_step_4 g6 3 (by decide) m_X4_step_f22 rfl dX4_step_215 rfl ?_
          have g7 := f5 _ _ gn0 hb1
          refine v_getf (pc' := 221) (v := .int x) F k_X4_step_1 g7 0 (by decide) m_X4_step_f33 rfl dX4_step_218 rfl ?_
          refine v_aload_n (pc' := 222) F dX4_step_221 rfl (j := 0) rfl rfl ?_
          refine v_getf (pc' := 225) (v := va_rf d) F k_X4_step_4 g6 5 (by decide) m_X4_step_f28 rfl dX4_step_222 rfl ?_
          refine v_callI (pc' := 228) (mcc := 0) (msc := 0) (As := [.int x, va_rf d]) (st := [.ref q1, .ref t]) F (fun l => c_X1_init G z0 l x d a4) gX4_step_X1_init rfl m_X4_step_ini1 m_X4_step_ml36 m_X4_step_imX1_init rfl hd_X1_init (by decide) (by decide) rfl rfl (Nat.le_of_ble_eq_true rfl) (by omega) (by omega) dX4_step_225 rfl (fun v10 h9 hq => ?_)
          obtain ⟨rfl, cck8, ffk8⟩ := hq
          have g11 := ffk8 _ _ (gnc (g_neN ht e3) gn0) g6
          refine w_putf (pc' := 231) F k_X4_step_4 tyX4_ok nmX4 g11 5 (by decide) m_X4_step_f28 rfl  rfl rfl (show 5 < 6 by decide) [.int (nI 2), .int (nI (ok + 1)), va_rf a, .ref b1, va_rf c, .ref q1] rfl dX4_step_228 rfl (fun h12 a13 f14 => ?_)
          refine v_aload_n (pc' := 232) F dX4_step_231 rfl (j := 0) rfl rfl ?_
          refine v_aload_n (pc' := 233) F dX4_step_232 rfl (j := 0) rfl rfl ?_
          refine v_getf (pc' := 236) (v := .ref b1) F k_X4_step_4 a13 3 (by decide) m_X4_step_f22 rfl dX4_step_233 rfl ?_
          have g15 := ffk8 _ _ (gnc (g_neN hb1 e3) gn0) g7
          have g16 := f14 _ _ (gnc (g_neC g15 g11 (by decide)) gn0) g15
          refine v_getf (pc' := 239) (v := va_rf bn) F k_X4_step_1 g16 1 (by decide) m_X4_step_f39 rfl dX4_step_236 rfl ?_
          refine w_putf (pc' := 242) F k_X4_step_4 tyX4_ok nmX4 a13 3 (by decide) m_X4_step_f22 rfl  (gnar _ _) (gfit _ _) (show 3 < 6 by decide) [.int (nI 2), .int (nI (ok + 1)), va_rf a, va_rf bn, va_rf c, .ref q1] rfl dX4_step_239 rfl (fun h17 a18 f19 => ?_)
          refine v_aload_n (pc' := 243) F dX4_step_242 rfl (j := 0) rfl rfl ?_
          refine v_dup (pc' := 244) F dX4_step_243 rfl rfl ?_
          refine v_getf (pc' := 247) (v := .int (nI (ok + 1))) F k_X4_step_4 a18 1 (by decide) m_X4_step_f15 rfl dX4_step_244 rfl ?_
          refine v_iconst (pc' := 248) (v := nI 1) F dX4_step_247 (by decide) rfl ?_
          refine v_isub (pc' := 249) (v := nI ok) F dX4_step_248 (g_subn (by omega) (by omega)) rfl ?_
          refine w_putf (pc' := 252) F k_X4_step_4 tyX4_ok nmX4 a18 1 (by decide) m_X4_step_f15 rfl  rfl rfl (show 1 < 6 by decide) [.int (nI 2), .int (nI ok), va_rf a, va_rf bn, va_rf c, .ref q1] rfl dX4_step_249 rfl (fun h20 a21 f22 => ?_)
          refine v_iconst (pc' := 253) (v := nI 1) F dX4_step_252 (by decide) rfl ?_
          have fr24 : gfr [q1, t] h h20 := (gfr.t (gfr.mono0 f5) (gfr.t (gfr.mono ffk8 (by intro q9 z9 m9; apply z9; simp only [List.mem_cons, List.not_mem_nil, or_false] at m9 ⊢; omega)) (gfr.t (gfr.mono f14 (by intro q9 z9 m9; apply z9; simp only [List.mem_cons, List.not_mem_nil, or_false] at m9 ⊢; omega)) (gfr.t (gfr.mono f19 (by intro q9 z9 m9; apply z9; simp only [List.mem_cons, List.not_mem_nil, or_false] at m9 ⊢; omega)) (gfr.mono f22 (by intro q9 z9 m9; apply z9; simp only [List.mem_cons, List.not_mem_nil, or_false] at m9 ⊢; omega))))))
          have fr23 := gfr.drop e3 fr24
          have pl25 := gfr.pl fr23 (by intro a9 m9 fs9 z9; simp only [List.mem_cons, List.not_mem_nil, or_false] at m9; subst m9; (rw [ht] at z9; cases z9))
          have g26 := f14 _ _ (gnc ((g_neN ht e3).symm) gn0) cck8
          have g27 := f19 _ _ (gnc ((g_neN ht e3).symm) gn0) g26
          have g28 := f22 _ _ (gnc ((g_neN ht e3).symm) gn0) g27
          exact v_zret F E (by omega) (by omega) (by decide) dX4_step_253 (Or.inr ⟨_, rfl, rfl, ⟨a, bn, c, some q1, a21, ha.keep pl25, hbn.keep pl25, hc.keep pl25, ⟨_, d, rfl, g28, hd.keep pl25⟩⟩, fr23⟩)
    · have hkk := hk1
      refine gC_of (cc := cX4_step) (nL := 1) (ret := (some .boolean)) (by decide) rfl (Nat.le_of_ble_eq_true rfl) ?_
      intro X F E _
      change gF G z0 X cX4_step 1 RX4 wsX4_step (some .boolean) "step" 2 42 _ _ at F
      show gV G z0 X 0 0 h 0 [(0, .ref t)] []
      refine v_aload_n (pc' := 1) F dX4_step_0 rfl (j := 0) rfl rfl ?_
      refine v_getf (pc' := 4) (v := .int (nI k)) F k_X4_step_4 ht 0 (by decide) m_X4_step_f9 rfl dX4_step_1 rfl ?_
      refine v_iconst (pc' := 5) (v := nI 1) F dX4_step_4 (by decide) rfl ?_
      refine w_icmp_ne (tgt := 100) (pc' := 8) F (by omega) (by omega) dX4_step_5 (by decide) rfl (fun _ => ?_) (fun c0 => absurd c0 hk1)
      refine v_aload_n (pc' := 101) F dX4_step_100 rfl (j := 0) rfl rfl ?_
      refine v_getf (pc' := 104) (v := .int (nI k)) F k_X4_step_4 ht 0 (by decide) m_X4_step_f9 rfl dX4_step_101 rfl ?_
      refine v_iconst (pc' := 105) (v := nI 1) F dX4_step_104 (by decide) rfl ?_
      refine w_icmp_ne (tgt := 166) (pc' := 108) F (by omega) (by omega) dX4_step_105 (by decide) rfl (fun _ => ?_) (fun c0 => absurd c0 hk1)
      refine v_aload_n (pc' := 167) F dX4_step_166 rfl (j := 0) rfl rfl ?_
      refine v_getf (pc' := 170) (v := .int (nI k)) F k_X4_step_4 ht 0 (by decide) m_X4_step_f9 rfl dX4_step_167 rfl ?_
      refine v_iconst (pc' := 171) (v := nI 2) F dX4_step_170 (by decide) rfl ?_
      refine w_icmp_ne (tgt := 187) (pc' := 174) F (by omega) (by omega) dX4_step_171 (by decide) rfl (fun _ => ?_) (fun c0 => absurd c0 hk2)
      refine v_aload_n (pc' := 188) F dX4_step_187 rfl (j := 0) rfl rfl ?_
      refine v_getf (pc' := 191) (v := .int (nI k)) F k_X4_step_4 ht 0 (by decide) m_X4_step_f9 rfl dX4_step_188 rfl ?_
      refine v_iconst (pc' := 192) (v := nI 2) F dX4_step_191 (by decide) rfl ?_
      refine w_icmp_ne (tgt := 254) (pc' := 195) F (by omega) (by omega) dX4_step_192 (by decide) rfl (fun _ => ?_) (fun c0 => absurd c0 hk2)
      refine v_iconst (pc' := 255) (v := nI 0) F dX4_step_254 (by decide) rfl ?_
      exact v_zret F E (by omega) (by omega) (by decide) dX4_step_255 (Or.inl ⟨tStep_other hk1 hk2, rfl, rfl⟩)
theorem k_X4_loseFirst_4 : gCl wsX4_loseFirst 4 RX4 TX4 6 := ⟨by decide +kernel, rfl⟩
theorem m_X4_loseFirst_f9 : Cond.fieldLink RX4 9 "SteadyQueues$Turn" "kind" "I" ∈ wsX4_loseFirst := by decide +kernel
theorem m_X4_loseFirst_f15 : Cond.fieldLink RX4 15 "SteadyQueues$Turn" "ok" "I" ∈ wsX4_loseFirst := by decide +kernel
theorem m_X4_loseFirst_f28 : Cond.fieldLink RX4 28 "SteadyQueues$Turn" "newRear" "LSteadyQueues$Cell;" ∈ wsX4_loseFirst := by decide +kernel
theorem hd_X1_behindFirst : yX1_behindFirst.cls ≠ "java/lang/invoke/MethodHandle" ∧ yX1_behindFirst.cls ≠ "java/lang/invoke/VarHandle" ∧ (parseMethodDescriptor yX1_behindFirst.desc).map (fun d => d.parameters.length) = some 1 := by decide +kernel
theorem tLose_other {k ok : Nat} {oF nF oR nR : List Int32} (h1 : ¬ k = 1) (h2 : ¬ k = 2) : tLose (k, ok, oF, nF, oR, nR) = (k, ok, oF, nF, oR, nR) := by
  unfold tLose
  split
  · rename_i z; cases z; exact absurd rfl h1
  · rename_i z; cases z; exact absurd rfl h2
  · rename_i z; cases z; exact absurd rfl h2
  · rfl
set_option maxHeartbeats 4000000 in
set_option maxRecDepth 100000 in
/-- the first value of the front is gone -/
theorem c_X4_loseFirst (G : gG) (z0 : Nat) (l : Launch) {h : gH} {t : Nat} {T : mT} (hT : isT h t T) (hk0 : T.1 < 4) (ho0 : T.2.1 < 1000) (h1 : T.1 = 1 → 1 ≤ T.2.1) : gC G z0 l yX4_loseFirst wsX4_loseFirst 1 20 [.ref t] h (fun v h' => v = none ∧ isT h' t (tLose T) ∧ gfr [t] h h') 0 0 := by
  obtain ⟨k, ok, oF, nF, oR, nR⟩ := T
  simp only at hk0 ho0 h1
  obtain ⟨a, b, c, d, ht, ha, hb, hc, hd⟩ := id hT
  by_cases hk1 : k = 1
  · subst hk1
    have h1 := h1 rfl
    refine gC_of (cc := cX4_loseFirst) (nL := 1) (ret := none) (by decide) rfl (Nat.le_of_ble_eq_true rfl) ?_
    intro X F E _
    change gF G z0 X cX4_loseFirst 1 RX4 wsX4_loseFirst none "loseFirst" 1 20 _ _ at F
    show gV G z0 X 0 0 h 0 [(0, .ref t)] []
    refine v_aload_n (pc' := 1) F dX4_loseFirst_0 rfl (j := 0) rfl rfl ?_
    refine v_getf (pc' := 4) (v := .int (nI 1)) F k_X4_loseFirst_4 ht 0 (by decide) m_X4_loseFirst_f9 rfl dX4_loseFirst_1 rfl ?_
    refine v_iconst (pc' := 5) (v := nI 1) F dX4_loseFirst_4 (by decide) rfl ?_
    refine w_icmp_ne (tgt := 21) (pc' := 8) F (by omega) (by omega) dX4_loseFirst_5 (by decide) rfl (fun c0 => absurd c0 (by omega)) (fun _ => ?_)
    refine v_aload_n (pc' := 9) F dX4_loseFirst_8 rfl (j := 0) rfl rfl ?_
    refine v_dup (pc' := 10) F dX4_loseFirst_9 rfl rfl ?_
    refine v_getf (pc' := 13) (v := .int (nI ok)) F k_X4_loseFirst_4 ht 1 (by decide) m_X4_loseFirst_f15 rfl dX4_loseFirst_10 rfl ?_
    refine v_iconst (pc' := 14) (v := nI 1) F dX4_loseFirst_13 (by decide) rfl ?_
    refine v_isub (pc' := 15) (v := nI (ok - 1)) F dX4_loseFirst_14 (g_subn (by omega) (by omega)) rfl ?_
    refine w_putf (pc' := 18) F k_X4_loseFirst_4 tyX4_ok nmX4 ht 1 (by decide) m_X4_loseFirst_f15 rfl  rfl rfl (show 1 < 6 by decide) [.int (nI 1), .int (nI (ok - 1)), va_rf a, va_rf b, va_rf c, va_rf d] rfl dX4_loseFirst_15 rfl (fun h1 a2 f3 => ?_)
    refine v_goto (tgt := 79) F dX4_loseFirst_18 (by decide) ?_
    have fr4 : gfr [t] h h1 := f3
    have pl5 := gfr.pl fr4 (by intro a9 m9 fs9 z9; simp only [List.mem_cons, List.not_mem_nil, or_false] at m9; subst m9; (rw [ht] at z9; cases z9))
    exact v_vret F E (by omega) (by omega)  dX4_loseFirst_79 ⟨rfl, ⟨a, b, c, d, a2, ha.keep pl5, hb.keep pl5, hc.keep pl5, hd.keep pl5⟩, fr4⟩
  · by_cases hk2 : k = 2
    · subst hk2
      cases ok with
      | zero =>
        refine gC_of (cc := cX4_loseFirst) (nL := 1) (ret := none) (by decide) rfl (Nat.le_of_ble_eq_true rfl) ?_
        intro X F E _
        change gF G z0 X cX4_loseFirst 1 RX4 wsX4_loseFirst none "loseFirst" 1 20 _ _ at F
        show gV G z0 X 0 0 h 0 [(0, .ref t)] []
        refine v_aload_n (pc' := 1) F dX4_loseFirst_0 rfl (j := 0) rfl rfl ?_
        refine v_getf (pc' := 4) (v := .int (nI 2)) F k_X4_loseFirst_4 ht 0 (by decide) m_X4_loseFirst_f9 rfl dX4_loseFirst_1 rfl ?_
        refine v_iconst (pc' := 5) (v := nI 1) F dX4_loseFirst_4 (by decide) rfl ?_
        refine w_icmp_ne (tgt := 21) (pc' := 8) F (by omega) (by omega) dX4_loseFirst_5 (by decide) rfl (fun _ => ?_) (fun c0 => absurd c0 (by omega))
        refine v_aload_n (pc' := 22) F dX4_loseFirst_21 rfl (j := 0) rfl rfl ?_
        refine v_getf (pc' := 25) (v := .int (nI 2)) F k_X4_loseFirst_4 ht 0 (by decide) m_X4_loseFirst_f9 rfl dX4_loseFirst_22 rfl ?_
        refine v_iconst (pc' := 26) (v := nI 2) F dX4_loseFirst_25 (by decide) rfl ?_
        refine w_icmp_ne (tgt := 49) (pc' := 29) F (by omega) (by omega) dX4_loseFirst_26 (by decide) rfl (fun c0 => absurd c0 (by omega)) (fun _ => ?_)
        refine v_aload_n (pc' := 30) F dX4_loseFirst_29 rfl (j := 0) rfl rfl ?_
        refine v_getf (pc' := 33) (v := .int (nI 0)) F k_X4_loseFirst_4 ht 1 (by decide) m_X4_loseFirst_f15 rfl dX4_loseFirst_30 rfl ?_
        refine w_if_le (tgt := 49) (pc' := 36) F (by omega) dX4_loseFirst_33 (by decide) rfl (fun _ => ?_) (fun c0 => absurd c0 (by omega))
        refine v_aload_n (pc' := 50) F dX4_loseFirst_49 rfl (j := 0) rfl rfl ?_
        refine v_getf (pc' := 53) (v := .int (nI 2)) F k_X4_loseFirst_4 ht 0 (by decide) m_X4_loseFirst_f9 rfl dX4_loseFirst_50 rfl ?_
        refine v_iconst (pc' := 54) (v := nI 2) F dX4_loseFirst_53 (by decide) rfl ?_
        refine w_icmp_ne (tgt := 79) (pc' := 57) F (by omega) (by omega) dX4_loseFirst_54 (by decide) rfl (fun c0 => absurd c0 (by omega)) (fun _ => ?_)
        refine v_aload_n (pc' := 58) F dX4_loseFirst_57 rfl (j := 0) rfl rfl ?_
        refine v_getf (pc' := 61) (v := .int (nI 0)) F k_X4_loseFirst_4 ht 1 (by decide) m_X4_loseFirst_f15 rfl dX4_loseFirst_58 rfl ?_
        refine w_if_ne (tgt := 79) (pc' := 64) F (by omega) dX4_loseFirst_61 (by decide) rfl (fun c0 => absurd c0 (by omega)) (fun _ => ?_)
        refine v_aload_n (pc' := 65) F dX4_loseFirst_64 rfl (j := 0) rfl rfl ?_
        refine v_aload_n (pc' := 66) F dX4_loseFirst_65 rfl (j := 0) rfl rfl ?_
        refine v_getf (pc' := 69) (v := va_rf d) F k_X4_loseFirst_4 ht 5 (by decide) m_X4_loseFirst_f28 rfl dX4_loseFirst_66 rfl ?_
        refine v_callS (pc' := 72) (rt := (some (.object "SteadyQueues$Cell"))) (mcc := 0) (msc := 0) (As := [va_rf d]) (st := [.ref t]) F (fun l => c_X1_behindFirst G z0 l (hd)) gX4_loseFirst_X1_behindFirst rfl hd_X1_behindFirst (by decide) (by decide) rfl rfl (Nat.le_of_ble_eq_true rfl) (by omega) (by omega) dX4_loseFirst_69 rfl (fun v1 h hq => ?_)
        obtain ⟨r1, rfl, hr1, rfl⟩ := hq
        refine w_putf (pc' := 75) F k_X4_loseFirst_4 tyX4_ok nmX4 ht 5 (by decide) m_X4_loseFirst_f28 rfl  (gnar _ _) (gfit _ _) (show 5 < 6 by decide) [.int (nI 2), .int (nI 0), va_rf a, va_rf b, va_rf c, va_rf r1] rfl dX4_loseFirst_72 rfl (fun h2 a3 f4 => ?_)
        refine v_aload_n (pc' := 76) F dX4_loseFirst_75 rfl (j := 0) rfl rfl ?_
        have fr5 : gfr [t] h h2 := f4
        have pl6 := gfr.pl fr5 (by intro a9 m9 fs9 z9; simp only [List.mem_cons, List.not_mem_nil, or_false] at m9; subst m9; (rw [ht] at z9; cases z9))
        refine v_callV (pc' := 79) (rt := none) (mcc := 0) (msc := 0) (As := []) (st := []) F (fun l => c_X4_finish G z0 l (k := 2) (ok := 0) ⟨a, b, c, r1, a3, ha.keep pl6, hb.keep pl6, hc.keep pl6, hr1.keep pl6⟩) gX4_loseFirst_X4_finish rfl hv_X4_finish (by decide) (by decide) a3 rfl rfl rfl (Nat.le_of_ble_eq_true rfl) (by omega) (by omega) dX4_loseFirst_76 rfl (fun v8 h7 hq => ?_)
        obtain ⟨rfl, hT2, hf2⟩ := hq
        have fr9 : gfr [t] h h7 := (gfr.t f4 hf2)
        exact v_vret F E (by omega) (by omega)  dX4_loseFirst_79 ⟨rfl, hT2, fr9⟩
      | succ ok =>
        refine gC_of (cc := cX4_loseFirst) (nL := 1) (ret := none) (by decide) rfl (Nat.le_of_ble_eq_true rfl) ?_
        intro X F E _
        change gF G z0 X cX4_loseFirst 1 RX4 wsX4_loseFirst none "loseFirst" 1 20 _ _ at F
        show gV G z0 X 0 0 h 0 [(0, .ref t)] []
        refine v_aload_n (pc' := 1) F dX4_loseFirst_0 rfl (j := 0) rfl rfl ?_
        refine v_getf (pc' := 4) (v := .int (nI 2)) F k_X4_loseFirst_4 ht 0 (by decide) m_X4_loseFirst_f9 rfl dX4_loseFirst_1 rfl ?_
        refine v_iconst (pc' := 5) (v := nI 1) F dX4_loseFirst_4 (by decide) rfl ?_
        refine w_icmp_ne (tgt := 21) (pc' := 8) F (by omega) (by omega) dX4_loseFirst_5 (by decide) rfl (fun _ => ?_) (fun c0 => absurd c0 (by omega))
        refine v_aload_n (pc' := 22) F dX4_loseFirst_21 rfl (j := 0) rfl rfl ?_
        refine v_getf (pc' := 25) (v := .int (nI 2)) F k_X4_loseFirst_4 ht 0 (by decide) m_X4_loseFirst_f9 rfl dX4_loseFirst_22 rfl ?_
        refine v_iconst (pc' := 26) (v := nI 2) F dX4_loseFirst_25 (by decide) rfl ?_
        refine w_icmp_ne (tgt := 49) (pc' := 29) F (by omega) (by omega) dX4_loseFirst_26 (by decide) rfl (fun c0 => absurd c0 (by omega)) (fun _ => ?_)
        refine v_aload_n (pc' := 30) F dX4_loseFirst_29 rfl (j := 0) rfl rfl ?_
        refine v_getf (pc' := 33) (v := .int (nI (ok + 1))) F k_X4_loseFirst_4 ht 1 (by decide) m_X4_loseFirst_f15 rfl dX4_loseFirst_30 rfl ?_
        refine w_if_le (tgt := 49) (pc' := 36) F (by omega) dX4_loseFirst_33 (by decide) rfl (fun c0 => absurd c0 (by omega)) (fun _ => ?_)
        refine v_aload_n (pc' := 37) F dX4_loseFirst_36 rfl (j := 0) rfl rfl ?_
        refine v_dup (pc' := 38) F dX4_loseFirst_37 rfl rfl ?_
        refine v_getf (pc' := 41) (v := .int (nI (ok + 1))) F k_X4_loseFirst_4 ht 1 (by decide) m_X4_loseFirst_f15 rfl dX4_loseFirst_38 rfl ?_
        refine v_iconst (pc' := 42) (v := nI 1) F dX4_loseFirst_41 (by decide) rfl ?_
        refine v_isub (pc' := 43) (v := nI ok) F dX4_loseFirst_42 (g_subn (by omega) (by omega)) rfl ?_
        refine w_putf (pc' := 46) F k_X4_loseFirst_4 tyX4_ok nmX4 ht 1 (by decide) m_X4_loseFirst_f15 rfl  rfl rfl (show 1 < 6 by decide) [.int (nI 2), .int (nI ok), va_rf a, va_rf b, va_rf c, va_rf d] rfl dX4_loseFirst_43 rfl (fun h1 a2 f3 => ?_)
        refine v_goto (tgt := 79) F dX4_loseFirst_46 (by decide) ?_
        have fr4 : gfr [t] h h1 := f3
        have pl5 := gfr.pl fr4 (by intro a9 m9 fs9 z9; simp only [List.mem_cons, List.not_mem_nil, or_false] at m9; subst m9; (rw [ht] at z9; cases z9))
        exact v_vret F E (by omega) (by omega)  dX4_loseFirst_79 ⟨rfl, ⟨a, b, c, d, a2, ha.keep pl5, hb.keep pl5, hc.keep pl5, hd.keep pl5⟩, fr4⟩
    · have hkk := hk1
      refine gC_of (cc := cX4_loseFirst) (nL := 1) (ret := none) (by decide) rfl (Nat.le_of_ble_eq_true rfl) ?_
      intro X F E _
      change gF G z0 X cX4_loseFirst 1 RX4 wsX4_loseFirst none "loseFirst" 1 20 _ _ at F
      show gV G z0 X 0 0 h 0 [(0, .ref t)] []
      refine v_aload_n (pc' := 1) F dX4_loseFirst_0 rfl (j := 0) rfl rfl ?_
      refine v_getf (pc' := 4) (v := .int (nI k)) F k_X4_loseFirst_4 ht 0 (by decide) m_X4_loseFirst_f9 rfl dX4_loseFirst_1 rfl ?_
      refine v_iconst (pc' := 5) (v := nI 1) F dX4_loseFirst_4 (by decide) rfl ?_
      refine w_icmp_ne (tgt := 21) (pc' := 8) F (by omega) (by omega) dX4_loseFirst_5 (by decide) rfl (fun _ => ?_) (fun c0 => absurd c0 hk1)
      refine v_aload_n (pc' := 22) F dX4_loseFirst_21 rfl (j := 0) rfl rfl ?_
      refine v_getf (pc' := 25) (v := .int (nI k)) F k_X4_loseFirst_4 ht 0 (by decide) m_X4_loseFirst_f9 rfl dX4_loseFirst_22 rfl ?_
      refine v_iconst (pc' := 26) (v := nI 2) F dX4_loseFirst_25 (by decide) rfl ?_
      refine w_icmp_ne (tgt := 49) (pc' := 29) F (by omega) (by omega) dX4_loseFirst_26 (by decide) rfl (fun _ => ?_) (fun c0 => absurd c0 hk2)
      refine v_aload_n (pc' := 50) F dX4_loseFirst_49 rfl (j := 0) rfl rfl ?_
      refine v_getf (pc' := 53) (v := .int (nI k)) F k_X4_loseFirst_4 ht 0 (by decide) m_X4_loseFirst_f9 rfl dX4_loseFirst_50 rfl ?_
      refine v_iconst (pc' := 54) (v := nI 2) F dX4_loseFirst_53 (by decide) rfl ?_
      refine w_icmp_ne (tgt := 79) (pc' := 57) F (by omega) (by omega) dX4_loseFirst_54 (by decide) rfl (fun _ => ?_) (fun c0 => absurd c0 hk2)
      exact v_vret F E (by omega) (by omega)  dX4_loseFirst_79 ⟨rfl, by rw [tLose_other hk1 hk2]; exact hT, gfr.rf⟩
