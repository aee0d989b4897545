theorem gfr.pv0 {h h' : gH} (f : gfr [] h h') : gpv h h' := f.pv (fun a m => absurd m List.not_mem_nil)
theorem qPre.M {b p : Nat} {xs : List Int32} {q : mQ} (h : qPre b xs p q) : qM b xs (qBegin q) := by
  unfold qPre at h
  generalize qBegin q = q' at h ⊢
  obtain ⟨f, r, fl, rl, T⟩ := q'
  exact h.1
theorem qPut_fl (v : Int32) (q : mQ) : (qPut v q).2.2.1 = q.2.2.1 ∧ (qPut v q).2.2.2.1 = q.2.2.2.1 + 1 := by
  obtain ⟨f, r, fl, rl, T⟩ := q
  exact ⟨rfl, rfl⟩
theorem qTake_fl (q : mQ) : (qTake q).2.2.1 = q.2.2.1 - 1 ∧ (qTake q).2.2.2.1 = q.2.2.2.1 := by
  obtain ⟨f, r, fl, rl, T⟩ := q
  exact ⟨rfl, rfl⟩
theorem qOf_push {v : Int32} {p : Nat} {os : List mO} (h : v ≠ -1) : qOf ((v, p) :: os) = qSettle p (qPut v (qOf os).1) := by
  show qOp _ _ = _
  unfold qOp
  rw [if_neg h]
theorem qOf_pop {p : Nat} {os : List mO} : qOf ((-1, p) :: os) = qSettle p (qTake (qOf os).1) := rfl
/-- a queue with values: its first one is in the front, and a turn that reverses has turned two at least -/
theorem qJ.take {b : Nat} {x : Int32} {ys : List Int32} {q : mQ} (h : qJ b (x :: ys) q) : 1 ≤ q.2.2.1 ∧ 1 ≤ q.1.length ∧ (q.2.2.2.2.1 = 1 → 1 ≤ q.2.2.2.2.2.1) := by
  obtain ⟨f, r, fl, rl, k, ok, oF, nF, oR, nR⟩ := q
  obtain ⟨⟨h1, h2, h3, h4, h5⟩, j1, j2, j3, j4⟩ := h
  simp only at j1 j2 j3 j4
  simp only [List.length_cons] at h2
  rcases h5 with ⟨rfl, rfl, rfl, rfl, rfl, rfl, h6, h7⟩ | ⟨rfl, h6, h7, h8, h9, h10, h11, h12⟩ | ⟨rfl, h6, h7, h8, rfl, rfl, h11, h12, h13⟩ | ⟨rfl, h6, h7⟩
  · have := j2 rfl
    exact ⟨by show 1 ≤ fl; omega, by show 1 ≤ f.length; omega, fun z => absurd z (by show ¬ (0 : Nat) = 1; omega)⟩
  · have e3 : tRem (1, ok, oF, nF, oR, nR) = 2 * oF.length + ok + 2 := rfl
    have e4 : f.length = ok + oF.length := by rw [h7]; simp [Nat.min_eq_left h6]
    exact ⟨by show 1 ≤ fl; omega, by show 1 ≤ f.length; omega, fun _ => by show 1 ≤ ok; omega⟩
  · have e3 : tRem (2, ok, [], nF, [], nR) = ok + 1 := rfl
    exact ⟨by show 1 ≤ fl; omega, by show 1 ≤ f.length; omega, fun z => absurd z (by show ¬ (2 : Nat) = 1; omega)⟩
  · exact absurd rfl j1
theorem m_X0_init_ml3 : Cond.methodLink RX0 3 objectInit ∈ wsX0_init := by decide +kernel
theorem m_X0_init_oi : Cond.instanceMethod objectInit ∈ wsX0_init := by decide +kernel
theorem m_X0_init_oc : Cond.code objectInit ⟨#[0xb1]⟩ 1 none ∈ wsX0_init := by decide +kernel
theorem m_X0_init_c9 : Cond.classLink RX0 9 RX5 ∈ wsX0_init := by decide +kernel
theorem k_X0_init_0 : gCl wsX0_init 0 RX0 TX0 4 := ⟨by decide +kernel, rfl⟩
theorem m_X0_init_f11 : Cond.fieldLink RX0 11 "SteadyQueues$Book" "versions" "[LSteadyQueues$Version;" ∈ wsX0_init := by decide +kernel
theorem m_X0_init_f17 : Cond.fieldLink RX0 17 "SteadyQueues$Book" "count" "I" ∈ wsX0_init := by decide +kernel
theorem m_X0_init_f21 : Cond.fieldLink RX0 21 "SteadyQueues$Book" "pace" "I" ∈ wsX0_init := by decide +kernel
theorem m_X0_init_f24 : Cond.fieldLink RX0 24 "SteadyQueues$Book" "dropped" "I" ∈ wsX0_init := by decide +kernel
set_option maxHeartbeats 4000000 in
set_option maxRecDepth 100000 in
theorem c_X0_init (G : gG) (z0 : Nat) (l : Launch) {h : gH} {b v : Nat} {vfs : List Value} (hb : h b = some (.inr (0, [.null, .int (nI 0), .int (nI 0), .int (nI 0)]))) (hv : h v = some (.inr (5, vfs))) : gC G z0 l yX0_init wsX0_init 1 20 [.ref b, .ref v] h (fun o h' => o = none ∧ ∃ va, h va = none ∧ isBk G h' b va 1 2 0 (fun _ => v) ∧ gfr [b] h h') 1 64 := by
  refine gC_of (cc := cX0_init) (nL := 2) (ret := none) (by decide) rfl (Nat.le_of_ble_eq_true rfl) ?_
  intro X F E _
  change gF G z0 X cX0_init 2 RX0 wsX0_init none "<init>" 1 20 _ _ at F
  show gV G z0 X 0 0 h 0 [(0, .ref b), (1, .ref v)] []
  refine v_aload_n (pc' := 1) F dX0_init_0 rfl (j := 0) rfl rfl ?_
  refine v_objInit (pc' := 4) F m_X0_init_ml3 m_X0_init_oi m_X0_init_oc (by decide) (Nat.le_of_ble_eq_true rfl) dX0_init_1 rfl ?_
  refine v_aload_n (pc' := 5) F dX0_init_4 rfl (j := 0) rfl rfl ?_
  refine v_bipush (pc' := 7) (v := nI 64) F dX0_init_5 (by decide) rfl ?_
  refine w_newrV (pc' := 10) F m_X0_init_c9 (by omega) (by omega) (by omega) dX0_init_7 rfl (fun q1 h2 e3 a4 f5 => ?_)
  have g6 := f5 _ _ gn0 hb
  refine w_putfF (pc' := 13) F k_X0_init_0 tyX0_ok nmX0 g6 0 (by decide) m_X0_init_f11 rfl rfl rfl rfl rfl (show 0 < 4 by decide) [.ref q1, .int (nI 0), .int (nI 0), .int (nI 0)] rfl dX0_init_10 rfl (fun h7 a8 f9 => ?_)
  refine v_aload_n (pc' := 14) F dX0_init_13 rfl (j := 0) rfl rfl ?_
  refine v_iconst (pc' := 15) (v := nI 1) F dX0_init_14 (by decide) rfl ?_
  refine w_putf (pc' := 18) F k_X0_init_0 tyX0_ok nmX0 a8 1 (by decide) m_X0_init_f17 rfl  rfl rfl (show 1 < 4 by decide) [.ref q1, .int (nI 1), .int (nI 0), .int (nI 0)] rfl dX0_init_15 rfl (fun h10 a11 f12 => ?_)
  refine v_aload_n (pc' := 19) F dX0_init_18 rfl (j := 0) rfl rfl ?_
  refine v_iconst (pc' := 20) (v := nI 2) F dX0_init_19 (by decide) rfl ?_
  refine w_putf (pc' := 23) F k_X0_init_0 tyX0_ok nmX0 a11 2 (by decide) m_X0_init_f21 rfl  rfl rfl (show 2 < 4 by decide) [.ref q1, .int (nI 1), .int (nI 2), .int (nI 0)] rfl dX0_init_20 rfl (fun h13 a14 f15 => ?_)
  refine v_aload_n (pc' := 24) F dX0_init_23 rfl (j := 0) rfl rfl ?_
  refine v_iconst (pc' := 25) (v := nI 0) F dX0_init_24 (by decide) rfl ?_
  refine w_putf (pc' := 28) F k_X0_init_0 tyX0_ok nmX0 a14 3 (by decide) m_X0_init_f24 rfl  rfl rfl (show 3 < 4 by decide) [.ref q1, .int (nI 1), .int (nI 2), .int (nI 0)] rfl dX0_init_25 rfl (fun h16 a17 f18 => ?_)
  refine v_aload_n (pc' := 29) F dX0_init_28 rfl (j := 0) rfl rfl ?_
  refine v_getf (pc' := 32) (v := .ref q1) F k_X0_init_0 a17 0 (by decide) m_X0_init_f11 rfl dX0_init_29 rfl ?_
  refine v_iconst (pc' := 33) (v := nI 0) F dX0_init_32 (by decide) rfl ?_
  refine v_aload_n (pc' := 34) F dX0_init_33 rfl (j := 1) rfl rfl ?_
  have g19 := f9 _ _ (gnc ((g_neN hb e3).symm) gn0) a4
  have g20 := f12 _ _ (gnc ((g_neN hb e3).symm) gn0) g19
  have g21 := f15 _ _ (gnc ((g_neN hb e3).symm) gn0) g20
  have g22 := f18 _ _ (gnc ((g_neN hb e3).symm) gn0) g21
  have g23 := f5 _ _ gn0 hv
  have g24 := f9 _ _ (gnc ((g_neC hb hv (by decide)).symm) gn0) g23
  have g25 := f12 _ _ (gnc ((g_neC hb hv (by decide)).symm) gn0) g24
  have g26 := f15 _ _ (gnc ((g_neC hb hv (by decide)).symm) gn0) g25
  have g27 := f18 _ _ (gnc ((g_neC hb hv (by decide)).symm) gn0) g26
  refine w_vast (pc' := 35) F g22 g27 (by omega) (by omega) dX0_init_34 rfl (fun h28 a29 f30 => ?_)
  have fr32 : gfr [q1, b] h h28 := (gfr.t (gfr.mono0 f5) (gfr.t (gfr.mono f9 (by intro q9 z9 m9; apply z9; simp only [List.mem_cons, List.not_mem_nil, or_false] at m9 ⊢; omega)) (gfr.t (gfr.mono f12 (by intro q9 z9 m9; apply z9; simp only [List.mem_cons, List.not_mem_nil, or_false] at m9 ⊢; omega)) (gfr.t (gfr.mono f15 (by intro q9 z9 m9; apply z9; simp only [List.mem_cons, List.not_mem_nil, or_false] at m9 ⊢; omega)) (gfr.t (gfr.mono f18 (by intro q9 z9 m9; apply z9; simp only [List.mem_cons, List.not_mem_nil, or_false] at m9 ⊢; omega)) (gfr.mono f30 (by intro q9 z9 m9; apply z9; simp only [List.mem_cons, List.not_mem_nil, or_false] at m9 ⊢; omega)))))))
  have fr31 := gfr.drop e3 fr32
  have g33 := f30 _ _ (gnc (g_neN hb e3) gn0) a17
  exact v_vret F E (by omega) (by omega)  dX0_init_35 ⟨rfl, q1, e3, ⟨g33, _, a29, fun i hi => by rw [show i = 0 by omega]; rfl⟩, fr31⟩
theorem k_X0_restart_0 : gCl wsX0_restart 0 RX0 TX0 4 := ⟨by decide +kernel, rfl⟩
theorem m_X0_restart_f17 : Cond.fieldLink RX0 17 "SteadyQueues$Book" "count" "I" ∈ wsX0_restart := by decide +kernel
theorem m_X0_restart_f21 : Cond.fieldLink RX0 21 "SteadyQueues$Book" "pace" "I" ∈ wsX0_restart := by decide +kernel
theorem m_X0_restart_f24 : Cond.fieldLink RX0 24 "SteadyQueues$Book" "dropped" "I" ∈ wsX0_restart := by decide +kernel
set_option maxHeartbeats 4000000 in
set_option maxRecDepth 100000 in
theorem c_X0_restart (G : gG) (z0 : Nat) (l : Launch) {h : gH} {b va n pc dr v : Nat} {f : Nat → Option Nat} (hb : h b = some (.inr (0, [.ref va, .int (nI n), .int (nI pc), .int (nI dr)]))) (hva : h va = some (oV G 64 f)) (hf0 : f 0 = some v) : gC G z0 l yX0_restart wsX0_restart 0 0 [.ref b] h (fun o h' => o = none ∧ isBk G h' b va 1 2 0 (fun _ => v) ∧ gfr [b] h h') 0 0 := by
  refine gC_of (cc := cX0_restart) (nL := 1) (ret := none) (by decide) rfl (Nat.le_of_ble_eq_true rfl) ?_
  intro X F E _
  change gF G z0 X cX0_restart 1 RX0 wsX0_restart none "restart" 0 0 _ _ at F
  show gV G z0 X 0 0 h 0 [(0, .ref b)] []
  refine v_aload_n (pc' := 1) F dX0_restart_0 rfl (j := 0) rfl rfl ?_
  refine v_iconst (pc' := 2) (v := nI 1) F dX0_restart_1 (by decide) rfl ?_
  refine w_putf (pc' := 5) F k_X0_restart_0 tyX0_ok nmX0 hb 1 (by decide) m_X0_restart_f17 rfl  rfl rfl (show 1 < 4 by decide) [.ref va, .int (nI 1), .int (nI pc), .int (nI dr)] rfl dX0_restart_2 rfl (fun h1 a2 f3 => ?_)
  refine v_aload_n (pc' := 6) F dX0_restart_5 rfl (j := 0) rfl rfl ?_
  refine v_iconst (pc' := 7) (v := nI 2) F dX0_restart_6 (by decide) rfl ?_
  refine w_putf (pc' := 10) F k_X0_restart_0 tyX0_ok nmX0 a2 2 (by decide) m_X0_restart_f21 rfl  rfl rfl (show 2 < 4 by decide) [.ref va, .int (nI 1), .int (nI 2), .int (nI dr)] rfl dX0_restart_7 rfl (fun h4 a5 f6 => ?_)
  refine v_aload_n (pc' := 11) F dX0_restart_10 rfl (j := 0) rfl rfl ?_
  refine v_iconst (pc' := 12) (v := nI 0) F dX0_restart_11 (by decide) rfl ?_
  refine w_putf (pc' := 15) F k_X0_restart_0 tyX0_ok nmX0 a5 3 (by decide) m_X0_restart_f24 rfl  rfl rfl (show 3 < 4 by decide) [.ref va, .int (nI 1), .int (nI 2), .int (nI 0)] rfl dX0_restart_12 rfl (fun h7 a8 f9 => ?_)
  have fr10 : gfr [b] h h7 := (gfr.t f3 (gfr.t f6 f9))
  have g11 := f3 _ _ (gnc ((g_neA hb hva).symm) gn0) hva
  have g12 := f6 _ _ (gnc ((g_neA hb hva).symm) gn0) g11
  have g13 := f9 _ _ (gnc ((g_neA hb hva).symm) gn0) g12
  exact v_vret F E (by omega) (by omega)  dX0_restart_15 ⟨rfl, ⟨a8, f, g13, fun i hi => by rw [show i = 0 by omega]; exact hf0⟩, fr10⟩
theorem k_X0_add_0 : gCl wsX0_add 0 RX0 TX0 4 := ⟨by decide +kernel, rfl⟩
theorem m_X0_add_f11 : Cond.fieldLink RX0 11 "SteadyQueues$Book" "versions" "[LSteadyQueues$Version;" ∈ wsX0_add := by decide +kernel
theorem m_X0_add_f17 : Cond.fieldLink RX0 17 "SteadyQueues$Book" "count" "I" ∈ wsX0_add := by decide +kernel
set_option maxHeartbeats 4000000 in
set_option maxRecDepth 100000 in
theorem c_X0_add (G : gG) (z0 : Nat) (l : Launch) {h : gH} {b va n pc dr w : Nat} {ad : Nat → Nat} {wfs : List Value} (hn : n < 64) (hB : isBk G h b va n pc dr ad) (hw : h w = some (.inr (5, wfs))) : gC G z0 l yX0_add wsX0_add 0 0 [.ref b, .ref w] h (fun o h' => o = some (.int (nI n)) ∧ isBk G h' b va (n + 1) pc dr (va_up ad n w) ∧ gfr [b, va] h h') 0 0 := by
  obtain ⟨hb, f, hva, hf⟩ := id hB
  refine gC_of (cc := cX0_add) (nL := 2) (ret := (some .int)) (by decide) rfl (Nat.le_of_ble_eq_true rfl) ?_
  intro X F E _
  change gF G z0 X cX0_add 2 RX0 wsX0_add (some .int) "add" 0 0 _ _ at F
  show gV G z0 X 0 0 h 0 [(0, .ref b), (1, .ref w)] []
  refine v_aload_n (pc' := 1) F dX0_add_0 rfl (j := 0) rfl rfl ?_
  refine v_getf (pc' := 4) (v := .ref va) F k_X0_add_0 hb 0 (by decide) m_X0_add_f11 rfl dX0_add_1 rfl ?_
  refine v_aload_n (pc' := 5) F dX0_add_4 rfl (j := 0) rfl rfl ?_
  refine v_getf (pc' := 8) (v := .int (nI n)) F k_X0_add_0 hb 1 (by decide) m_X0_add_f17 rfl dX0_add_5 rfl ?_
  refine v_aload_n (pc' := 9) F dX0_add_8 rfl (j := 1) rfl rfl ?_
  refine w_vast (pc' := 10) F hva hw (by omega) (by omega) dX0_add_9 rfl (fun h1 a2 f3 => ?_)
  refine v_aload_n (pc' := 11) F dX0_add_10 rfl (j := 0) rfl rfl ?_
  refine v_dup (pc' := 12) F dX0_add_11 rfl rfl ?_
  have g4 := f3 _ _ (gnc (g_neA hb hva) gn0) hb
  refine v_getf (pc' := 15) (v := .int (nI n)) F k_X0_add_0 g4 1 (by decide) m_X0_add_f17 rfl dX0_add_12 rfl ?_
  refine v_iconst (pc' := 16) (v := nI 1) F dX0_add_15 (by decide) rfl ?_
  refine v_iadd (pc' := 17) (v := nI (n + 1)) F dX0_add_16 (nI_add n 1) rfl ?_
  refine w_putf (pc' := 20) F k_X0_add_0 tyX0_ok nmX0 g4 1 (by decide) m_X0_add_f17 rfl  rfl rfl (show 1 < 4 by decide) [.ref va, .int (nI (n + 1)), .int (nI pc), .int (nI dr)] rfl dX0_add_17 rfl (fun h5 a6 f7 => ?_)
  refine v_aload_n (pc' := 21) F dX0_add_20 rfl (j := 0) rfl rfl ?_
  refine v_getf (pc' := 24) (v := .int (nI (n + 1))) F k_X0_add_0 a6 1 (by decide) m_X0_add_f17 rfl dX0_add_21 rfl ?_
  refine v_iconst (pc' := 25) (v := nI 1) F dX0_add_24 (by decide) rfl ?_
  refine v_isub (pc' := 26) (v := nI n) F dX0_add_25 (g_subn (by omega) (by omega)) rfl ?_
  have fr8 : gfr [b, va] h h5 := (gfr.t (gfr.mono f3 (by intro q9 z9 m9; apply z9; simp only [List.mem_cons, List.not_mem_nil, or_false] at m9 ⊢; omega)) (gfr.mono f7 (by intro q9 z9 m9; apply z9; simp only [List.mem_cons, List.not_mem_nil, or_false] at m9 ⊢; omega)))
  have g9 := f7 _ _ (gnc ((g_neA hb hva).symm) gn0) a2
  exact v_iret F E (by omega) (by omega)  dX0_add_26 ⟨rfl, ⟨a6, _, g9, fun i hi => by unfold va_up; by_cases z : i = n; (rw [if_pos z, if_pos z]); (rw [if_neg z, if_neg z]; exact hf i (by omega))⟩, fr8⟩
theorem isVt.kind {h : gH} {v t dp st : Nat} {par : Option Nat} {pu : Int32} {q : mQ} (w : isVt h v t par pu dp q st) : ∃ fs, h v = some (.inr (5, fs)) := by
  obtain ⟨f, r, fl, rl, T⟩ := q
  obtain ⟨a, b, h1, -⟩ := w
  exact ⟨_, h1⟩
theorem isVt.tkind {h : gH} {v t dp st : Nat} {par : Option Nat} {pu : Int32} {q : mQ} (w : isVt h v t par pu dp q st) : ∃ fs, h t = some (.inr (4, fs)) := by
  obtain ⟨f, r, fl, rl, T⟩ := q
  obtain ⟨a, b, h1, h2, h3, h4⟩ := w
  exact h4.kind
theorem k_X0_makeByPush_5 : gCl wsX0_makeByPush 5 RX5 TX5 9 := ⟨by decide +kernel, rfl⟩
theorem m_X0_makeByPush_c9 : Cond.classLink RX0 9 RX5 ∈ wsX0_makeByPush := by decide +kernel
theorem m_X0_makeByPush_in5 : Cond.instantiable RX5 9 ∈ wsX0_makeByPush := by decide +kernel
theorem m_X0_makeByPush_ini5 : Cond.initialized RX5 ∈ wsX0_makeByPush := by decide +kernel
theorem k_X0_makeByPush_0 : gCl wsX0_makeByPush 0 RX0 TX0 4 := ⟨by decide +kernel, rfl⟩
theorem m_X0_makeByPush_f11 : Cond.fieldLink RX0 11 "SteadyQueues$Book" "versions" "[LSteadyQueues$Version;" ∈ wsX0_makeByPush := by decide +kernel
theorem m_X0_makeByPush_ml27 : Cond.methodLink RX0 27 yX5_init ∈ wsX0_makeByPush := by decide +kernel
theorem m_X0_makeByPush_imX5_init : Cond.instanceMethod yX5_init ∈ wsX0_makeByPush := by decide +kernel
theorem hd_X5_init : yX5_init.cls ≠ "java/lang/invoke/MethodHandle" ∧ yX5_init.cls ≠ "java/lang/invoke/VarHandle" ∧ (parseMethodDescriptor yX5_init.desc).map (fun d => d.parameters.length) = some 2 := by decide +kernel
theorem hv_X5_putLast : yX5_putLast.cls = RX5 ∧ yX5_putLast.cls ≠ "java/lang/invoke/MethodHandle" ∧ yX5_putLast.cls ≠ "java/lang/invoke/VarHandle" ∧ (parseMethodDescriptor yX5_putLast.desc).map (fun d => d.parameters.length) = some 1 := by decide +kernel
theorem m_X0_makeByPush_f21 : Cond.fieldLink RX0 21 "SteadyQueues$Book" "pace" "I" ∈ wsX0_makeByPush := by decide +kernel
theorem hv_X5_settle : yX5_settle.cls = RX5 ∧ yX5_settle.cls ≠ "java/lang/invoke/MethodHandle" ∧ yX5_settle.cls ≠ "java/lang/invoke/VarHandle" ∧ (parseMethodDescriptor yX5_settle.desc).map (fun d => d.parameters.length) = some 1 := by decide +kernel
theorem hv_X0_add : yX0_add.cls = RX0 ∧ yX0_add.cls ≠ "java/lang/invoke/MethodHandle" ∧ yX0_add.cls ≠ "java/lang/invoke/VarHandle" ∧ (parseMethodDescriptor yX0_add.desc).map (fun d => d.parameters.length) = some 1 := by decide +kernel
set_option maxHeartbeats 4000000 in
set_option maxRecDepth 100000 in
theorem c_X0_makeByPush (G : gG) (z0 : Nat) (l : Launch) {h : gH} {b va n pc dr i : Nat} {ad : Nat → Nat} {pa : Option Nat} {os : List mO} (x : Int32) (hx : x ≠ -1) (hn : n < 64) (hB : isBk G h b va n pc dr ad) (hi : i < n) (hV : isVx h (ad i) pa os) (hO : wOk ((x, pc) :: os)) (hl : os.length < 64) (hpc : pc ≤ 4) : gC G z0 l yX0_makeByPush wsX0_makeByPush 4 83 [.ref b, .int (nI i), .int x] h (fun o h' => o = some (.int (nI n)) ∧ ∃ w, h w = none ∧ isBk G h' b va (n + 1) pc dr (va_up ad n w) ∧ isVx h' w (some (ad i)) ((x, pc) :: os) ∧ gfr [b, va] h h') 11 33 := by
  obtain ⟨hb, f, hva, hf⟩ := id hB
  obtain ⟨ti, ai, bi, hvi, hfai, hfbi, hTi, x3i, x4i, x5i, x6i, hti⟩ := hV.obj
  have hJ := qOf_J hO.1
  have hqf := qOf_fl hO.1
  have hqs := qOf_small hO.1
  obtain ⟨t0i, hVt⟩ := hV
  have hpre := qPut_pre (p := pc) hO.2.1 x hJ
  have hfl := qPut_fl x (qOf os).1
  refine gC_of (cc := cX0_makeByPush) (nL := 4) (ret := (some .int)) (by decide) rfl (Nat.le_of_ble_eq_true rfl) ?_
  intro X F E _
  change gF G z0 X cX0_makeByPush 4 RX0 wsX0_makeByPush (some .int) "makeByPush" 4 83 _ _ at F
  show gV G z0 X 0 0 h 0 [(0, .ref b), (1, .int (nI i)), (2, .int x)] []
  refine w_new (pc' := 3) F [.null, .int (nI 0), .int (nI 0), .null, .null, .null, .int (nI 0), .int (nI 0), .int (nI 0)] k_X0_makeByPush_5 tyX5_ok m_X0_makeByPush_c9 m_X0_makeByPush_in5 m_X0_makeByPush_ini5 (g_dv5 ) (by omega) (by omega) dX0_makeByPush_0 rfl (fun q1 h2 e3 a4 f5 => ?_)
  refine v_dup (pc' := 4) F dX0_makeByPush_3 rfl rfl ?_
  refine v_aload_n (pc' := 5) F dX0_makeByPush_4 rfl (j := 0) rfl rfl ?_
  have g6 := f5 _ _ gn0 hb
  refine v_getf (pc' := 8) (v := .ref va) F k_X0_makeByPush_0 g6 0 (by decide) m_X0_makeByPush_f11 rfl dX0_makeByPush_5 rfl ?_
  refine v_iload_n (pc' := 9) F dX0_makeByPush_8 rfl (j := 1) rfl rfl ?_
  have g7 := f5 _ _ gn0 hva
  refine w_vald (pc' := 10) (v := some (ad i)) F g7 (by omega) (by omega) (hf i (by omega)) dX0_makeByPush_9 rfl ?_
  refine v_iload_n (pc' := 11) F dX0_makeByPush_10 rfl (j := 2) rfl rfl ?_
  have hV1 := hVt.pv f5.pv0
  refine v_callI (pc' := 14) (mcc := 1) (msc := 6) (As := [.ref (ad i), .int x]) (st := [.ref q1]) F (fun l => c_X5_init1 G z0 l x (g_neN hvi e3) a4 hV1) gX0_makeByPush_X5_init rfl m_X0_makeByPush_ini5 m_X0_makeByPush_ml27 m_X0_makeByPush_imX5_init rfl hd_X5_init (by decide) (by decide) rfl rfl (Nat.le_of_ble_eq_true rfl) (by omega) (by omega) dX0_makeByPush_11 rfl (fun v9 h8 hq => ?_)
  obtain ⟨rfl, t, hVc, hfc, htn⟩ := hq
  have g10 := f5 _ _ gn0 hvi
  obtain ⟨fsq, hqk⟩ : ∃ fs, h8 q1 = some (.inr (5, fs)) := hVc.kind
  obtain ⟨fst, htk4⟩ := hVc.tkind
  refine v_astore_n (pc' := 15) (i := 3) (L' := [(3, .ref q1), (0, .ref b), (1, .int (nI i)), (2, .int x)]) F dX0_makeByPush_14 rfl (by decide) rfl rfl ?_
  refine v_aload_n (pc' := 16) F dX0_makeByPush_15 rfl (j := 0) rfl rfl ?_
  refine v_iload_n (pc' := 17) F dX0_makeByPush_16 rfl (j := 3) rfl rfl ?_
  refine v_callV (pc' := 20) (rt := none) (mcc := 1) (msc := 2) (As := [.int x]) (st := []) F (fun l => c_X5_putLast G z0 l x hVc) gX0_makeByPush_X5_putLast rfl hv_X5_putLast (by decide) (by decide) hqk rfl rfl rfl (Nat.le_of_ble_eq_true rfl) (by omega) (by omega) dX0_makeByPush_17 rfl (fun v12 h11 hq => ?_)
  obtain ⟨rfl, hVp, hfp⟩ := hq
  obtain ⟨fsq2, hqk2⟩ := hVp.kind
  obtain ⟨fst2, htk42⟩ := hVp.tkind
  refine v_aload_n (pc' := 21) F dX0_makeByPush_20 rfl (j := 0) rfl rfl ?_
  refine v_aload_n (pc' := 22) F dX0_makeByPush_21 rfl (j := 1) rfl rfl ?_
  have g13 := hfc _ _ (gnc (g_neN hb e3) gn0) g6
  have g14 := hfp _ _ (gnc (g_neN hb e3) gn0) g13
  refine v_getf (pc' := 25) (v := .int (nI pc)) F k_X0_makeByPush_0 g14 2 (by decide) m_X0_makeByPush_f21 rfl dX0_makeByPush_22 rfl ?_
  refine v_callV (pc' := 28) (rt := none) (mcc := 2 * pc) (msc := 4 * pc) (As := [.int (nI pc)]) (st := []) F (fun l => c_X5_settle G z0 l (by omega) (b := os.length + 1) (by omega) (by omega) hpre.M hVp) gX0_makeByPush_X5_settle rfl hv_X5_settle (by decide) (by decide) hqk2 rfl rfl rfl (Nat.le_of_ble_eq_true rfl) (by omega) (by omega) dX0_makeByPush_25 rfl (fun v16 h15 hq => ?_)
  obtain ⟨rfl, hVs, hfs⟩ := hq
  obtain ⟨fsq3, hqk3⟩ := hVs.kind
  obtain ⟨fst3, htk43⟩ := hVs.tkind
  refine v_aload_n (pc' := 29) F dX0_makeByPush_28 rfl (j := 1) rfl rfl ?_
  refine v_aload_n (pc' := 30) F dX0_makeByPush_29 rfl (j := 0) rfl rfl ?_
  have g17 := hfs _ _ (gnc (g_neN hb e3) (gnc (g_neN g6 htn) gn0)) g14
  have g18 := hfc _ _ (gnc (g_neN hva e3) gn0) g7
  have g19 := hfp _ _ (gnc (g_neN hva e3) gn0) g18
  have g20 := hfs _ _ (gnc (g_neN hva e3) (gnc (g_neN g7 htn) gn0)) g19
  refine v_callV (pc' := 33) (rt := (some .int)) (mcc := 0) (msc := 0) (As := [.ref q1]) (st := []) F (fun l => c_X0_add G z0 l hn ⟨g17, f, g20, hf⟩ hqk3) gX0_makeByPush_X0_add rfl hv_X0_add (by decide) (by decide) g17 rfl rfl rfl (Nat.le_of_ble_eq_true rfl) (by omega) (by omega) dX0_makeByPush_30 rfl (fun v22 h21 hq => ?_)
  obtain ⟨rfl, hB4, hf4⟩ := hq
  have pv4 := gfr.pv hf4 (by intro a9 m9 ci9 fs9 c9 z9; simp only [List.mem_cons, List.not_mem_nil, or_false] at m9; rcases m9 with rfl | rfl <;> first | (rw [g17] at z9; cases z9; omega) | (rw [g20] at z9; cases z9))
  have fr24 : gfr [q1, t, b, va] h h21 := (gfr.t (gfr.mono0 f5) (gfr.t (gfr.mono hfc (by intro q9 z9 m9; apply z9; simp only [List.mem_cons, List.not_mem_nil, or_false] at m9 ⊢; omega)) (gfr.t (gfr.mono hfp (by intro q9 z9 m9; apply z9; simp only [List.mem_cons, List.not_mem_nil, or_false] at m9 ⊢; omega)) (gfr.t (gfr.mono hfs (by intro q9 z9 m9; apply z9; simp only [List.mem_cons, List.not_mem_nil, or_false] at m9 ⊢; omega)) (gfr.mono hf4 (by intro q9 z9 m9; apply z9; simp only [List.mem_cons, List.not_mem_nil, or_false] at m9 ⊢; omega))))))
  have fr25 := gfr.drop e3 fr24
  have fr26 : gfr [] h h2 := f5
  have e27 := gfr.non fr26 htn gn0
  have fr23 := gfr.drop e27 fr25
  have e28 : h q1 = none := e3
  exact v_iret F E (by omega) (by omega)  dX0_makeByPush_33 ⟨rfl, q1, e28, hB4, ⟨t, by rw [qOf_push hx]; exact hVs.pv pv4⟩, fr23⟩
theorem k_X0_makeByPop_5 : gCl wsX0_makeByPop 5 RX5 TX5 9 := ⟨by decide +kernel, rfl⟩
theorem m_X0_makeByPop_c9 : Cond.classLink RX0 9 RX5 ∈ wsX0_makeByPop := by decide +kernel
theorem m_X0_makeByPop_in5 : Cond.instantiable RX5 9 ∈ wsX0_makeByPop := by decide +kernel
theorem m_X0_makeByPop_ini5 : Cond.initialized RX5 ∈ wsX0_makeByPop := by decide +kernel
theorem k_X0_makeByPop_0 : gCl wsX0_makeByPop 0 RX0 TX0 4 := ⟨by decide +kernel, rfl⟩
theorem m_X0_makeByPop_f11 : Cond.fieldLink RX0 11 "SteadyQueues$Book" "versions" "[LSteadyQueues$Version;" ∈ wsX0_makeByPop := by decide +kernel
theorem m_X0_makeByPop_ml27 : Cond.methodLink RX0 27 yX5_init ∈ wsX0_makeByPop := by decide +kernel
theorem m_X0_makeByPop_imX5_init : Cond.instanceMethod yX5_init ∈ wsX0_makeByPop := by decide +kernel
theorem hv_X5_takeFirst : yX5_takeFirst.cls = RX5 ∧ yX5_takeFirst.cls ≠ "java/lang/invoke/MethodHandle" ∧ yX5_takeFirst.cls ≠ "java/lang/invoke/VarHandle" ∧ (parseMethodDescriptor yX5_takeFirst.desc).map (fun d => d.parameters.length) = some 0 := by decide +kernel
theorem m_X0_makeByPop_f21 : Cond.fieldLink RX0 21 "SteadyQueues$Book" "pace" "I" ∈ wsX0_makeByPop := by decide +kernel
set_option maxHeartbeats 4000000 in
set_option maxRecDepth 100000 in
theorem c_X0_makeByPop (G : gG) (z0 : Nat) (l : Launch) {h : gH} {b va n pc dr i : Nat} {ad : Nat → Nat} {pa : Option Nat} {os : List mO} (hn : n < 64) (hB : isBk G h b va n pc dr ad) (hi : i < n) (hV : isVx h (ad i) pa os) (hO : wOk (((-1), pc) :: os)) (hl : os.length < 64) (hpc : pc ≤ 4) : gC G z0 l yX0_makeByPop wsX0_makeByPop 4 83 [.ref b, .int (nI i)] h (fun o h' => o = some (.int (nI n)) ∧ ∃ w, h w = none ∧ isBk G h' b va (n + 1) pc dr (va_up ad n w) ∧ isVx h' w (some (ad i)) (((-1), pc) :: os) ∧ gfr [b, va] h h') 11 33 := by
  obtain ⟨hb, f, hva, hf⟩ := id hB
  obtain ⟨ti, ai, bi, hvi, hfai, hfbi, hTi, x3i, x4i, x5i, x6i, hti⟩ := hV.obj
  have hJ := qOf_J hO.1
  have hqf := qOf_fl hO.1
  have hqs := qOf_small hO.1
  obtain ⟨t0i, hVt⟩ := hV
  obtain ⟨y, ys, hys⟩ : ∃ y ys, wVals os = y :: ys := by
    cases hw : wVals os with
    | nil => exact absurd hw (hO.2.2.2.1 rfl)
    | cons y ys => exact ⟨y, ys, rfl⟩
  rw [hys] at hJ
  have hpre := qTake_pre (p := pc) hO.2.1 hJ
  have hfl := qTake_fl (qOf os).1
  have htk := hJ.take
  refine gC_of (cc := cX0_makeByPop) (nL := 3) (ret := (some .int)) (by decide) rfl (Nat.le_of_ble_eq_true rfl) ?_
  intro X F E _
  change gF G z0 X cX0_makeByPop 3 RX0 wsX0_makeByPop (some .int) "makeByPop" 4 83 _ _ at F
  show gV G z0 X 0 0 h 0 [(0, .ref b), (1, .int (nI i))] []
  refine w_new (pc' := 3) F [.null, .int (nI 0), .int (nI 0), .null, .null, .null, .int (nI 0), .int (nI 0), .int (nI 0)] k_X0_makeByPop_5 tyX5_ok m_X0_makeByPop_c9 m_X0_makeByPop_in5 m_X0_makeByPop_ini5 (g_dv5 ) (by omega) (by omega) dX0_makeByPop_0 rfl (fun q1 h2 e3 a4 f5 => ?_)
  refine v_dup (pc' := 4) F dX0_makeByPop_3 rfl rfl ?_
  refine v_aload_n (pc' := 5) F dX0_makeByPop_4 rfl (j := 0) rfl rfl ?_
  have g6 := f5 _ _ gn0 hb
  refine v_getf (pc' := 8) (v := .ref va) F k_X0_makeByPop_0 g6 0 (by decide) m_X0_makeByPop_f11 rfl dX0_makeByPop_5 rfl ?_
  refine v_iload_n (pc' := 9) F dX0_makeByPop_8 rfl (j := 1) rfl rfl ?_
  have g7 := f5 _ _ gn0 hva
  refine w_vald (pc' := 10) (v := some (ad i)) F g7 (by omega) (by omega) (hf i (by omega)) dX0_makeByPop_9 rfl ?_
  refine v_iconst (pc' := 11) (v := (-1)) F dX0_makeByPop_10 (by decide) rfl ?_
  have hV1 := hVt.pv f5.pv0
  refine v_callI (pc' := 14) (mcc := 1) (msc := 6) (As := [.ref (ad i), .int (-1)]) (st := [.ref q1]) F (fun l => c_X5_init1 G z0 l (-1) (g_neN hvi e3) a4 hV1) gX0_makeByPop_X5_init rfl m_X0_makeByPop_ini5 m_X0_makeByPop_ml27 m_X0_makeByPop_imX5_init rfl hd_X5_init (by decide) (by decide) rfl rfl (Nat.le_of_ble_eq_true rfl) (by omega) (by omega) dX0_makeByPop_11 rfl (fun v9 h8 hq => ?_)
  obtain ⟨rfl, t, hVc, hfc, htn⟩ := hq
  have g10 := f5 _ _ gn0 hvi
  obtain ⟨fsq, hqk⟩ : ∃ fs, h8 q1 = some (.inr (5, fs)) := hVc.kind
  obtain ⟨fst, htk4⟩ := hVc.tkind
  refine v_astore_n (pc' := 15) (i := 2) (L' := [(2, .ref q1), (0, .ref b), (1, .int (nI i))]) F dX0_makeByPop_14 rfl (by decide) rfl rfl ?_
  refine v_aload_n (pc' := 16) F dX0_makeByPop_15 rfl (j := 0) rfl rfl ?_
  refine v_callV (pc' := 19) (rt := none) (mcc := 0) (msc := 0) (As := []) (st := []) F (fun l => c_X5_takeFirst G z0 l hVc htk.1 (by omega) (by omega) htk.2.2) gX0_makeByPop_X5_takeFirst rfl hv_X5_takeFirst (by decide) (by decide) hqk rfl rfl rfl (Nat.le_of_ble_eq_true rfl) (by omega) (by omega) dX0_makeByPop_16 rfl (fun v12 h11 hq => ?_)
  obtain ⟨rfl, hVp, hfp⟩ := hq
  obtain ⟨fsq2, hqk2⟩ := hVp.kind
  obtain ⟨fst2, htk42⟩ := hVp.tkind
  refine v_aload_n (pc' := 20) F dX0_makeByPop_19 rfl (j := 0) rfl rfl ?_
  refine v_aload_n (pc' := 21) F dX0_makeByPop_20 rfl (j := 1) rfl rfl ?_
  have g13 := hfc _ _ (gnc (g_neN hb e3) gn0) g6
  have g14 := hfp _ _ (gnc (g_neN hb e3) (gnc (g_neN g6 htn) gn0)) g13
  refine v_getf (pc' := 24) (v := .int (nI pc)) F k_X0_makeByPop_0 g14 2 (by decide) m_X0_makeByPop_f21 rfl dX0_makeByPop_21 rfl ?_
  refine v_callV (pc' := 27) (rt := none) (mcc := 2 * pc) (msc := 4 * pc) (As := [.int (nI pc)]) (st := []) F (fun l => c_X5_settle G z0 l (by omega) (b := os.length) (by omega) (by omega) hpre.M hVp) gX0_makeByPop_X5_settle rfl hv_X5_settle (by decide) (by decide) hqk2 rfl rfl rfl (Nat.le_of_ble_eq_true rfl) (by omega) (by omega) dX0_makeByPop_24 rfl (fun v16 h15 hq => ?_)
  obtain ⟨rfl, hVs, hfs⟩ := hq
  obtain ⟨fsq3, hqk3⟩ := hVs.kind
  obtain ⟨fst3, htk43⟩ := hVs.tkind
  refine v_aload_n (pc' := 28) F dX0_makeByPop_27 rfl (j := 1) rfl rfl ?_
  refine v_aload_n (pc' := 29) F dX0_makeByPop_28 rfl (j := 0) rfl rfl ?_
  have g17 := hfs _ _ (gnc (g_neN hb e3) (gnc (g_neN g6 htn) gn0)) g14
  have g18 := hfc _ _ (gnc (g_neN hva e3) gn0) g7
  have g19 := hfp _ _ (gnc (g_neN hva e3) (gnc (g_neN g7 htn) gn0)) g18
  have g20 := hfs _ _ (gnc (g_neN hva e3) (gnc (g_neN g7 htn) gn0)) g19
  refine v_callV (pc' := 32) (rt := (some .int)) (mcc := 0) (msc := 0) (As := [.ref q1]) (st := []) F (fun l => c_X0_add G z0 l hn ⟨g17, f, g20, hf⟩ hqk3) gX0_makeByPop_X0_add rfl hv_X0_add (by decide) (by decide) g17 rfl rfl rfl (Nat.le_of_ble_eq_true rfl) (by omega) (by omega) dX0_makeByPop_29 rfl (fun v22 h21 hq => ?_)
  obtain ⟨rfl, hB4, hf4⟩ := hq
  have pv4 := gfr.pv hf4 (by intro a9 m9 ci9 fs9 c9 z9; simp only [List.mem_cons, List.not_mem_nil, or_false] at m9; rcases m9 with rfl | rfl <;> first | (rw [g17] at z9; cases z9; omega) | (rw [g20] at z9; cases z9))
  have fr24 : gfr [q1, t, b, va] h h21 := (gfr.t (gfr.mono0 f5) (gfr.t (gfr.mono hfc (by intro q9 z9 m9; apply z9; simp only [List.mem_cons, List.not_mem_nil, or_false] at m9 ⊢; omega)) (gfr.t (gfr.mono hfp (by intro q9 z9 m9; apply z9; simp only [List.mem_cons, List.not_mem_nil, or_false] at m9 ⊢; omega)) (gfr.t (gfr.mono hfs (by intro q9 z9 m9; apply z9; simp only [List.mem_cons, List.not_mem_nil, or_false] at m9 ⊢; omega)) (gfr.mono hf4 (by intro q9 z9 m9; apply z9; simp only [List.mem_cons, List.not_mem_nil, or_false] at m9 ⊢; omega))))))
  have fr25 := gfr.drop e3 fr24
  have fr26 : gfr [] h h2 := f5
  have e27 := gfr.non fr26 htn gn0
  have fr23 := gfr.drop e27 fr25
  have e28 : h q1 = none := e3
  exact v_iret F E (by omega) (by omega)  dX0_makeByPop_32 ⟨rfl, q1, e28, hB4, ⟨t, by rw [qOf_pop]; exact hVs.pv pv4⟩, fr23⟩
