theorem k_X7_pushes_7 : gCl wsX7_pushes 7 RX7 TX7 26 := ⟨by decide +kernel, rfl⟩
theorem m_X7_pushes_f76 : Cond.fieldLink RX7 76 "SteadyQueuesModel" "rearLong" "I" ∈ wsX7_pushes := by decide +kernel
theorem hv_X7_settles : yX7_settles.cls = RX7 ∧ yX7_settles.cls ≠ "java/lang/invoke/MethodHandle" ∧ yX7_settles.cls ≠ "java/lang/invoke/VarHandle" ∧ (parseMethodDescriptor yX7_settles.desc).map (fun d => d.parameters.length) = some 1 := by decide +kernel
set_option maxHeartbeats 4000000 in
set_option maxRecDepth 100000 in
theorem c_X7_pushes (G : gG) (z0 : Nat) (l : Launch) {h : gH} {m rows asd vals many way told oth lst text : Nat} {th now und wm fed len spot fa fat num frm may : Int32} {st : Int32} {b p : Nat} {xs : List Int32} {q : mQ} (y : Int32) (hp2 : 2 ≤ p) (hp9 : p < 1000) (hb : b + 1 < 64) (hm : h m = some (.inr (7, [.int th, .ref rows, .ref asd, .int now, .int und, .ref vals, .ref many, .int (nI q.2.2.1), .int (nI q.2.2.2.1), .int (nI q.2.2.2.2.1), .int (nI q.2.2.2.2.2.1), .int st, .ref way, .int wm, .ref told, .ref oth, .ref lst, .ref text, .int fed, .int len, .int spot, .int fa, .int fat, .int num, .int frm, .int may]))) (hq : isMq G h vals many q) (hJ : qJ b xs q) : gC G z0 l yX7_pushes wsX7_pushes 3 64 [.ref m, .int y, .int (nI p)] h (fun v h' => v = none ∧ h' m = some (.inr (7, [.int th, .ref rows, .ref asd, .int now, .int und, .ref vals, .ref many, .int (nI ((qSettle p (qPut y q)).1.2.2.1)), .int (nI ((qSettle p (qPut y q)).1.2.2.2.1)), .int (nI ((qSettle p (qPut y q)).1.2.2.2.2.1)), .int (nI ((qSettle p (qPut y q)).1.2.2.2.2.2.1)), .int (nI ((qSettle p (qPut y q)).2)), .ref way, .int wm, .ref told, .ref oth, .ref lst, .ref text, .int fed, .int len, .int spot, .int fa, .int fat, .int num, .int frm, .int may])) ∧ isMq G h' vals many (qSettle p (qPut y q)).1 ∧ gfr [m, vals, many] h h') 0 0 := by
  obtain ⟨f, r, gl, hl, k, ok, oF, nF, oR, nR⟩ := q
  obtain ⟨V, M, ls, hvals, hmany, hls, hT⟩ := hq
  have hJ0 := hJ.1
  obtain ⟨g1, g2, g3, g4, g5⟩ := hJ0
  replace hm : h m = some (.inr (7, [.int th, .ref rows, .ref asd, .int now, .int und, .ref vals, .ref many, .int (nI gl), .int (nI hl), .int (nI k), .int (nI ok), .int st, .ref way, .int wm, .ref told, .ref oth, .ref lst, .ref text, .int fed, .int len, .int spot, .int fa, .int fat, .int num, .int frm, .int may])) := hm
  change mdT ls f r (k, ok, oF, nF, oR, nR) at hT
  have hT1 := hT.2.1
  have hl1 : (ls 1).length < 64 := by rw [hT1]; omega
  refine gC_of (cc := cX7_pushes) (nL := 3) (ret := none) (by decide) rfl (Nat.le_of_ble_eq_true rfl) ?_
  intro X F E _
  change gF G z0 X cX7_pushes 3 RX7 wsX7_pushes none "pushes" 3 64 _ _ at F
  show gV G z0 X 0 0 h 0 [(0, .ref m), (1, .int y), (2, .int (nI p))] []
  refine v_aload_n (pc' := 1) F dX7_pushes_0 rfl (j := 0) rfl rfl ?_
  refine v_iconst (pc' := 2) (v := nI 1) F dX7_pushes_1 (by decide) rfl ?_
  refine v_iload_n (pc' := 3) F dX7_pushes_2 rfl (j := 1) rfl rfl ?_
  refine v_callV (pc' := 6) (rt := none) (mcc := 0) (msc := 0) (As := [.int (nI 1), .int y]) (st := []) F (fun l => c_X7_ahead G z0 l (L := 1) y hm hvals hmany hls (by omega) hl1) gX7_pushes_X7_ahead rfl hv_X7_ahead (by decide) (by decide) hm rfl rfl rfl (Nat.le_of_ble_eq_true rfl) (by omega) (by omega) dX7_pushes_3 rfl (fun v2 h1 hq => ?_)
  obtain ⟨rfl, V9, M9, hvS, hyS, hlS, fS⟩ := hq
  refine v_aload_n (pc' := 7) F dX7_pushes_6 rfl (j := 0) rfl rfl ?_
  refine v_dup (pc' := 8) F dX7_pushes_7 rfl rfl ?_
  have g3 := fS _ _ (gnc (g_neA hm hvals) (gnc (g_neA hm hmany) gn0)) hm
  refine v_getf (pc' := 11) (v := .int (nI hl)) F k_X7_pushes_7 g3 8 (by decide) m_X7_pushes_f76 rfl dX7_pushes_8 rfl ?_
  refine v_iconst (pc' := 12) (v := nI 1) F dX7_pushes_11 (by decide) rfl ?_
  refine v_iadd (pc' := 13) (v := nI (hl + 1)) F dX7_pushes_12 (nI_add hl 1) rfl ?_
  refine w_putf (pc' := 16) F k_X7_pushes_7 tyX7_ok nmX7 g3 8 (by decide) m_X7_pushes_f76 rfl  rfl rfl (show 8 < 26 by decide) [.int th, .ref rows, .ref asd, .int now, .int und, .ref vals, .ref many, .int (nI gl), .int (nI (hl + 1)), .int (nI k), .int (nI ok), .int st, .ref way, .int wm, .ref told, .ref oth, .ref lst, .ref text, .int fed, .int len, .int spot, .int fa, .int fat, .int num, .int frm, .int may] rfl dX7_pushes_13 rfl (fun h4 a5 f6 => ?_)
  refine v_aload_n (pc' := 17) F dX7_pushes_16 rfl (j := 0) rfl rfl ?_
  refine v_iload_n (pc' := 18) F dX7_pushes_17 rfl (j := 2) rfl rfl ?_
  obtain ⟨q0, q1, q2, q3, q4, q5⟩ := hT
  have g7 := f6 _ _ (gnc (Ne.symm (g_neA g3 hvS)) gn0) hvS
  have g8 := f6 _ _ (gnc (Ne.symm (g_neA g3 hyS)) gn0) hyS
  refine v_callV (pc' := 21) (rt := none) (mcc := 0) (msc := 0) (As := [.int (nI p)]) (st := []) F (fun l => c_X7_settles G z0 l (q := (f, y :: r, gl, hl + 1, (k, ok, oF, nF, oR, nR))) (by omega) hb a5 ⟨_, _, _, g7, g8, hlS, ⟨by simp [va_up, q0], by simp [va_up, q1], by simp [va_up, q2], fun zi => by simp [va_up, q3 zi], by simp [va_up, q4], by simp [va_up, q5]⟩⟩ (qPut_pre hp2 y hJ)) gX7_pushes_X7_settles rfl hv_X7_settles (by decide) (by decide) a5 rfl rfl rfl (Nat.le_of_ble_eq_true rfl) (by omega) (by omega) dX7_pushes_18 rfl (fun v10 h9 hq => ?_)
  obtain ⟨rfl, hmZ, hqZ, fZ⟩ := hq
  have fr11 : gfr [m, vals, many] h h9 := (gfr.t (gfr.mono fS (by intro q9 z9 m9; apply z9; simp only [List.mem_cons, List.not_mem_nil, or_false] at m9 ⊢; omega)) (gfr.t (gfr.mono f6 (by intro q9 z9 m9; apply z9; simp only [List.mem_cons, List.not_mem_nil, or_false] at m9 ⊢; omega)) fZ))
  exact v_vret F E (by omega) (by omega)  dX7_pushes_21 ⟨rfl, hmZ, hqZ, fr11⟩
theorem k_X7_pops_7 : gCl wsX7_pops 7 RX7 TX7 26 := ⟨by decide +kernel, rfl⟩
theorem m_X7_pops_f73 : Cond.fieldLink RX7 73 "SteadyQueuesModel" "frontLong" "I" ∈ wsX7_pops := by decide +kernel
theorem m_X7_pops_f79 : Cond.fieldLink RX7 79 "SteadyQueuesModel" "kind" "I" ∈ wsX7_pops := by decide +kernel
theorem m_X7_pops_f82 : Cond.fieldLink RX7 82 "SteadyQueuesModel" "ok" "I" ∈ wsX7_pops := by decide +kernel
theorem m_X7_pops_f19 : Cond.fieldLink RX7 19 "SteadyQueuesModel" "many" "[I" ∈ wsX7_pops := by decide +kernel
set_option maxHeartbeats 4000000 in
set_option maxRecDepth 100000 in
theorem c_X7_pops (G : gG) (z0 : Nat) (l : Launch) {h : gH} {m rows asd vals many way told oth lst text : Nat} {th now und wm fed len spot fa fat num frm may : Int32} {st : Int32} {b p : Nat} {x : Int32} {ys : List Int32} {q : mQ} (hp2 : 2 ≤ p) (hp9 : p < 1000) (hb : b < 64) (hm : h m = some (.inr (7, [.int th, .ref rows, .ref asd, .int now, .int und, .ref vals, .ref many, .int (nI q.2.2.1), .int (nI q.2.2.2.1), .int (nI q.2.2.2.2.1), .int (nI q.2.2.2.2.2.1), .int st, .ref way, .int wm, .ref told, .ref oth, .ref lst, .ref text, .int fed, .int len, .int spot, .int fa, .int fat, .int num, .int frm, .int may]))) (hq : isMq G h vals many q) (hJ : qJ b (x :: ys) q) (hQV : qV q) : gC G z0 l yX7_pops wsX7_pops 3 64 [.ref m, .int (nI p)] h (fun v h' => v = none ∧ h' m = some (.inr (7, [.int th, .ref rows, .ref asd, .int now, .int und, .ref vals, .ref many, .int (nI ((qSettle p (qTake q)).1.2.2.1)), .int (nI ((qSettle p (qTake q)).1.2.2.2.1)), .int (nI ((qSettle p (qTake q)).1.2.2.2.2.1)), .int (nI ((qSettle p (qTake q)).1.2.2.2.2.2.1)), .int (nI ((qSettle p (qTake q)).2)), .ref way, .int wm, .ref told, .ref oth, .ref lst, .ref text, .int fed, .int len, .int spot, .int fa, .int fat, .int num, .int frm, .int may])) ∧ isMq G h' vals many (qSettle p (qTake q)).1 ∧ gfr [m, vals, many] h h') 0 0 := by
  obtain ⟨f, r, gl, hl, k, ok, oF, nF, oR, nR⟩ := q
  obtain ⟨V, M, ls, hvals, hmany, hls, hT⟩ := hq
  have hJ0 := hJ
  obtain ⟨⟨g1, g2, g3, g4, g5⟩, j1, j2, j3, j4⟩ := hJ0
  simp only at j1 j2 j3 j4
  rw [List.length_cons] at g2
  replace hm : h m = some (.inr (7, [.int th, .ref rows, .ref asd, .int now, .int und, .ref vals, .ref many, .int (nI gl), .int (nI hl), .int (nI k), .int (nI ok), .int st, .ref way, .int wm, .ref told, .ref oth, .ref lst, .ref text, .int fed, .int len, .int spot, .int fa, .int fat, .int num, .int frm, .int may])) := hm
  change mdT ls f r (k, ok, oF, nF, oR, nR) at hT
  have hgl : 1 ≤ gl := by omega
  have hf9 : ∀ x, x ∈ f → vOk x := hQV.1
  refine gC_of (cc := cX7_pops) (nL := 3) (ret := none) (by decide) rfl (Nat.le_of_ble_eq_true rfl) ?_
  intro X F E _
  change gF G z0 X cX7_pops 3 RX7 wsX7_pops none "pops" 3 64 _ _ at F
  show gV G z0 X 0 0 h 0 [(0, .ref m), (1, .int (nI p))] []
  rcases g5 with ⟨rfl, rfl, rfl, rfl, rfl, rfl, h6, h7⟩ | ⟨rfl, h6, h7, h8, h9, h10, h11, h12⟩ | ⟨rfl, h6, h7, h8, rfl, rfl, h11, h12, h13⟩ | ⟨rfl, h6, h7, -⟩
  · skip
    cases f with
    | nil => have := j2 rfl; rw [List.length_nil] at h6; omega
    | cons a f =>
      obtain ⟨ja, hja, rfl⟩ := hf9 a (.head _)
      obtain ⟨q0, q1, q2, q3, q4, q5⟩ := hT
      refine v_aload_n (pc' := 1) F dX7_pops_0 rfl (j := 0) rfl rfl ?_
      refine v_iconst (pc' := 2) (v := nI 0) F dX7_pops_1 (by decide) rfl ?_
      refine v_callV (pc' := 5) (rt := (some .int)) (mcc := 0) (msc := 0) (As := [.int (nI 0)]) (st := []) F (fun l => c_X7_takes G z0 l (L := 0) hm hvals hmany hls (by omega) q0) gX7_pops_X7_takes rfl hv_X7_takes (by decide) (by decide) hm rfl rfl rfl (Nat.le_of_ble_eq_true rfl) (by omega) (by omega) dX7_pops_2 rfl (fun v2 h1 hq => ?_)
      obtain ⟨rfl, M9, hyS, hlS, fS⟩ := hq
      refine v_istore_n (pc' := 6) (i := 2) (L' := [(2, .int (nI ja)), (0, .ref m), (1, .int (nI p))]) F dX7_pops_5 rfl (by decide) rfl rfl ?_
      refine v_aload_n (pc' := 7) F dX7_pops_6 rfl (j := 1) rfl rfl ?_
      refine v_dup (pc' := 8) F dX7_pops_7 rfl rfl ?_
      have g3 := fS _ _ (gnc (g_neA hm hmany) gn0) hm
      refine v_getf (pc' := 11) (v := .int (nI gl)) F k_X7_pops_7 g3 7 (by decide) m_X7_pops_f73 rfl dX7_pops_8 rfl ?_
      refine v_iconst (pc' := 12) (v := nI 1) F dX7_pops_11 (by decide) rfl ?_
      refine v_isub (pc' := 13) (v := nI (gl - 1)) F dX7_pops_12 (g_subn (by omega) (by omega)) rfl ?_
      refine w_putf (pc' := 16) F k_X7_pops_7 tyX7_ok nmX7 g3 7 (by decide) m_X7_pops_f73 rfl  rfl rfl (show 7 < 26 by decide) [.int th, .ref rows, .ref asd, .int now, .int und, .ref vals, .ref many, .int (nI (gl - 1)), .int (nI hl), .int (nI 0), .int (nI 0), .int st, .ref way, .int wm, .ref told, .ref oth, .ref lst, .ref text, .int fed, .int len, .int spot, .int fa, .int fat, .int num, .int frm, .int may] rfl dX7_pops_13 rfl (fun h4 a5 f6 => ?_)
      refine v_aload_n (pc' := 17) F dX7_pops_16 rfl (j := 1) rfl rfl ?_
      refine v_getf (pc' := 20) (v := .int (nI 0)) F k_X7_pops_7 a5 9 (by decide) m_X7_pops_f79 rfl dX7_pops_17 rfl ?_
      refine v_iconst (pc' := 21) (v := nI 1) F dX7_pops_20 (by decide) rfl ?_
      refine w_icmp_eq (tgt := 39) (pc' := 24) F (by omega) (by omega) dX7_pops_21 (by decide) rfl (fun c0 => absurd c0 (by omega)) (fun _ => ?_)
      refine v_aload_n (pc' := 25) F dX7_pops_24 rfl (j := 1) rfl rfl ?_
      refine v_getf (pc' := 28) (v := .int (nI 0)) F k_X7_pops_7 a5 9 (by decide) m_X7_pops_f79 rfl dX7_pops_25 rfl ?_
      refine v_iconst (pc' := 29) (v := nI 2) F dX7_pops_28 (by decide) rfl ?_
      refine w_icmp_ne (tgt := 52) (pc' := 32) F (by omega) (by omega) dX7_pops_29 (by decide) rfl (fun _ => ?_) (fun c0 => absurd c0 (by omega))
      refine v_aload_n (pc' := 53) F dX7_pops_52 rfl (j := 1) rfl rfl ?_
      refine v_getf (pc' := 56) (v := .int (nI 0)) F k_X7_pops_7 a5 9 (by decide) m_X7_pops_f79 rfl dX7_pops_53 rfl ?_
      refine v_iconst (pc' := 57) (v := nI 2) F dX7_pops_56 (by decide) rfl ?_
      refine w_icmp_ne (tgt := 86) (pc' := 60) F (by omega) (by omega) dX7_pops_57 (by decide) rfl (fun _ => ?_) (fun c0 => absurd c0 (by omega))
      refine v_aload_n (pc' := 87) F dX7_pops_86 rfl (j := 1) rfl rfl ?_
      refine v_iload_n (pc' := 88) F dX7_pops_87 rfl (j := 2) rfl rfl ?_
      have g7 := fS _ _ (gnc (g_neL hvals hmany (by decide)) gn0) hvals
      have g8 := f6 _ _ (gnc (Ne.symm (g_neA g3 g7)) gn0) g7
      have g9 := f6 _ _ (gnc (Ne.symm (g_neA g3 hyS)) gn0) hyS
      refine v_callV (pc' := 91) (rt := none) (mcc := 0) (msc := 0) (As := [.int (nI p)]) (st := []) F (fun l => c_X7_settles G z0 l (q := (f, r, gl - 1, hl, (0, 0, [], [], [], []))) (by omega) hb a5 ⟨_, _, _, g8, g9, hlS, ⟨by simp [va_up], by simp [va_up, q1], by simp [va_up]; exact q2, fun zi => by simp [va_up]; exact q3 zi, by simp [va_up]; exact q4, by simp [va_up]; exact q5⟩⟩ (qTake_pre hp2 hJ)) gX7_pops_X7_settles rfl hv_X7_settles (by decide) (by decide) a5 rfl rfl rfl (Nat.le_of_ble_eq_true rfl) (by omega) (by omega) dX7_pops_88 rfl (fun v11 h10 hq => ?_)
      obtain ⟨rfl, hmZ, hqZ, fZ⟩ := hq
      have fr12 : gfr [m, vals, many] h h10 := (gfr.t (gfr.mono fS (by intro q9 z9 m9; apply z9; simp only [List.mem_cons, List.not_mem_nil, or_false] at m9 ⊢; omega)) (gfr.t (gfr.mono f6 (by intro q9 z9 m9; apply z9; simp only [List.mem_cons, List.not_mem_nil, or_false] at m9 ⊢; omega)) fZ))
      exact v_vret F E (by omega) (by omega)  dX7_pops_91 ⟨rfl, hmZ, hqZ, fr12⟩
  · skip
    have e3 : tRem (1, ok, oF, nF, oR, nR) = 2 * oF.length + ok + 2 := rfl
    have e4 : f.length = ok + oF.length := by rw [h7]; simp [Nat.min_eq_left h6]
    obtain ⟨o1, rfl⟩ : ∃ o1, ok = o1 + 1 := ⟨ok - 1, by omega⟩
    cases f with
    | nil => rw [List.length_nil] at e4; omega
    | cons a f =>
      obtain ⟨ja, hja, rfl⟩ := hf9 a (.head _)
      obtain ⟨q0, q1, q2, q3, q4, q5⟩ := hT
      refine v_aload_n (pc' := 1) F dX7_pops_0 rfl (j := 0) rfl rfl ?_
      refine v_iconst (pc' := 2) (v := nI 0) F dX7_pops_1 (by decide) rfl ?_
      refine v_callV (pc' := 5) (rt := (some .int)) (mcc := 0) (msc := 0) (As := [.int (nI 0)]) (st := []) F (fun l => c_X7_takes G z0 l (L := 0) hm hvals hmany hls (by omega) q0) gX7_pops_X7_takes rfl hv_X7_takes (by decide) (by decide) hm rfl rfl rfl (Nat.le_of_ble_eq_true rfl) (by omega) (by omega) dX7_pops_2 rfl (fun v14 h13 hq => ?_)
      obtain ⟨rfl, M9, hyS, hlS, fS⟩ := hq
      refine v_istore_n (pc' := 6) (i := 2) (L' := [(2, .int (nI ja)), (0, .ref m), (1, .int (nI p))]) F dX7_pops_5 rfl (by decide) rfl rfl ?_
      refine v_aload_n (pc' := 7) F dX7_pops_6 rfl (j := 1) rfl rfl ?_
      refine v_dup (pc' := 8) F dX7_pops_7 rfl rfl ?_
      have g15 := fS _ _ (gnc (g_neA hm hmany) gn0) hm
      refine v_getf (pc' := 11) (v := .int (nI gl)) F k_X7_pops_7 g15 7 (by decide) m_X7_pops_f73 rfl dX7_pops_8 rfl ?_
      refine v_iconst (pc' := 12) (v := nI 1) F dX7_pops_11 (by decide) rfl ?_
      refine v_isub (pc' := 13) (v := nI (gl - 1)) F dX7_pops_12 (g_subn (by omega) (by omega)) rfl ?_
      refine w_putf (pc' := 16) F k_X7_pops_7 tyX7_ok nmX7 g15 7 (by decide) m_X7_pops_f73 rfl  rfl rfl (show 7 < 26 by decide) [.int th, .ref rows, .ref asd, .int now, .int und, .ref vals, .ref many, .int (nI (gl - 1)), .int (nI hl), .int (nI 1), .int (nI (o1 + 1)), .int st, .ref way, .int wm, .ref told, .ref oth, .ref lst, .ref text, .int fed, .int len, .int spot, .int fa, .int fat, .int num, .int frm, .int may] rfl dX7_pops_13 rfl (fun h16 a17 f18 => ?_)
      refine v_aload_n (pc' := 17) F dX7_pops_16 rfl (j := 1) rfl rfl ?_
      refine v_getf (pc' := 20) (v := .int (nI 1)) F k_X7_pops_7 a17 9 (by decide) m_X7_pops_f79 rfl dX7_pops_17 rfl ?_
      refine v_iconst (pc' := 21) (v := nI 1) F dX7_pops_20 (by decide) rfl ?_
      refine w_icmp_eq (tgt := 39) (pc' := 24) F (by omega) (by omega) dX7_pops_21 (by decide) rfl (fun _ => ?_) (fun c0 => absurd c0 (by omega))
      refine v_aload_n (pc' := 40) F dX7_pops_39 rfl (j := 1) rfl rfl ?_
      refine v_dup (pc' := 41) F dX7_pops_40 rfl rfl ?_
      refine v_getf (pc' := 44) (v := .int (nI (o1 + 1))) F k_X7_pops_7 a17 10 (by decide) m_X7_pops_f82 rfl dX7_pops_41 rfl ?_
      refine v_iconst (pc' := 45) (v := nI 1) F dX7_pops_44 (by decide) rfl ?_
      refine v_isub (pc' := 46) (v := nI o1) F dX7_pops_45 (g_subn (by omega) (by omega)) rfl ?_
      refine w_putf (pc' := 49) F k_X7_pops_7 tyX7_ok nmX7 a17 10 (by decide) m_X7_pops_f82 rfl  rfl rfl (show 10 < 26 by decide) [.int th, .ref rows, .ref asd, .int now, .int und, .ref vals, .ref many, .int (nI (gl - 1)), .int (nI hl), .int (nI 1), .int (nI o1), .int st, .ref way, .int wm, .ref told, .ref oth, .ref lst, .ref text, .int fed, .int len, .int spot, .int fa, .int fat, .int num, .int frm, .int may] rfl dX7_pops_46 rfl (fun h19 a20 f21 => ?_)
      refine v_goto (tgt := 86) F dX7_pops_49 (by decide) ?_
      refine v_aload_n (pc' := 87) F dX7_pops_86 rfl (j := 1) rfl rfl ?_
      refine v_iload_n (pc' := 88) F dX7_pops_87 rfl (j := 2) rfl rfl ?_
      have g22 := fS _ _ (gnc (g_neL hvals hmany (by decide)) gn0) hvals
      have g23 := f18 _ _ (gnc (Ne.symm (g_neA g15 g22)) gn0) g22
      have g24 := f21 _ _ (gnc (Ne.symm (g_neA a17 g23)) gn0) g23
      have g25 := f18 _ _ (gnc (Ne.symm (g_neA g15 hyS)) gn0) hyS
      have g26 := f21 _ _ (gnc (Ne.symm (g_neA a17 g25)) gn0) g25
      refine v_callV (pc' := 91) (rt := none) (mcc := 0) (msc := 0) (As := [.int (nI p)]) (st := []) F (fun l => c_X7_settles G z0 l (q := (f, r, gl - 1, hl, (1, o1, oF, nF, oR, nR))) (by omega) hb a20 ⟨_, _, _, g24, g26, hlS, ⟨by simp [va_up], by simp [va_up, q1], by simp [va_up]; exact q2, fun zi => by simp [va_up]; exact q3 zi, by simp [va_up]; exact q4, by simp [va_up]; exact q5⟩⟩ (qTake_pre hp2 hJ)) gX7_pops_X7_settles rfl hv_X7_settles (by decide) (by decide) a20 rfl rfl rfl (Nat.le_of_ble_eq_true rfl) (by omega) (by omega) dX7_pops_88 rfl (fun v28 h27 hq => ?_)
      obtain ⟨rfl, hmZ, hqZ, fZ⟩ := hq
      have fr29 : gfr [m, vals, many] h h27 := (gfr.t (gfr.mono fS (by intro q9 z9 m9; apply z9; simp only [List.mem_cons, List.not_mem_nil, or_false] at m9 ⊢; omega)) (gfr.t (gfr.mono f18 (by intro q9 z9 m9; apply z9; simp only [List.mem_cons, List.not_mem_nil, or_false] at m9 ⊢; omega)) (gfr.t (gfr.mono f21 (by intro q9 z9 m9; apply z9; simp only [List.mem_cons, List.not_mem_nil, or_false] at m9 ⊢; omega)) fZ)))
      exact v_vret F E (by omega) (by omega)  dX7_pops_91 ⟨rfl, hmZ, hqZ, fr29⟩
  · skip
    have e3 : tRem (2, ok, [], nF, [], nR) = ok + 1 := rfl
    cases f with
    | nil => rw [List.length_nil] at j3; omega
    | cons a f =>
      cases ok with
      | zero =>
        obtain ⟨ja, hja, rfl⟩ := hf9 a (.head _)
        obtain ⟨q0, q1, q2, q3, q4, q5⟩ := hT
        refine v_aload_n (pc' := 1) F dX7_pops_0 rfl (j := 0) rfl rfl ?_
        refine v_iconst (pc' := 2) (v := nI 0) F dX7_pops_1 (by decide) rfl ?_
        refine v_callV (pc' := 5) (rt := (some .int)) (mcc := 0) (msc := 0) (As := [.int (nI 0)]) (st := []) F (fun l => c_X7_takes G z0 l (L := 0) hm hvals hmany hls (by omega) q0) gX7_pops_X7_takes rfl hv_X7_takes (by decide) (by decide) hm rfl rfl rfl (Nat.le_of_ble_eq_true rfl) (by omega) (by omega) dX7_pops_2 rfl (fun v31 h30 hq => ?_)
        obtain ⟨rfl, M9, hyS, hlS, fS⟩ := hq
        refine v_istore_n (pc' := 6) (i := 2) (L' := [(2, .int (nI ja)), (0, .ref m), (1, .int (nI p))]) F dX7_pops_5 rfl (by decide) rfl rfl ?_
        refine v_aload_n (pc' := 7) F dX7_pops_6 rfl (j := 1) rfl rfl ?_
        refine v_dup (pc' := 8) F dX7_pops_7 rfl rfl ?_
        have g32 := fS _ _ (gnc (g_neA hm hmany) gn0) hm
        refine v_getf (pc' := 11) (v := .int (nI gl)) F k_X7_pops_7 g32 7 (by decide) m_X7_pops_f73 rfl dX7_pops_8 rfl ?_
        refine v_iconst (pc' := 12) (v := nI 1) F dX7_pops_11 (by decide) rfl ?_
        refine v_isub (pc' := 13) (v := nI (gl - 1)) F dX7_pops_12 (g_subn (by omega) (by omega)) rfl ?_
        refine w_putf (pc' := 16) F k_X7_pops_7 tyX7_ok nmX7 g32 7 (by decide) m_X7_pops_f73 rfl  rfl rfl (show 7 < 26 by decide) [.int th, .ref rows, .ref asd, .int now, .int und, .ref vals, .ref many, .int (nI (gl - 1)), .int (nI hl), .int (nI 2), .int (nI 0), .int st, .ref way, .int wm, .ref told, .ref oth, .ref lst, .ref text, .int fed, .int len, .int spot, .int fa, .int fat, .int num, .int frm, .int may] rfl dX7_pops_13 rfl (fun h33 a34 f35 => ?_)
        refine v_aload_n (pc' := 17) F dX7_pops_16 rfl (j := 1) rfl rfl ?_
        refine v_getf (pc' := 20) (v := .int (nI 2)) F k_X7_pops_7 a34 9 (by decide) m_X7_pops_f79 rfl dX7_pops_17 rfl ?_
        refine v_iconst (pc' := 21) (v := nI 1) F dX7_pops_20 (by decide) rfl ?_
        refine w_icmp_eq (tgt := 39) (pc' := 24) F (by omega) (by omega) dX7_pops_21 (by decide) rfl (fun c0 => absurd c0 (by omega)) (fun _ => ?_)
        refine v_aload_n (pc' := 25) F dX7_pops_24 rfl (j := 1) rfl rfl ?_
        refine v_getf (pc' := 28) (v := .int (nI 2)) F k_X7_pops_7 a34 9 (by decide) m_X7_pops_f79 rfl dX7_pops_25 rfl ?_
        refine v_iconst (pc' := 29) (v := nI 2) F dX7_pops_28 (by decide) rfl ?_
        refine w_icmp_ne (tgt := 52) (pc' := 32) F (by omega) (by omega) dX7_pops_29 (by decide) rfl (fun c0 => absurd c0 (by omega)) (fun _ => ?_)
        refine v_aload_n (pc' := 33) F dX7_pops_32 rfl (j := 1) rfl rfl ?_
        refine v_getf (pc' := 36) (v := .int (nI 0)) F k_X7_pops_7 a34 10 (by decide) m_X7_pops_f82 rfl dX7_pops_33 rfl ?_
        refine w_if_le (tgt := 52) (pc' := 39) F (by omega) dX7_pops_36 (by decide) rfl (fun _ => ?_) (fun c0 => absurd c0 (by omega))
        refine v_aload_n (pc' := 53) F dX7_pops_52 rfl (j := 1) rfl rfl ?_
        refine v_getf (pc' := 56) (v := .int (nI 2)) F k_X7_pops_7 a34 9 (by decide) m_X7_pops_f79 rfl dX7_pops_53 rfl ?_
        refine v_iconst (pc' := 57) (v := nI 2) F dX7_pops_56 (by decide) rfl ?_
        refine w_icmp_ne (tgt := 86) (pc' := 60) F (by omega) (by omega) dX7_pops_57 (by decide) rfl (fun c0 => absurd c0 (by omega)) (fun _ => ?_)
        refine v_aload_n (pc' := 61) F dX7_pops_60 rfl (j := 1) rfl rfl ?_
        refine v_iload_n (pc' := 62) F dX7_pops_61 rfl (j := 0) rfl rfl ?_
        obtain ⟨c9, nR9, rfl⟩ : ∃ c9 n9, nR = c9 :: n9 := by cases nR with | nil => (simp at h12; omega) | cons c9 n9 => exact ⟨c9, n9, rfl⟩
        have hM5 := hlS 5 (by omega)
        have e55 : va_up ls 0 f 5 = c9 :: nR9 := by simp [va_up]; exact q5
        rw [e55] at hM5
        have hlT := (hlS.takes (L := 5) (by omega) e55).1
        have e56 : M9 5 = nI (nR9.length + 1) := hM5.1
        have e57 : nR9.length < 64 := by have := hM5.2.1; rw [List.length_cons] at this; omega
        refine w_if_lt (tgt := 69) (pc' := 65) F (by omega) dX7_pops_62 (by decide) rfl (fun c0 => absurd c0 (by omega)) (fun _ => ?_)
        refine v_iconst (pc' := 66) (v := nI 3) F dX7_pops_65 (by decide) rfl ?_
        refine v_goto (tgt := 73) F dX7_pops_66 (by decide) ?_
        refine w_putf (pc' := 76) F k_X7_pops_7 tyX7_ok nmX7 a34 9 (by decide) m_X7_pops_f79 rfl  rfl rfl (show 9 < 26 by decide) [.int th, .ref rows, .ref asd, .int now, .int und, .ref vals, .ref many, .int (nI (gl - 1)), .int (nI hl), .int (nI 3), .int (nI 0), .int st, .ref way, .int wm, .ref told, .ref oth, .ref lst, .ref text, .int fed, .int len, .int spot, .int fa, .int fat, .int num, .int frm, .int may] rfl dX7_pops_73 rfl (fun h36 a37 f38 => ?_)
        refine v_aload_n (pc' := 77) F dX7_pops_76 rfl (j := 1) rfl rfl ?_
        refine v_getf (pc' := 80) (v := .ref many) F k_X7_pops_7 a37 6 (by decide) m_X7_pops_f19 rfl dX7_pops_77 rfl ?_
        refine v_iconst (pc' := 81) (v := nI 5) F dX7_pops_80 (by decide) rfl ?_
        refine v_dup2 (pc' := 82) F dX7_pops_81 rfl rfl rfl ?_
        have g39 := f35 _ _ (gnc (Ne.symm (g_neA g32 hyS)) gn0) hyS
        have g40 := f38 _ _ (gnc (Ne.symm (g_neA a34 g39)) gn0) g39
        refine w_iald (pc' := 83) (v := nI (nR9.length + 1)) F g40 (by omega) (by omega) e56 dX7_pops_82 rfl ?_
        refine v_iconst (pc' := 84) (v := nI 1) F dX7_pops_83 (by decide) rfl ?_
        refine v_isub (pc' := 85) (v := nI nR9.length) F dX7_pops_84 (g_subn (by omega) (by omega)) rfl ?_
        refine w_iast (pc' := 86) F g40 (by omega) (by omega) dX7_pops_85 rfl (fun h41 a42 f43 => ?_)
        refine v_aload_n (pc' := 87) F dX7_pops_86 rfl (j := 1) rfl rfl ?_
        refine v_iload_n (pc' := 88) F dX7_pops_87 rfl (j := 2) rfl rfl ?_
        have g44 := f43 _ _ (gnc (g_neA a37 g40) gn0) a37
        have g45 := fS _ _ (gnc (g_neL hvals hmany (by decide)) gn0) hvals
        have g46 := f35 _ _ (gnc (Ne.symm (g_neA g32 g45)) gn0) g45
        have g47 := f38 _ _ (gnc (Ne.symm (g_neA a34 g46)) gn0) g46
        have g48 := f43 _ _ (gnc (g_neL hvals hmany (by decide)) gn0) g47
        refine v_callV (pc' := 91) (rt := none) (mcc := 0) (msc := 0) (As := [.int (nI p)]) (st := []) F (fun l => c_X7_settles G z0 l (q := (f, r, gl - 1, hl, (3, 0, [], [], [], nR9))) (by omega) hb g44 ⟨_, _, _, g48, a42, hlT, ⟨by simp [va_up], by simp [va_up, q1], by simp [va_up]; exact q2, fun zi => absurd rfl zi, by simp [va_up]; exact q4, by simp [va_up]⟩⟩ (qTake_pre hp2 hJ)) gX7_pops_X7_settles rfl hv_X7_settles (by decide) (by decide) g44 rfl rfl rfl (Nat.le_of_ble_eq_true rfl) (by omega) (by omega) dX7_pops_88 rfl (fun v50 h49 hq => ?_)
        obtain ⟨rfl, hmZ, hqZ, fZ⟩ := hq
        have fr51 : gfr [m, vals, many] h h49 := (gfr.t (gfr.mono fS (by intro q9 z9 m9; apply z9; simp only [List.mem_cons, List.not_mem_nil, or_false] at m9 ⊢; omega)) (gfr.t (gfr.mono f35 (by intro q9 z9 m9; apply z9; simp only [List.mem_cons, List.not_mem_nil, or_false] at m9 ⊢; omega)) (gfr.t (gfr.mono f38 (by intro q9 z9 m9; apply z9; simp only [List.mem_cons, List.not_mem_nil, or_false] at m9 ⊢; omega)) (gfr.t (gfr.mono f43 (by intro q9 z9 m9; apply z9; simp only [List.mem_cons, List.not_mem_nil, or_false] at m9 ⊢; omega)) fZ))))
        exact v_vret F E (by omega) (by omega)  dX7_pops_91 ⟨rfl, hmZ, hqZ, fr51⟩
      | succ ok =>
        obtain ⟨ja, hja, rfl⟩ := hf9 a (.head _)
        obtain ⟨q0, q1, q2, q3, q4, q5⟩ := hT
        refine v_aload_n (pc' := 1) F dX7_pops_0 rfl (j := 0) rfl rfl ?_
        refine v_iconst (pc' := 2) (v := nI 0) F dX7_pops_1 (by decide) rfl ?_
        refine v_callV (pc' := 5) (rt := (some .int)) (mcc := 0) (msc := 0) (As := [.int (nI 0)]) (st := []) F (fun l => c_X7_takes G z0 l (L := 0) hm hvals hmany hls (by omega) q0) gX7_pops_X7_takes rfl hv_X7_takes (by decide) (by decide) hm rfl rfl rfl (Nat.le_of_ble_eq_true rfl) (by omega) (by omega) dX7_pops_2 rfl (fun v53 h52 hq => ?_)
        obtain ⟨rfl, M9, hyS, hlS, fS⟩ := hq
        refine v_istore_n (pc' := 6) (i := 2) (L' := [(2, .int (nI ja)), (0, .ref m), (1, .int (nI p))]) F dX7_pops_5 rfl (by decide) rfl rfl ?_
        refine v_aload_n (pc' := 7) F dX7_pops_6 rfl (j := 1) rfl rfl ?_
        refine v_dup (pc' := 8) F dX7_pops_7 rfl rfl ?_
        have g54 := fS _ _ (gnc (g_neA hm hmany) gn0) hm
        refine v_getf (pc' := 11) (v := .int (nI gl)) F k_X7_pops_7 g54 7 (by decide) m_X7_pops_f73 rfl dX7_pops_8 rfl ?_
        refine v_iconst (pc' := 12) (v := nI 1) F dX7_pops_11 (by decide) rfl ?_
        refine v_isub (pc' := 13) (v := nI (gl - 1)) F dX7_pops_12 (g_subn (by omega) (by omega)) rfl ?_
        refine w_putf (pc' := 16) F k_X7_pops_7 tyX7_ok nmX7 g54 7 (by decide) m_X7_pops_f73 rfl  rfl rfl (show 7 < 26 by decide) [.int th, .ref rows, .ref asd, .int now, .int und, .ref vals, .ref many, .int (nI (gl - 1)), .int (nI hl), .int (nI 2), .int (nI (ok + 1)), .int st, .ref way, .int wm, .ref told, .ref oth, .ref lst, .ref text, .int fed, .int len, .int spot, .int fa, .int fat, .int num, .int frm, .int may] rfl dX7_pops_13 rfl (fun h55 a56 f57 => ?_)
        refine v_aload_n (pc' := 17) F dX7_pops_16 rfl (j := 1) rfl rfl ?_
        refine v_getf (pc' := 20) (v := .int (nI 2)) F k_X7_pops_7 a56 9 (by decide) m_X7_pops_f79 rfl dX7_pops_17 rfl ?_
        refine v_iconst (pc' := 21) (v := nI 1) F dX7_pops_20 (by decide) rfl ?_
        refine w_icmp_eq (tgt := 39) (pc' := 24) F (by omega) (by omega) dX7_pops_21 (by decide) rfl (fun c0 => absurd c0 (by omega)) (fun _ => ?_)
        refine v_aload_n (pc' := 25) F dX7_pops_24 rfl (j := 1) rfl rfl ?_
        refine v_getf (pc' := 28) (v := .int (nI 2)) F k_X7_pops_7 a56 9 (by decide) m_X7_pops_f79 rfl dX7_pops_25 rfl ?_
        refine v_iconst (pc' := 29) (v := nI 2) F dX7_pops_28 (by decide) rfl ?_
        refine w_icmp_ne (tgt := 52) (pc' := 32) F (by omega) (by omega) dX7_pops_29 (by decide) rfl (fun c0 => absurd c0 (by omega)) (fun _ => ?_)
        refine v_aload_n (pc' := 33) F dX7_pops_32 rfl (j := 1) rfl rfl ?_
        refine v_getf (pc' := 36) (v := .int (nI (ok + 1))) F k_X7_pops_7 a56 10 (by decide) m_X7_pops_f82 rfl dX7_pops_33 rfl ?_
        refine w_if_le (tgt := 52) (pc' := 39) F (by omega) dX7_pops_36 (by decide) rfl (fun c0 => absurd c0 (by omega)) (fun _ => ?_)
        refine v_aload_n (pc' := 40) F dX7_pops_39 rfl (j := 1) rfl rfl ?_
        refine v_dup (pc' := 41) F dX7_pops_40 rfl rfl ?_
        refine v_getf (pc' := 44) (v := .int (nI (ok + 1))) F k_X7_pops_7 a56 10 (by decide) m_X7_pops_f82 rfl dX7_pops_41 rfl ?_
        refine v_iconst (pc' := 45) (v := nI 1) F dX7_pops_44 (by decide) rfl ?_
        refine v_isub (pc' := 46) (v := nI ok) F dX7_pops_45 (g_subn (by omega) (by omega)) rfl ?_
        refine w_putf (pc' := 49) F k_X7_pops_7 tyX7_ok nmX7 a56 10 (by decide) m_X7_pops_f82 rfl  rfl rfl (show 10 < 26 by decide) [.int th, .ref rows, .ref asd, .int now, .int und, .ref vals, .ref many, .int (nI (gl - 1)), .int (nI hl), .int (nI 2), .int (nI ok), .int st, .ref way, .int wm, .ref told, .ref oth, .ref lst, .ref text, .int fed, .int len, .int spot, .int fa, .int fat, .int num, .int frm, .int may] rfl dX7_pops_46 rfl (fun h58 a59 f60 => ?_)
        refine v_goto (tgt := 86) F dX7_pops_49 (by decide) ?_
        refine v_aload_n (pc' := 87) F dX7_pops_86 rfl (j := 1) rfl rfl ?_
        refine v_iload_n (pc' := 88) F dX7_pops_87 rfl (j := 2) rfl rfl ?_
        have g61 := fS _ _ (gnc (g_neL hvals hmany (by decide)) gn0) hvals
        have g62 := f57 _ _ (gnc (Ne.symm (g_neA g54 g61)) gn0) g61
        have g63 := f60 _ _ (gnc (Ne.symm (g_neA a56 g62)) gn0) g62
        have g64 := f57 _ _ (gnc (Ne.symm (g_neA g54 hyS)) gn0) hyS
        have g65 := f60 _ _ (gnc (Ne.symm (g_neA a56 g64)) gn0) g64
        refine v_callV (pc' := 91) (rt := none) (mcc := 0) (msc := 0) (As := [.int (nI p)]) (st := []) F (fun l => c_X7_settles G z0 l (q := (f, r, gl - 1, hl, (2, ok, [], nF, [], nR))) (by omega) hb a59 ⟨_, _, _, g63, g65, hlS, ⟨by simp [va_up], by simp [va_up, q1], by simp [va_up]; exact q2, fun zi => by simp [va_up]; exact q3 zi, by simp [va_up]; exact q4, by simp [va_up]; exact q5⟩⟩ (qTake_pre hp2 hJ)) gX7_pops_X7_settles rfl hv_X7_settles (by decide) (by decide) a59 rfl rfl rfl (Nat.le_of_ble_eq_true rfl) (by omega) (by omega) dX7_pops_88 rfl (fun v67 h66 hq => ?_)
        obtain ⟨rfl, hmZ, hqZ, fZ⟩ := hq
        have fr68 : gfr [m, vals, many] h h66 := (gfr.t (gfr.mono fS (by intro q9 z9 m9; apply z9; simp only [List.mem_cons, List.not_mem_nil, or_false] at m9 ⊢; omega)) (gfr.t (gfr.mono f57 (by intro q9 z9 m9; apply z9; simp only [List.mem_cons, List.not_mem_nil, or_false] at m9 ⊢; omega)) (gfr.t (gfr.mono f60 (by intro q9 z9 m9; apply z9; simp only [List.mem_cons, List.not_mem_nil, or_false] at m9 ⊢; omega)) fZ)))
        exact v_vret F E (by omega) (by omega)  dX7_pops_91 ⟨rfl, hmZ, hqZ, fr68⟩
  · skip
    exact absurd rfl j1
