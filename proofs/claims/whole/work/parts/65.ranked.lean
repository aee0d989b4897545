theorem hv_X7_isGap : yX7_isGap.cls = RX7 ∧ yX7_isGap.cls ≠ "java/lang/invoke/MethodHandle" ∧ yX7_isGap.cls ≠ "java/lang/invoke/VarHandle" ∧ (parseMethodDescriptor yX7_isGap.desc).map (fun d => d.parameters.length) = some 1 := by decide +kernel
set_option maxHeartbeats 4000000 in
set_option maxRecDepth 100000 in
theorem lp_X7_gap {G : gG} {z0 : Nat} {X : gX} {l : Launch} {post : Option Value → gH → Prop} {mc ms cells slots j k : Nat} {h : gH} {m rows asd vals many way told oth lst text now : Nat} {th und fed len spot fa fat num frm may : Int32} {R : Nat → Int32} {D : Dt} (F : gF G z0 X cX7_gap 3 RX7 wsX7_gap (some .int) "gap" 6 136 mc ms) (E : gE G z0 X post mc ms) (hcc : cells ≤ mc) (hss : slots ≤ ms) (hMS : mS G h m rows asd vals many way told oth lst text th now und fed len spot fa fat num frm may R) (hnow : now < 9) (w9 : wfD D) (hS : slD R (330 * now) D) (hkj : k + j = D.1) (hp : ∀ h' : gH, mS G h' m rows asd vals many way told oth lst text th now und fed len spot fa fat num frm may R → gfr [m, vals, many, way, told, oth, lst] h h' → post (some (.int (nI 0))) h') : gV G z0 X cells slots h 9 [(2, .int (nI k)), (1, .int (nI 0)), (0, .ref m)] [] := by
  have hn64 := w9.2.1
  induction j generalizing k h with
  | zero =>
    have hMS0 := hMS
    obtain ⟨fl, rl, kd, ok, st, wm, hm, hrows, ⟨V, hvals⟩, ⟨M, hmany⟩, ⟨W, hway⟩, ⟨f, htold⟩, ⟨g, hoth⟩, ⟨ll, hlst⟩, htw, how, hto⟩ := hMS
    obtain rfl : k = D.1 := by omega
    refine v_iload_n (pc' := 10) F dX7_gap_9 rfl (j := 0) rfl rfl ?_
    refine v_aload_n (pc' := 11) F dX7_gap_10 rfl (j := 2) rfl rfl ?_
    refine v_callV (pc' := 14) (rt := (some .int)) (mcc := 0) (msc := 0) (As := []) (st := [.int (nI D.1)]) F (fun l => c_X7_versions G z0 l hm hrows hnow hS.1) gX7_gap_X7_versions rfl hv_X7_versions (by decide) (by decide) hm rfl rfl rfl (Nat.le_of_ble_eq_true rfl) (by omega) (by omega) dX7_gap_11 rfl (fun v1 h hqv => ?_)
    obtain ⟨rfl, rfl⟩ := hqv
    refine w_icmp_ge (tgt := 39) (pc' := 17) F (by omega) (by omega) dX7_gap_14 (by decide) rfl (fun _ => ?_) (fun c0 => absurd c0 (by omega))
    refine v_iload_n (pc' := 40) F dX7_gap_39 rfl (j := 1) rfl rfl ?_
    exact v_iret F E (by omega) (by omega)  dX7_gap_40 (hp h hMS0 gfr.rf)
  | succ j ih =>
    have hMS0 := hMS
    obtain ⟨fl, rl, kd, ok, st, wm, hm, hrows, ⟨V, hvals⟩, ⟨M, hmany⟩, ⟨W, hway⟩, ⟨f, htold⟩, ⟨g, hoth⟩, ⟨ll, hlst⟩, htw, how, hto⟩ := hMS
    have hkD : k < D.1 := by omega
    refine v_iload_n (pc' := 10) F dX7_gap_9 rfl (j := 0) rfl rfl ?_
    refine v_aload_n (pc' := 11) F dX7_gap_10 rfl (j := 2) rfl rfl ?_
    refine v_callV (pc' := 14) (rt := (some .int)) (mcc := 0) (msc := 0) (As := []) (st := [.int (nI k)]) F (fun l => c_X7_versions G z0 l hm hrows hnow hS.1) gX7_gap_X7_versions rfl hv_X7_versions (by decide) (by decide) hm rfl rfl rfl (Nat.le_of_ble_eq_true rfl) (by omega) (by omega) dX7_gap_11 rfl (fun v1 h hqv => ?_)
    obtain ⟨rfl, rfl⟩ := hqv
    refine w_icmp_ge (tgt := 39) (pc' := 17) F (by omega) (by omega) dX7_gap_14 (by decide) rfl (fun c0 => absurd c0 (by omega)) (fun _ => ?_)
    refine v_iload_n (pc' := 18) F dX7_gap_17 rfl (j := 1) rfl rfl ?_
    refine v_aload_n (pc' := 19) F dX7_gap_18 rfl (j := 2) rfl rfl ?_
    refine v_iload_n (pc' := 20) F dX7_gap_19 rfl (j := 0) rfl rfl ?_
    refine v_callV (pc' := 23) (rt := (some .boolean)) (mcc := 0) (msc := 0) (As := [.int (nI k)]) (st := [.int (nI 0)]) F (fun l => c_X7_isGap G z0 l hMS0 hnow w9 hS hkD) gX7_gap_X7_isGap rfl hv_X7_isGap (by decide) (by decide) hm rfl rfl rfl (Nat.le_of_ble_eq_true rfl) (by omega) (by omega) dX7_gap_20 rfl (fun v3 h2 hqc => ?_)
    obtain ⟨rfl, hMA, frA⟩ := hqc
    refine w_if_eq (tgt := 30) (pc' := 26) F (by omega) dX7_gap_23 (by decide) rfl (fun _ => ?_) (fun c0 => absurd c0 (by omega))
    refine v_iconst (pc' := 31) (v := nI 0) F dX7_gap_30 (by decide) rfl ?_
    refine v_iadd (pc' := 32) (v := nI 0) F dX7_gap_31 (g_eqn (nI_add 0 0) (by omega)) rfl ?_
    refine v_istore_n (pc' := 33) (i := 1) (L' := [(1, .int (nI 0)), (2, .int (nI k)), (0, .ref m)]) F dX7_gap_32 rfl (by decide) rfl rfl ?_
    refine v_iinc (pc' := 36) (j := 1) (x := nI k) (v := nI (k + 1)) (L' := [(2, .int (nI (k + 1))), (1, .int (nI 0)), (0, .ref m)]) F dX7_gap_33 rfl (nI_add k 1) (by decide) rfl rfl ?_
    refine v_goto (tgt := 9) F dX7_gap_36 (by decide) ?_
    have fr4 : gfr [m, vals, many, way, told, oth, lst] h h2 := frA
    refine v_sub (L' := [(2, .int (nI (k + 1))), (1, .int (nI 0)), (0, .ref m)]) [0, 1, 2] rfl ?_
    exact ih (k := k + 1) hMA (by omega) (fun hA a1 a2 => hp hA a1 (gfr.t fr4 a2))
theorem k_X7_gap_7 : gCl wsX7_gap 7 RX7 TX7 26 := ⟨by decide +kernel, rfl⟩
theorem m_X7_gap_f44 : Cond.fieldLink RX7 44 "SteadyQueuesModel" "thrown" "I" ∈ wsX7_gap := by decide +kernel
set_option maxHeartbeats 4000000 in
set_option maxRecDepth 100000 in
theorem c_X7_gap (G : gG) (z0 : Nat) (l : Launch) {h : gH} {m rows asd vals many way told oth lst text now : Nat} {th und fed len spot fa fat num frm may : Int32} {R : Nat → Int32} {D : Dt} (hMS : mS G h m rows asd vals many way told oth lst text th now und fed len spot fa fat num frm may R) (hnow : now < 9) (w9 : wfD D) (hS : slD R (330 * now) D) : gC G z0 l yX7_gap wsX7_gap 6 136 [.ref m] h (fun o h' => o = some (.int (nI 0)) ∧ mS G h' m rows asd vals many way told oth lst text (nI 0) now und fed len spot fa fat num frm may R ∧ gfr [m, vals, many, way, told, oth, lst] h h') 0 0 := by
  have h1n := w9.1
  have hn64 := w9.2.1
  have hMS0 := hMS
  obtain ⟨fl, rl, kd, ok, st, wm, hm, hrows, ⟨V, hvals⟩, ⟨M, hmany⟩, ⟨W, hway⟩, ⟨f, htold⟩, ⟨g, hoth⟩, ⟨ll, hlst⟩, htw, how, hto⟩ := hMS
  refine gC_of (cc := cX7_gap) (nL := 3) (ret := (some .int)) (by decide) rfl (Nat.le_of_ble_eq_true rfl) ?_
  intro X F E _
  change gF G z0 X cX7_gap 3 RX7 wsX7_gap (some .int) "gap" 6 136 _ _ at F
  show gV G z0 X 0 0 h 0 [(0, .ref m)] []
  refine v_aload_n (pc' := 1) F dX7_gap_0 rfl (j := 0) rfl rfl ?_
  refine v_iconst (pc' := 2) (v := nI 0) F dX7_gap_1 (by decide) rfl ?_
  refine w_putf (pc' := 5) F k_X7_gap_7 tyX7_ok nmX7 hm 0 (by decide) m_X7_gap_f44 rfl  rfl rfl (show 0 < 26 by decide) [.int (nI 0), .ref rows, .ref asd, .int (nI now), .int und, .ref vals, .ref many, .int fl, .int rl, .int kd, .int ok, .int st, .ref way, .int wm, .ref told, .ref oth, .ref lst, .ref text, .int fed, .int len, .int spot, .int fa, .int fat, .int num, .int frm, .int may] rfl dX7_gap_2 rfl (fun h1 a2 f3 => ?_)
  refine v_iconst (pc' := 6) (v := nI 0) F dX7_gap_5 (by decide) rfl ?_
  refine v_istore_n (pc' := 7) (i := 1) (L' := [(1, .int (nI 0)), (0, .ref m)]) F dX7_gap_6 rfl (by decide) rfl rfl ?_
  refine v_iconst (pc' := 8) (v := nI 0) F dX7_gap_7 (by decide) rfl ?_
  refine v_istore_n (pc' := 9) (i := 2) (L' := [(2, .int (nI 0)), (1, .int (nI 0)), (0, .ref m)]) F dX7_gap_8 rfl (by decide) rfl rfl ?_
  refine v_sub (L' := [(2, .int (nI 0)), (1, .int (nI 0)), (0, .ref m)]) [0, 1, 2] rfl ?_
  have fr4 : gfr [m, vals, many, way, told, oth, lst] h h1 := (gfr.mono f3 (by intro q9 z9 m9; apply z9; simp only [List.mem_cons, List.not_mem_nil, or_false] at m9 ⊢; omega))
  have g5 := f3 _ _ (gnc (Ne.symm (g_neA hm hrows)) gn0) hrows
  have g6 := f3 _ _ (gnc (Ne.symm (g_neA hm hvals)) gn0) hvals
  have g7 := f3 _ _ (gnc (Ne.symm (g_neA hm hmany)) gn0) hmany
  have g8 := f3 _ _ (gnc (Ne.symm (g_neA hm hway)) gn0) hway
  have g9 := f3 _ _ (gnc (Ne.symm (g_neA hm htold)) gn0) htold
  have g10 := f3 _ _ (gnc (Ne.symm (g_neA hm hoth)) gn0) hoth
  have g11 := f3 _ _ (gnc (Ne.symm (g_neA hm hlst)) gn0) hlst
  exact lp_X7_gap (l := l) (k := 0) (j := D.1) F E (by omega) (by omega) ⟨_, _, _, _, _, _, a2, g5, ⟨_, g6⟩, ⟨_, g7⟩, ⟨_, g8⟩, ⟨_, g9⟩, ⟨_, g10⟩, ⟨_, g11⟩, htw, how, hto⟩ hnow w9 hS (by omega) (fun hA a1 a2 => ⟨rfl, a1, gfr.t fr4 a2⟩)
set_option maxHeartbeats 4000000 in
set_option maxRecDepth 100000 in
theorem lpI_X7_ranked {G : gG} {z0 : Nat} {X : gX} {l : Launch} {mc ms cells slots j k v pl : Nat} {h : gH} {m rows asd vals many way told oth lst text now : Nat} {th und fed len spot fa fat num frm may : Int32} {R : Nat → Int32} {D : Dt} (F : gF G z0 X cX7_ranked 7 RX7 wsX7_ranked (some .int) "ranked" 5 112 mc ms) (hcc : cells ≤ mc) (hss : slots ≤ ms) (hMS : mS G h m rows asd vals many way told oth lst text th now und fed len spot fa fat num frm may R) (hnow : now < 9) (w9 : wfD D) (hS : slD R (330 * now) D) (hv : v < D.1) (hkj : k + j = D.1) (K : ∀ h' : gH, mS G h' m rows asd vals many way told oth lst text th now und fed len spot fa fat num frm may R → gfr [m, vals, many, way, told, oth, lst] h h' → gV G z0 X cells slots h' 99 [(5, .int (nI D.1)), (4, .int (nI (gsum (fun i => if qLen (D.2.2.2.2 i) > qLen (D.2.2.2.2 v) ∨ (qLen (D.2.2.2.2 i) = qLen (D.2.2.2.2 v) ∧ i < v) then 1 else 0) D.1))), (3, .int (nI (qLen (D.2.2.2.2 v)))), (2, .int (nI v)), (1, .int (nI pl)), (0, .ref m)] []) : gV G z0 X cells slots h 48 [(5, .int (nI k)), (4, .int (nI (gsum (fun i => if qLen (D.2.2.2.2 i) > qLen (D.2.2.2.2 v) ∨ (qLen (D.2.2.2.2 i) = qLen (D.2.2.2.2 v) ∧ i < v) then 1 else 0) k))), (3, .int (nI (qLen (D.2.2.2.2 v)))), (2, .int (nI v)), (1, .int (nI pl)), (0, .ref m)] [] := by
  have hn64 := w9.2.1
  have hqv9 : qLen (D.2.2.2.2 v) < 64 := by rw [qLen_w (w9.os hv).1]; exact wVals_lt w9 hv
  induction j generalizing k h with
  | zero =>
    have hMS0 := hMS
    obtain ⟨fl, rl, kd, ok, st, wm, hm, hrows, ⟨V, hvals⟩, ⟨M, hmany⟩, ⟨W, hway⟩, ⟨f, htold⟩, ⟨g, hoth⟩, ⟨ll, hlst⟩, htw, how, hto⟩ := hMS
    obtain rfl : k = D.1 := by omega
    refine v_iload (pc' := 50) F dX7_ranked_48  (j := 0) rfl rfl ?_
    refine v_aload_n (pc' := 51) F dX7_ranked_50 rfl (j := 5) rfl rfl ?_
    refine v_callV (pc' := 54) (rt := (some .int)) (mcc := 0) (msc := 0) (As := []) (st := [.int (nI D.1)]) F (fun l => c_X7_versions G z0 l hm hrows hnow hS.1) gX7_ranked_X7_versions rfl hv_X7_versions (by decide) (by decide) hm rfl rfl rfl (Nat.le_of_ble_eq_true rfl) (by omega) (by omega) dX7_ranked_51 rfl (fun v1 h hqv => ?_)
    obtain ⟨rfl, rfl⟩ := hqv
    refine w_icmp_ge (tgt := 99) (pc' := 57) F (by omega) (by omega) dX7_ranked_54 (by decide) rfl (fun _ => ?_) (fun c0 => absurd c0 (by omega))
    exact K h hMS0 gfr.rf
  | succ j ih =>
    have hMS0 := hMS
    obtain ⟨fl, rl, kd, ok, st, wm, hm, hrows, ⟨V, hvals⟩, ⟨M, hmany⟩, ⟨W, hway⟩, ⟨f, htold⟩, ⟨g, hoth⟩, ⟨ll, hlst⟩, htw, how, hto⟩ := hMS
    have hkD : k < D.1 := by omega
    have hqe := qLen_w (w9.os hkD).1
    have hwl := wVals_lt w9 hkD
    rw [← hqe] at hwl
    refine v_iload (pc' := 50) F dX7_ranked_48  (j := 0) rfl rfl ?_
    refine v_aload_n (pc' := 51) F dX7_ranked_50 rfl (j := 5) rfl rfl ?_
    refine v_callV (pc' := 54) (rt := (some .int)) (mcc := 0) (msc := 0) (As := []) (st := [.int (nI k)]) F (fun l => c_X7_versions G z0 l hm hrows hnow hS.1) gX7_ranked_X7_versions rfl hv_X7_versions (by decide) (by decide) hm rfl rfl rfl (Nat.le_of_ble_eq_true rfl) (by omega) (by omega) dX7_ranked_51 rfl (fun v1 h hqv => ?_)
    obtain ⟨rfl, rfl⟩ := hqv
    refine w_icmp_ge (tgt := 99) (pc' := 57) F (by omega) (by omega) dX7_ranked_54 (by decide) rfl (fun c0 => absurd c0 (by omega)) (fun _ => ?_)
    refine v_aload_n (pc' := 58) F dX7_ranked_57 rfl (j := 5) rfl rfl ?_
    refine v_iload (pc' := 60) F dX7_ranked_58  (j := 0) rfl rfl ?_
    refine v_callV (pc' := 63) (rt := (some .int)) (mcc := 0) (msc := 0) (As := [.int (nI k)]) (st := []) F (fun l => s_X7_length G z0 l hMS0 hnow w9 hS hkD) gX7_ranked_X7_length rfl hv_X7_length (by decide) (by decide) hm rfl rfl rfl (Nat.le_of_ble_eq_true rfl) (by omega) (by omega) dX7_ranked_60 rfl (fun v3 h2 hqc => ?_)
    obtain ⟨hqe9, hMA, -, frA⟩ := hqc
    rw [← hqe] at hqe9; subst hqe9
    refine v_istore (pc' := 65) (i := 6) (L' := [(6, .int (nI (qLen (D.2.2.2.2 k)))), (5, .int (nI k)), (4, .int (nI (gsum (fun i => if qLen (D.2.2.2.2 i) > qLen (D.2.2.2.2 v) ∨ (qLen (D.2.2.2.2 i) = qLen (D.2.2.2.2 v) ∧ i < v) then 1 else 0) k))), (3, .int (nI (qLen (D.2.2.2.2 v)))), (2, .int (nI v)), (1, .int (nI pl)), (0, .ref m)]) F dX7_ranked_63  (by decide) rfl rfl ?_
    refine v_iload (pc' := 67) F dX7_ranked_65  (j := 2) rfl rfl ?_
    refine v_iload (pc' := 69) F dX7_ranked_67  (j := 0) rfl rfl ?_
    refine v_iload_n (pc' := 70) F dX7_ranked_69 rfl (j := 3) rfl rfl ?_
    refine w_icmp_gt (tgt := 85) (pc' := 73) F (by omega) (by omega) dX7_ranked_70 (by decide) rfl (fun c0 => ?_) (fun c0 => ?_)
    · have e1 : gsum (fun i => if qLen (D.2.2.2.2 i) > qLen (D.2.2.2.2 v) ∨ (qLen (D.2.2.2.2 i) = qLen (D.2.2.2.2 v) ∧ i < v) then 1 else 0) (k + 1) = gsum (fun i => if qLen (D.2.2.2.2 i) > qLen (D.2.2.2.2 v) ∨ (qLen (D.2.2.2.2 i) = qLen (D.2.2.2.2 v) ∧ i < v) then 1 else 0) k + 1 := by rw [gsum_s, if_pos (by omega)]
      refine v_iconst (pc' := 86) (v := nI 1) F dX7_ranked_85 (by decide) rfl ?_
      refine v_goto (tgt := 90) F dX7_ranked_86 (by decide) ?_
      refine v_iadd (pc' := 91) (v := nI (gsum (fun i => if qLen (D.2.2.2.2 i) > qLen (D.2.2.2.2 v) ∨ (qLen (D.2.2.2.2 i) = qLen (D.2.2.2.2 v) ∧ i < v) then 1 else 0) k + 1)) F dX7_ranked_90 (nI_add (gsum (fun i => if qLen (D.2.2.2.2 i) > qLen (D.2.2.2.2 v) ∨ (qLen (D.2.2.2.2 i) = qLen (D.2.2.2.2 v) ∧ i < v) then 1 else 0) k) 1) rfl ?_
      refine v_istore (pc' := 93) (i := 4) (L' := [(4, .int (nI (gsum (fun i => if qLen (D.2.2.2.2 i) > qLen (D.2.2.2.2 v) ∨ (qLen (D.2.2.2.2 i) = qLen (D.2.2.2.2 v) ∧ i < v) then 1 else 0) k + 1))), (6, .int (nI (qLen (D.2.2.2.2 k)))), (5, .int (nI k)), (3, .int (nI (qLen (D.2.2.2.2 v)))), (2, .int (nI v)), (1, .int (nI pl)), (0, .ref m)]) F dX7_ranked_91  (by decide) rfl rfl ?_
      refine v_iinc (pc' := 96) (j := 2) (x := nI k) (v := nI (k + 1)) (L' := [(5, .int (nI (k + 1))), (4, .int (nI (gsum (fun i => if qLen (D.2.2.2.2 i) > qLen (D.2.2.2.2 v) ∨ (qLen (D.2.2.2.2 i) = qLen (D.2.2.2.2 v) ∧ i < v) then 1 else 0) k + 1))), (6, .int (nI (qLen (D.2.2.2.2 k)))), (3, .int (nI (qLen (D.2.2.2.2 v)))), (2, .int (nI v)), (1, .int (nI pl)), (0, .ref m)]) F dX7_ranked_93 rfl (nI_add k 1) (by decide) rfl rfl ?_
      refine v_goto (tgt := 48) F dX7_ranked_96 (by decide) ?_
      have fr4 : gfr [m, vals, many, way, told, oth, lst] h h2 := frA
      refine v_sub (L' := [(5, .int (nI (k + 1))), (4, .int (nI (gsum (fun i => if qLen (D.2.2.2.2 i) > qLen (D.2.2.2.2 v) ∨ (qLen (D.2.2.2.2 i) = qLen (D.2.2.2.2 v) ∧ i < v) then 1 else 0) k + 1))), (3, .int (nI (qLen (D.2.2.2.2 v)))), (2, .int (nI v)), (1, .int (nI pl)), (0, .ref m)]) [0, 1, 3, 4, 5, 6] rfl ?_
      have ih9 := ih (k := k + 1) hMA (by omega) (fun hA a1 a2 => K hA a1 (gfr.t fr4 a2))
      rw [e1] at ih9
      exact ih9
    · refine v_iload (pc' := 75) F dX7_ranked_73  (j := 0) rfl rfl ?_
      refine v_iload_n (pc' := 76) F dX7_ranked_75 rfl (j := 3) rfl rfl ?_
      refine w_icmp_ne (tgt := 89) (pc' := 79) F (by omega) (by omega) dX7_ranked_76 (by decide) rfl (fun c1 => ?_) (fun c1 => ?_)
      · have e1 : gsum (fun i => if qLen (D.2.2.2.2 i) > qLen (D.2.2.2.2 v) ∨ (qLen (D.2.2.2.2 i) = qLen (D.2.2.2.2 v) ∧ i < v) then 1 else 0) (k + 1) = gsum (fun i => if qLen (D.2.2.2.2 i) > qLen (D.2.2.2.2 v) ∨ (qLen (D.2.2.2.2 i) = qLen (D.2.2.2.2 v) ∧ i < v) then 1 else 0) k + 0 := by rw [gsum_s, if_neg (by omega)]
        refine v_iconst (pc' := 90) (v := nI 0) F dX7_ranked_89 (by decide) rfl ?_
        refine v_iadd (pc' := 91) (v := nI (gsum (fun i => if qLen (D.2.2.2.2 i) > qLen (D.2.2.2.2 v) ∨ (qLen (D.2.2.2.2 i) = qLen (D.2.2.2.2 v) ∧ i < v) then 1 else 0) k)) F dX7_ranked_90 (g_eqn (nI_add (gsum (fun i => if qLen (D.2.2.2.2 i) > qLen (D.2.2.2.2 v) ∨ (qLen (D.2.2.2.2 i) = qLen (D.2.2.2.2 v) ∧ i < v) then 1 else 0) k) 0) (by omega)) rfl ?_
        refine v_istore (pc' := 93) (i := 4) (L' := [(4, .int (nI (gsum (fun i => if qLen (D.2.2.2.2 i) > qLen (D.2.2.2.2 v) ∨ (qLen (D.2.2.2.2 i) = qLen (D.2.2.2.2 v) ∧ i < v) then 1 else 0) k))), (6, .int (nI (qLen (D.2.2.2.2 k)))), (5, .int (nI k)), (3, .int (nI (qLen (D.2.2.2.2 v)))), (2, .int (nI v)), (1, .int (nI pl)), (0, .ref m)]) F dX7_ranked_91  (by decide) rfl rfl ?_
        refine v_iinc (pc' := 96) (j := 2) (x := nI k) (v := nI (k + 1)) (L' := [(5, .int (nI (k + 1))), (4, .int (nI (gsum (fun i => if qLen (D.2.2.2.2 i) > qLen (D.2.2.2.2 v) ∨ (qLen (D.2.2.2.2 i) = qLen (D.2.2.2.2 v) ∧ i < v) then 1 else 0) k))), (6, .int (nI (qLen (D.2.2.2.2 k)))), (3, .int (nI (qLen (D.2.2.2.2 v)))), (2, .int (nI v)), (1, .int (nI pl)), (0, .ref m)]) F dX7_ranked_93 rfl (nI_add k 1) (by decide) rfl rfl ?_
        refine v_goto (tgt := 48) F dX7_ranked_96 (by decide) ?_
        have fr5 : gfr [m, vals, many, way, told, oth, lst] h h2 := frA
        refine v_sub (L' := [(5, .int (nI (k + 1))), (4, .int (nI (gsum (fun i => if qLen (D.2.2.2.2 i) > qLen (D.2.2.2.2 v) ∨ (qLen (D.2.2.2.2 i) = qLen (D.2.2.2.2 v) ∧ i < v) then 1 else 0) k))), (3, .int (nI (qLen (D.2.2.2.2 v)))), (2, .int (nI v)), (1, .int (nI pl)), (0, .ref m)]) [0, 1, 3, 4, 5, 6] rfl ?_
        have ih9 := ih (k := k + 1) hMA (by omega) (fun hA a1 a2 => K hA a1 (gfr.t fr5 a2))
        rw [e1] at ih9
        exact ih9
      · refine v_iload (pc' := 81) F dX7_ranked_79  (j := 1) rfl rfl ?_
        refine v_iload_n (pc' := 82) F dX7_ranked_81 rfl (j := 4) rfl rfl ?_
        refine w_icmp_ge (tgt := 89) (pc' := 85) F (by omega) (by omega) dX7_ranked_82 (by decide) rfl (fun c2 => ?_) (fun c2 => ?_)
        · have e1 : gsum (fun i => if qLen (D.2.2.2.2 i) > qLen (D.2.2.2.2 v) ∨ (qLen (D.2.2.2.2 i) = qLen (D.2.2.2.2 v) ∧ i < v) then 1 else 0) (k + 1) = gsum (fun i => if qLen (D.2.2.2.2 i) > qLen (D.2.2.2.2 v) ∨ (qLen (D.2.2.2.2 i) = qLen (D.2.2.2.2 v) ∧ i < v) then 1 else 0) k + 0 := by rw [gsum_s, if_neg (by omega)]
          refine v_iconst (pc' := 90) (v := nI 0) F dX7_ranked_89 (by decide) rfl ?_
          refine v_iadd (pc' := 91) (v := nI (gsum (fun i => if qLen (D.2.2.2.2 i) > qLen (D.2.2.2.2 v) ∨ (qLen (D.2.2.2.2 i) = qLen (D.2.2.2.2 v) ∧ i < v) then 1 else 0) k)) F dX7_ranked_90 (g_eqn (nI_add (gsum (fun i => if qLen (D.2.2.2.2 i) > qLen (D.2.2.2.2 v) ∨ (qLen (D.2.2.2.2 i) = qLen (D.2.2.2.2 v) ∧ i < v) then 1 else 0) k) 0) (by omega)) rfl ?_
          refine v_istore (pc' := 93) (i := 4) (L' := [(4, .int (nI (gsum (fun i => if qLen (D.2.2.2.2 i) > qLen (D.2.2.2.2 v) ∨ (qLen (D.2.2.2.2 i) = qLen (D.2.2.2.2 v) ∧ i < v) then 1 else 0) k))), (6, .int (nI (qLen (D.2.2.2.2 k)))), (5, .int (nI k)), (3, .int (nI (qLen (D.2.2.2.2 v)))), (2, .int (nI v)), (1, .int (nI pl)), (0, .ref m)]) F dX7_ranked_91  (by decide) rfl rfl ?_
          refine v_iinc (pc' := 96) (j := 2) (x := nI k) (v := nI (k + 1)) (L' := [(5, .int (nI (k + 1))), (4, .int (nI (gsum (fun i => if qLen (D.2.2.2.2 i) > qLen (D.2.2.2.2 v) ∨ (qLen (D.2.2.2.2 i) = qLen (D.2.2.2.2 v) ∧ i < v) then 1 else 0) k))), (6, .int (nI (qLen (D.2.2.2.2 k)))), (3, .int (nI (qLen (D.2.2.2.2 v)))), (2, .int (nI v)), (1, .int (nI pl)), (0, .ref m)]) F dX7_ranked_93 rfl (nI_add k 1) (by decide) rfl rfl ?_
          refine v_goto (tgt := 48) F dX7_ranked_96 (by decide) ?_
          have fr6 : gfr [m, vals, many, way, told, oth, lst] h h2 := frA
          refine v_sub (L' := [(5, .int (nI (k + 1))), (4, .int (nI (gsum (fun i => if qLen (D.2.2.2.2 i) > qLen (D.2.2.2.2 v) ∨ (qLen (D.2.2.2.2 i) = qLen (D.2.2.2.2 v) ∧ i < v) then 1 else 0) k))), (3, .int (nI (qLen (D.2.2.2.2 v)))), (2, .int (nI v)), (1, .int (nI pl)), (0, .ref m)]) [0, 1, 3, 4, 5, 6] rfl ?_
          have ih9 := ih (k := k + 1) hMA (by omega) (fun hA a1 a2 => K hA a1 (gfr.t fr6 a2))
          rw [e1] at ih9
          exact ih9
        · have e1 : gsum (fun i => if qLen (D.2.2.2.2 i) > qLen (D.2.2.2.2 v) ∨ (qLen (D.2.2.2.2 i) = qLen (D.2.2.2.2 v) ∧ i < v) then 1 else 0) (k + 1) = gsum (fun i => if qLen (D.2.2.2.2 i) > qLen (D.2.2.2.2 v) ∨ (qLen (D.2.2.2.2 i) = qLen (D.2.2.2.2 v) ∧ i < v) then 1 else 0) k + 1 := by rw [gsum_s, if_pos (by omega)]
          refine v_iconst (pc' := 86) (v := nI 1) F dX7_ranked_85 (by decide) rfl ?_
          refine v_goto (tgt := 90) F dX7_ranked_86 (by decide) ?_
          refine v_iadd (pc' := 91) (v := nI (gsum (fun i => if qLen (D.2.2.2.2 i) > qLen (D.2.2.2.2 v) ∨ (qLen (D.2.2.2.2 i) = qLen (D.2.2.2.2 v) ∧ i < v) then 1 else 0) k + 1)) F dX7_ranked_90 (nI_add (gsum (fun i => if qLen (D.2.2.2.2 i) > qLen (D.2.2.2.2 v) ∨ (qLen (D.2.2.2.2 i) = qLen (D.2.2.2.2 v) ∧ i < v) then 1 else 0) k) 1) rfl ?_
          refine v_istore (pc' := 93) (i := 4) (L' := [(4, .int (nI (gsum (fun i => if qLen (D.2.2.2.2 i) > qLen (D.2.2.2.2 v) ∨ (qLen (D.2.2.2.2 i) = qLen (D.2.2.2.2 v) ∧ i < v) then 1 else 0) k + 1))), (6, .int (nI (qLen (D.2.2.2.2 k)))), (5, .int (nI k)), (3, .int (nI (qLen (D.2.2.2.2 v)))), (2, .int (nI v)), (1, .int (nI pl)), (0, .ref m)]) F dX7_ranked_91  (by decide) rfl rfl ?_
          refine v_iinc (pc' := 96) (j := 2) (x := nI k) (v := nI (k + 1)) (L' := [(5, .int (nI (k + 1))), (4, .int (nI (gsum (fun i => if qLen (D.2.2.2.2 i) > qLen (D.2.2.2.2 v) ∨ (qLen (D.2.2.2.2 i) = qLen (D.2.2.2.2 v) ∧ i < v) then 1 else 0) k + 1))), (6, .int (nI (qLen (D.2.2.2.2 k)))), (3, .int (nI (qLen (D.2.2.2.2 v)))), (2, .int (nI v)), (1, .int (nI pl)), (0, .ref m)]) F dX7_ranked_93 rfl (nI_add k 1) (by decide) rfl rfl ?_
          refine v_goto (tgt := 48) F dX7_ranked_96 (by decide) ?_
          have fr7 : gfr [m, vals, many, way, told, oth, lst] h h2 := frA
          refine v_sub (L' := [(5, .int (nI (k + 1))), (4, .int (nI (gsum (fun i => if qLen (D.2.2.2.2 i) > qLen (D.2.2.2.2 v) ∨ (qLen (D.2.2.2.2 i) = qLen (D.2.2.2.2 v) ∧ i < v) then 1 else 0) k + 1))), (3, .int (nI (qLen (D.2.2.2.2 v)))), (2, .int (nI v)), (1, .int (nI pl)), (0, .ref m)]) [0, 1, 3, 4, 5, 6] rfl ?_
          have ih9 := ih (k := k + 1) hMA (by omega) (fun hA a1 a2 => K hA a1 (gfr.t fr7 a2))
          rw [e1] at ih9
          exact ih9
set_option maxHeartbeats 4000000 in
set_option maxRecDepth 100000 in
theorem lpO_X7_ranked {G : gG} {z0 : Nat} {X : gX} {l : Launch} {post : Option Value → gH → Prop} {mc ms cells slots j k pl : Nat} {h : gH} {m rows asd vals many way told oth lst text now : Nat} {th und fed len spot fa fat num frm may : Int32} {R : Nat → Int32} {D : Dt} (F : gF G z0 X cX7_ranked 7 RX7 wsX7_ranked (some .int) "ranked" 5 112 mc ms) (E : gE G z0 X post mc ms) (hcc : cells ≤ mc) (hss : slots ≤ ms) (hMS : mS G h m rows asd vals many way told oth lst text th now und fed len spot fa fat num frm may R) (hnow : now < 9) (w9 : wfD D) (hS : slD R (330 * now) D) (hpl : pl < 64) (hkj : k + j = D.1) (hp : ∀ h' : gH, mS G h' m rows asd vals many way told oth lst text th now und fed len spot fa fat num frm may R → gfr [m, vals, many, way, told, oth, lst] h h' → post (some (.int (match rkF (rkG D.1 D.2.2.2.2) (nI pl) j k with | some r => nI r | none => -1))) h') : gV G z0 X cells slots h 28 [(2, .int (nI k)), (1, .int (nI pl)), (0, .ref m)] [] := by
  have hn64 := w9.2.1
  induction j generalizing k h with
  | zero =>
    have hMS0 := hMS
    obtain ⟨fl, rl, kd, ok, st, wm, hm, hrows, ⟨V, hvals⟩, ⟨M, hmany⟩, ⟨W, hway⟩, ⟨f, htold⟩, ⟨g, hoth⟩, ⟨ll, hlst⟩, htw, how, hto⟩ := hMS
    obtain rfl : k = D.1 := by omega
    refine v_iload_n (pc' := 29) F dX7_ranked_28 rfl (j := 0) rfl rfl ?_
    refine v_aload_n (pc' := 30) F dX7_ranked_29 rfl (j := 2) rfl rfl ?_
    refine v_callV (pc' := 33) (rt := (some .int)) (mcc := 0) (msc := 0) (As := []) (st := [.int (nI D.1)]) F (fun l => c_X7_versions G z0 l hm hrows hnow hS.1) gX7_ranked_X7_versions rfl hv_X7_versions (by decide) (by decide) hm rfl rfl rfl (Nat.le_of_ble_eq_true rfl) (by omega) (by omega) dX7_ranked_30 rfl (fun v1 h hqv => ?_)
    obtain ⟨rfl, rfl⟩ := hqv
    refine w_icmp_ge (tgt := 113) (pc' := 36) F (by omega) (by omega) dX7_ranked_33 (by decide) rfl (fun _ => ?_) (fun c0 => absurd c0 (by omega))
    refine v_iconst (pc' := 114) (v := (-1)) F dX7_ranked_113 (by decide) rfl ?_
    exact v_iret F E (by omega) (by omega)  dX7_ranked_114 (hp h hMS0 gfr.rf)
  | succ j ih =>
    have hMS0 := hMS
    obtain ⟨fl, rl, kd, ok, st, wm, hm, hrows, ⟨V, hvals⟩, ⟨M, hmany⟩, ⟨W, hway⟩, ⟨f, htold⟩, ⟨g, hoth⟩, ⟨ll, hlst⟩, htw, how, hto⟩ := hMS
    have hkD : k < D.1 := by omega
    have hqe := qLen_w (w9.os hkD).1
    have hgb : rkG D.1 D.2.2.2.2 k ≤ D.1 := gsum_b (fun i => by split <;> omega) _
    refine v_iload_n (pc' := 29) F dX7_ranked_28 rfl (j := 0) rfl rfl ?_
    refine v_aload_n (pc' := 30) F dX7_ranked_29 rfl (j := 2) rfl rfl ?_
    refine v_callV (pc' := 33) (rt := (some .int)) (mcc := 0) (msc := 0) (As := []) (st := [.int (nI k)]) F (fun l => c_X7_versions G z0 l hm hrows hnow hS.1) gX7_ranked_X7_versions rfl hv_X7_versions (by decide) (by decide) hm rfl rfl rfl (Nat.le_of_ble_eq_true rfl) (by omega) (by omega) dX7_ranked_30 rfl (fun v1 h hqv => ?_)
    obtain ⟨rfl, rfl⟩ := hqv
    refine w_icmp_ge (tgt := 113) (pc' := 36) F (by omega) (by omega) dX7_ranked_33 (by decide) rfl (fun c0 => absurd c0 (by omega)) (fun _ => ?_)
    refine v_aload_n (pc' := 37) F dX7_ranked_36 rfl (j := 2) rfl rfl ?_
    refine v_iload_n (pc' := 38) F dX7_ranked_37 rfl (j := 0) rfl rfl ?_
    refine v_callV (pc' := 41) (rt := (some .int)) (mcc := 0) (msc := 0) (As := [.int (nI k)]) (st := []) F (fun l => s_X7_length G z0 l hMS0 hnow w9 hS hkD) gX7_ranked_X7_length rfl hv_X7_length (by decide) (by decide) hm rfl rfl rfl (Nat.le_of_ble_eq_true rfl) (by omega) (by omega) dX7_ranked_38 rfl (fun v3 h2 hqc => ?_)
    obtain ⟨hqe9, hMA, -, frA⟩ := hqc
    rw [← hqe] at hqe9; subst hqe9
    refine v_istore_n (pc' := 42) (i := 3) (L' := [(3, .int (nI (qLen (D.2.2.2.2 k)))), (2, .int (nI k)), (1, .int (nI pl)), (0, .ref m)]) F dX7_ranked_41 rfl (by decide) rfl rfl ?_
    refine v_iconst (pc' := 43) (v := nI 0) F dX7_ranked_42 (by decide) rfl ?_
    refine v_istore (pc' := 45) (i := 4) (L' := [(4, .int (nI 0)), (3, .int (nI (qLen (D.2.2.2.2 k)))), (2, .int (nI k)), (1, .int (nI pl)), (0, .ref m)]) F dX7_ranked_43  (by decide) rfl rfl ?_
    refine v_iconst (pc' := 46) (v := nI 0) F dX7_ranked_45 (by decide) rfl ?_
    refine v_istore (pc' := 48) (i := 5) (L' := [(5, .int (nI 0)), (4, .int (nI 0)), (3, .int (nI (qLen (D.2.2.2.2 k)))), (2, .int (nI k)), (1, .int (nI pl)), (0, .ref m)]) F dX7_ranked_46  (by decide) rfl rfl ?_
    refine v_sub (L' := [(5, .int (nI 0)), (4, .int (nI 0)), (3, .int (nI (qLen (D.2.2.2.2 k)))), (2, .int (nI k)), (1, .int (nI pl)), (0, .ref m)]) [0, 1, 2, 3, 4, 5] rfl ?_
    have fr4 : gfr [m, vals, many, way, told, oth, lst] h h2 := frA
    refine lpI_X7_ranked (l := l) (k := 0) (j := D.1) F (by omega) (by omega) hMA hnow w9 hS hkD (by omega) (fun hB hMB frB => ?_)
    have frC := gfr.t fr4 frB
    show gV G z0 X cells slots hB 99 [(5, .int (nI D.1)), (4, .int (nI (rkG D.1 D.2.2.2.2 k))), (3, .int (nI (qLen (D.2.2.2.2 k)))), (2, .int (nI k)), (1, .int (nI pl)), (0, .ref m)] []
    refine v_iload (pc' := 101) F dX7_ranked_99  (j := 1) rfl rfl ?_
    refine v_iload_n (pc' := 102) F dX7_ranked_101 rfl (j := 4) rfl rfl ?_
    refine w_icmp_ne (tgt := 107) (pc' := 105) F (by omega) (by omega) dX7_ranked_102 (by decide) rfl (fun c0 => ?_) (fun c0 => ?_)
    · refine v_iinc (pc' := 110) (j := 3) (x := nI k) (v := nI (k + 1)) (L' := [(2, .int (nI (k + 1))), (5, .int (nI D.1)), (4, .int (nI (rkG D.1 D.2.2.2.2 k))), (3, .int (nI (qLen (D.2.2.2.2 k)))), (1, .int (nI pl)), (0, .ref m)]) F dX7_ranked_107 rfl (nI_add k 1) (by decide) rfl rfl ?_
      refine v_goto (tgt := 28) F dX7_ranked_110 (by decide) ?_
      refine v_sub (L' := [(2, .int (nI (k + 1))), (1, .int (nI pl)), (0, .ref m)]) [0, 4, 5] rfl ?_
      refine ih (k := k + 1) hMB (by omega) (fun hA a1 a2 => ?_)
      have h9 := hp hA a1 (gfr.t frC a2)
      rw [show rkF (rkG D.1 D.2.2.2.2) (nI pl) (j + 1) k = rkF (rkG D.1 D.2.2.2.2) (nI pl) j (k + 1) from if_neg (fun z => c0 ((nI_eq (by omega) (by omega)).mp z))] at h9
      exact h9
    · have h9 := hp hB hMB frC
      rw [show rkF (rkG D.1 D.2.2.2.2) (nI pl) (j + 1) k = some k from if_pos (by rw [c0])] at h9
      refine v_iload_n (pc' := 106) F dX7_ranked_105 rfl (j := 3) rfl rfl ?_
      exact v_iret F E (by omega) (by omega)  dX7_ranked_106 h9
theorem k_X7_ranked_7 : gCl wsX7_ranked 7 RX7 TX7 26 := ⟨by decide +kernel, rfl⟩
theorem m_X7_ranked_f44 : Cond.fieldLink RX7 44 "SteadyQueuesModel" "thrown" "I" ∈ wsX7_ranked := by decide +kernel
set_option maxHeartbeats 4000000 in
set_option maxRecDepth 100000 in
theorem c_X7_ranked (G : gG) (z0 : Nat) (l : Launch) {h : gH} {m rows asd vals many way told oth lst text now : Nat} {th und fed len spot fa fat num frm may : Int32} {R : Nat → Int32} {D : Dt} {pl : Nat} (hMS : mS G h m rows asd vals many way told oth lst text th now und fed len spot fa fat num frm may R) (hnow : now < 9) (w9 : wfD D) (hS : slD R (330 * now) D) (hpl : pl < D.1) : gC G z0 l yX7_ranked wsX7_ranked 5 112 [.ref m, .int (nI pl)] h (fun o h' => o = some (.int (match rkF (rkG D.1 D.2.2.2.2) (nI pl) D.1 0 with | some r => nI r | none => -1)) ∧ mS G h' m rows asd vals many way told oth lst text (nI 0) now und fed len spot fa fat num frm may R ∧ gfr [m, vals, many, way, told, oth, lst] h h') 0 0 := by
  have h1n := w9.1
  have hn64 := w9.2.1
  have hMS0 := hMS
  obtain ⟨fl, rl, kd, ok, st, wm, hm, hrows, ⟨V, hvals⟩, ⟨M, hmany⟩, ⟨W, hway⟩, ⟨f, htold⟩, ⟨g, hoth⟩, ⟨ll, hlst⟩, htw, how, hto⟩ := hMS
  refine gC_of (cc := cX7_ranked) (nL := 7) (ret := (some .int)) (by decide) rfl (Nat.le_of_ble_eq_true rfl) ?_
  intro X F E _
  change gF G z0 X cX7_ranked 7 RX7 wsX7_ranked (some .int) "ranked" 5 112 _ _ at F
  show gV G z0 X 0 0 h 0 [(0, .ref m), (1, .int (nI pl))] []
  refine v_aload_n (pc' := 1) F dX7_ranked_0 rfl (j := 0) rfl rfl ?_
  refine v_iconst (pc' := 2) (v := nI 0) F dX7_ranked_1 (by decide) rfl ?_
  refine w_putf (pc' := 5) F k_X7_ranked_7 tyX7_ok nmX7 hm 0 (by decide) m_X7_ranked_f44 rfl  rfl rfl (show 0 < 26 by decide) [.int (nI 0), .ref rows, .ref asd, .int (nI now), .int und, .ref vals, .ref many, .int fl, .int rl, .int kd, .int ok, .int st, .ref way, .int wm, .ref told, .ref oth, .ref lst, .ref text, .int fed, .int len, .int spot, .int fa, .int fat, .int num, .int frm, .int may] rfl dX7_ranked_2 rfl (fun h1 a2 f3 => ?_)
  refine v_aload_n (pc' := 6) F dX7_ranked_5 rfl (j := 0) rfl rfl ?_
  refine v_iload_n (pc' := 7) F dX7_ranked_6 rfl (j := 1) rfl rfl ?_
  refine v_iconst (pc' := 8) (v := nI 0) F dX7_ranked_7 (by decide) rfl ?_
  refine v_aload_n (pc' := 9) F dX7_ranked_8 rfl (j := 0) rfl rfl ?_
  have g4 := f3 _ _ (gnc (Ne.symm (g_neA hm hrows)) gn0) hrows
  refine v_callV (pc' := 12) (rt := (some .int)) (mcc := 0) (msc := 0) (As := []) (st := [.int (nI 0), .int (nI pl), .ref m]) F (fun l => c_X7_versions G z0 l a2 g4 hnow hS.1) gX7_ranked_X7_versions rfl hv_X7_versions (by decide) (by decide) a2 rfl rfl rfl (Nat.le_of_ble_eq_true rfl) (by omega) (by omega) dX7_ranked_9 rfl (fun v5 h1 hqv => ?_)
  obtain ⟨rfl, rfl⟩ := hqv
  refine v_iconst (pc' := 13) (v := nI 1) F dX7_ranked_12 (by decide) rfl ?_
  refine v_isub (pc' := 14) (v := nI (D.1 - 1)) F dX7_ranked_13 (g_subn (by omega) (by omega)) rfl ?_
  have hi9 : nI 0 ≤ nI pl ∧ nI pl ≤ nI (D.1 - 1) := (bR_iff h1n (by omega)).mpr ⟨pl, hpl, rfl⟩
  refine v_callS (pc' := 17) (rt := (some .boolean)) (mcc := 0) (msc := 0) (As := [.int (nI pl), .int (nI 0), .int (nI (D.1 - 1))]) (st := [.ref m]) F (fun l => c_X7_isIn G z0 l (nI pl) (nI 0) (nI (D.1 - 1))) gX7_ranked_X7_isIn rfl hd_X7_isIn (by decide) (by decide) rfl rfl (Nat.le_of_ble_eq_true rfl) (by omega) (by omega) dX7_ranked_14 rfl (fun v6 h1 hqi => ?_)
  rw [if_pos hi9] at hqi; obtain ⟨rfl, rfl⟩ := hqi
  refine v_iconst (pc' := 18) (v := nI 1) F dX7_ranked_17 (by decide) rfl ?_
  refine v_callV (pc' := 21) (rt := (some .boolean)) (mcc := 0) (msc := 0) (As := [.int (nI 1), .int (nI 1)]) (st := []) F (fun l => c_X7_right1 G z0 l (th := nI 0) (nI 1) (by decide) a2) gX7_ranked_X7_right rfl hv_X7_right (by decide) (by decide) a2 rfl rfl rfl (Nat.le_of_ble_eq_true rfl) (by omega) (by omega) dX7_ranked_18 rfl (fun v7 h1 hqr => ?_)
  obtain ⟨rfl, rfl⟩ := hqr
  refine w_if_ne (tgt := 26) (pc' := 24) F (by omega) dX7_ranked_21 (by decide) rfl (fun _ => ?_) (fun c0 => absurd c0 (by omega))
  refine v_iconst (pc' := 27) (v := nI 0) F dX7_ranked_26 (by decide) rfl ?_
  refine v_istore_n (pc' := 28) (i := 2) (L' := [(2, .int (nI 0)), (0, .ref m), (1, .int (nI pl))]) F dX7_ranked_27 rfl (by decide) rfl rfl ?_
  refine v_sub (L' := [(2, .int (nI 0)), (1, .int (nI pl)), (0, .ref m)]) [0, 2, 1] rfl ?_
  have fr8 : gfr [m, vals, many, way, told, oth, lst] h h1 := (gfr.mono f3 (by intro q9 z9 m9; apply z9; simp only [List.mem_cons, List.not_mem_nil, or_false] at m9 ⊢; omega))
  have g9 := f3 _ _ (gnc (Ne.symm (g_neA hm hvals)) gn0) hvals
  have g10 := f3 _ _ (gnc (Ne.symm (g_neA hm hmany)) gn0) hmany
  have g11 := f3 _ _ (gnc (Ne.symm (g_neA hm hway)) gn0) hway
  have g12 := f3 _ _ (gnc (Ne.symm (g_neA hm htold)) gn0) htold
  have g13 := f3 _ _ (gnc (Ne.symm (g_neA hm hoth)) gn0) hoth
  have g14 := f3 _ _ (gnc (Ne.symm (g_neA hm hlst)) gn0) hlst
  exact lpO_X7_ranked (l := l) (k := 0) (j := D.1) F E (by omega) (by omega) ⟨_, _, _, _, _, _, a2, g4, ⟨_, g9⟩, ⟨_, g10⟩, ⟨_, g11⟩, ⟨_, g12⟩, ⟨_, g13⟩, ⟨_, g14⟩, htw, how, hto⟩ hnow w9 hS (by omega) (by omega) (fun hA a1 a2 => ⟨rfl, a1, gfr.t fr8 a2⟩)
set_option maxHeartbeats 4000000 in
set_option maxRecDepth 100000 in
theorem o1_X7_ranked (G : gG) (z0 : Nat) (l : Launch) {h : gH} {m rows asd vals many way told oth lst text now : Nat} {th und fed len spot fa fat num frm may : Int32} {R : Nat → Int32} {D : Dt} (hMS : mS G h m rows asd vals many way told oth lst text th now und fed len spot fa fat num frm may R) (hnow : now < 9) (w9 : wfD D) (hS : slD R (330 * now) D) (x : Int32) (hxx : ¬ iR x D.1) : gC G z0 l yX7_ranked wsX7_ranked 5 112 [.ref m, .int x] h (fun o h' => (∃ y9, o = some (.int y9)) ∧ mS G h' m rows asd vals many way told oth lst text (nI 1) now und fed len spot fa fat num frm may R ∧ gfr [m, vals, many, way, told, oth, lst] h h') 0 0 := by
  have h1n := w9.1
  have hn64 := w9.2.1
  have hMS0 := hMS
  obtain ⟨fl, rl, kd, ok, st, wm, hm, hrows, ⟨V, hvals⟩, ⟨M, hmany⟩, ⟨W, hway⟩, ⟨f, htold⟩, ⟨g, hoth⟩, ⟨ll, hlst⟩, htw, how, hto⟩ := hMS
  refine gC_of (cc := cX7_ranked) (nL := 7) (ret := (some .int)) (by decide) rfl (Nat.le_of_ble_eq_true rfl) ?_
  intro X F E _
  change gF G z0 X cX7_ranked 7 RX7 wsX7_ranked (some .int) "ranked" 5 112 _ _ at F
  show gV G z0 X 0 0 h 0 [(0, .ref m), (1, .int x)] []
  refine v_aload_n (pc' := 1) F dX7_ranked_0 rfl (j := 0) rfl rfl ?_
  refine v_iconst (pc' := 2) (v := nI 0) F dX7_ranked_1 (by decide) rfl ?_
  refine w_putf (pc' := 5) F k_X7_ranked_7 tyX7_ok nmX7 hm 0 (by decide) m_X7_ranked_f44 rfl  rfl rfl (show 0 < 26 by decide) [.int (nI 0), .ref rows, .ref asd, .int (nI now), .int und, .ref vals, .ref many, .int fl, .int rl, .int kd, .int ok, .int st, .ref way, .int wm, .ref told, .ref oth, .ref lst, .ref text, .int fed, .int len, .int spot, .int fa, .int fat, .int num, .int frm, .int may] rfl dX7_ranked_2 rfl (fun h1 a2 f3 => ?_)
  refine v_aload_n (pc' := 6) F dX7_ranked_5 rfl (j := 0) rfl rfl ?_
  refine v_iload_n (pc' := 7) F dX7_ranked_6 rfl (j := 1) rfl rfl ?_
  refine v_iconst (pc' := 8) (v := nI 0) F dX7_ranked_7 (by decide) rfl ?_
  refine v_aload_n (pc' := 9) F dX7_ranked_8 rfl (j := 0) rfl rfl ?_
  have g4 := f3 _ _ (gnc (Ne.symm (g_neA hm hrows)) gn0) hrows
  refine v_callV (pc' := 12) (rt := (some .int)) (mcc := 0) (msc := 0) (As := []) (st := [.int (nI 0), .int x, .ref m]) F (fun l => c_X7_versions G z0 l a2 g4 hnow hS.1) gX7_ranked_X7_versions rfl hv_X7_versions (by decide) (by decide) a2 rfl rfl rfl (Nat.le_of_ble_eq_true rfl) (by omega) (by omega) dX7_ranked_9 rfl (fun v5 h1 hqv => ?_)
  obtain ⟨rfl, rfl⟩ := hqv
  refine v_iconst (pc' := 13) (v := nI 1) F dX7_ranked_12 (by decide) rfl ?_
  refine v_isub (pc' := 14) (v := nI (D.1 - 1)) F dX7_ranked_13 (g_subn (by omega) (by omega)) rfl ?_
  have hi9 : ¬ (nI 0 ≤ x ∧ x ≤ nI (D.1 - 1)) := fun z => hxx ((bR_iff h1n (by omega)).mp z)
  refine v_callS (pc' := 17) (rt := (some .boolean)) (mcc := 0) (msc := 0) (As := [.int x, .int (nI 0), .int (nI (D.1 - 1))]) (st := [.ref m]) F (fun l => c_X7_isIn G z0 l x (nI 0) (nI (D.1 - 1))) gX7_ranked_X7_isIn rfl hd_X7_isIn (by decide) (by decide) rfl rfl (Nat.le_of_ble_eq_true rfl) (by omega) (by omega) dX7_ranked_14 rfl (fun v6 h1 hqi => ?_)
  rw [if_neg hi9] at hqi; obtain ⟨rfl, rfl⟩ := hqi
  refine v_iconst (pc' := 18) (v := nI 1) F dX7_ranked_17 (by decide) rfl ?_
  refine v_callV (pc' := 21) (rt := (some .boolean)) (mcc := 0) (msc := 0) (As := [.int (nI 0), .int (nI 1)]) (st := []) F (fun l => c_X7_right0 G z0 l (th := nI 0) (nI 1) (by decide) a2) gX7_ranked_X7_right rfl hv_X7_right (by decide) (by decide) a2 rfl rfl rfl (Nat.le_of_ble_eq_true rfl) (by omega) (by omega) dX7_ranked_18 rfl (fun v8 h7 hqr => ?_)
  obtain ⟨rfl, hmR, frR⟩ := hqr
  refine w_if_ne (tgt := 26) (pc' := 24) F (by omega) dX7_ranked_21 (by decide) rfl (fun c0 => absurd c0 (by omega)) (fun _ => ?_)
  refine v_iconst (pc' := 25) (v := nI 0) F dX7_ranked_24 (by decide) rfl ?_
  have fr9 : gfr [m, vals, many, way, told, oth, lst] h h7 := (gfr.t (gfr.mono f3 (by intro q9 z9 m9; apply z9; simp only [List.mem_cons, List.not_mem_nil, or_false] at m9 ⊢; omega)) (gfr.mono frR (by intro q9 z9 m9; apply z9; simp only [List.mem_cons, List.not_mem_nil, or_false] at m9 ⊢; omega)))
  have g10 := frR _ _ (gnc (Ne.symm (g_neA a2 g4)) gn0) g4
  have g11 := f3 _ _ (gnc (Ne.symm (g_neA hm hvals)) gn0) hvals
  have g12 := frR _ _ (gnc (Ne.symm (g_neA a2 g11)) gn0) g11
  have g13 := f3 _ _ (gnc (Ne.symm (g_neA hm hmany)) gn0) hmany
  have g14 := frR _ _ (gnc (Ne.symm (g_neA a2 g13)) gn0) g13
  have g15 := f3 _ _ (gnc (Ne.symm (g_neA hm hway)) gn0) hway
  have g16 := frR _ _ (gnc (Ne.symm (g_neA a2 g15)) gn0) g15
  have g17 := f3 _ _ (gnc (Ne.symm (g_neA hm htold)) gn0) htold
  have g18 := frR _ _ (gnc (Ne.symm (g_neA a2 g17)) gn0) g17
  have g19 := f3 _ _ (gnc (Ne.symm (g_neA hm hoth)) gn0) hoth
  have g20 := frR _ _ (gnc (Ne.symm (g_neA a2 g19)) gn0) g19
  have g21 := f3 _ _ (gnc (Ne.symm (g_neA hm hlst)) gn0) hlst
  have g22 := frR _ _ (gnc (Ne.symm (g_neA a2 g21)) gn0) g21
  exact v_iret F E (by omega) (by omega)  dX7_ranked_25 ⟨⟨_, rfl⟩, ⟨_, _, _, _, _, _, hmR, g10, ⟨_, g12⟩, ⟨_, g14⟩, ⟨_, g16⟩, ⟨_, g18⟩, ⟨_, g20⟩, ⟨_, g22⟩, htw, how, hto⟩, fr9⟩
theorem k_X7_meanSteps_7 : gCl wsX7_meanSteps 7 RX7 TX7 26 := ⟨by decide +kernel, rfl⟩
theorem m_X7_meanSteps_f44 : Cond.fieldLink RX7 44 "SteadyQueuesModel" "thrown" "I" ∈ wsX7_meanSteps := by decide +kernel
set_option maxHeartbeats 4000000 in
set_option maxRecDepth 100000 in
theorem c_X7_meanSteps (G : gG) (z0 : Nat) (l : Launch) {h : gH} {m rows asd vals many way told oth lst text now : Nat} {th und fed len spot fa fat num frm may : Int32} {R : Nat → Int32} {D : Dt} (hMS : mS G h m rows asd vals many way told oth lst text th now und fed len spot fa fat num frm may R) (hnow : now < 9) (w9 : wfD D) (hS : slD R (330 * now) D) (hA9 : allS D.1 D.2.2.2.2 < 253) : gC G z0 l yX7_meanSteps wsX7_meanSteps 6 136 [.ref m] h (fun o h' => o = some (.float (meanN D.1 D.2.2.2.2)) ∧ mS G h' m rows asd vals many way told oth lst text (nI 0) now und fed len spot fa fat num frm may R ∧ gfr [m, vals, many, way, told, oth, lst] h h') 0 0 := by
  have h1n := w9.1
  have hn64 := w9.2.1
  have hMS0 := hMS
  obtain ⟨fl, rl, kd, ok, st, wm, hm, hrows, ⟨V, hvals⟩, ⟨M, hmany⟩, ⟨W, hway⟩, ⟨f, htold⟩, ⟨g, hoth⟩, ⟨ll, hlst⟩, htw, how, hto⟩ := hMS
  refine gC_of (cc := cX7_meanSteps) (nL := 1) (ret := (some .float)) (by decide) rfl (Nat.le_of_ble_eq_true rfl) ?_
  intro X F E _
  change gF G z0 X cX7_meanSteps 1 RX7 wsX7_meanSteps (some .float) "meanSteps" 6 136 _ _ at F
  show gV G z0 X 0 0 h 0 [(0, .ref m)] []
  refine v_aload_n (pc' := 1) F dX7_meanSteps_0 rfl (j := 0) rfl rfl ?_
  refine v_iconst (pc' := 2) (v := nI 0) F dX7_meanSteps_1 (by decide) rfl ?_
  refine w_putf (pc' := 5) F k_X7_meanSteps_7 tyX7_ok nmX7 hm 0 (by decide) m_X7_meanSteps_f44 rfl  rfl rfl (show 0 < 26 by decide) [.int (nI 0), .ref rows, .ref asd, .int (nI now), .int und, .ref vals, .ref many, .int fl, .int rl, .int kd, .int ok, .int st, .ref way, .int wm, .ref told, .ref oth, .ref lst, .ref text, .int fed, .int len, .int spot, .int fa, .int fat, .int num, .int frm, .int may] rfl dX7_meanSteps_2 rfl (fun h1 a2 f3 => ?_)
  refine v_aload_n (pc' := 6) F dX7_meanSteps_5 rfl (j := 0) rfl rfl ?_
  have g4 := f3 _ _ (gnc (Ne.symm (g_neA hm hrows)) gn0) hrows
  refine v_callV (pc' := 9) (rt := (some .int)) (mcc := 0) (msc := 0) (As := []) (st := []) F (fun l => c_X7_versions G z0 l a2 g4 hnow hS.1) gX7_meanSteps_X7_versions rfl hv_X7_versions (by decide) (by decide) a2 rfl rfl rfl (Nat.le_of_ble_eq_true rfl) (by omega) (by omega) dX7_meanSteps_6 rfl (fun v5 h1 hqv => ?_)
  obtain ⟨rfl, rfl⟩ := hqv
  refine v_iconst (pc' := 10) (v := nI 1) F dX7_meanSteps_9 (by decide) rfl ?_
  refine w_icmp_ne (tgt := 17) (pc' := 13) F (by omega) (by omega) dX7_meanSteps_10 (by decide) rfl (fun c0 => ?_) (fun c0 => ?_)
  · have g6 := f3 _ _ (gnc (Ne.symm (g_neA hm hvals)) gn0) hvals
    have g7 := f3 _ _ (gnc (Ne.symm (g_neA hm hmany)) gn0) hmany
    have g8 := f3 _ _ (gnc (Ne.symm (g_neA hm hway)) gn0) hway
    have g9 := f3 _ _ (gnc (Ne.symm (g_neA hm htold)) gn0) htold
    have g10 := f3 _ _ (gnc (Ne.symm (g_neA hm hoth)) gn0) hoth
    have g11 := f3 _ _ (gnc (Ne.symm (g_neA hm hlst)) gn0) hlst
    refine v_aload_n (pc' := 18) F dX7_meanSteps_17 rfl (j := 0) rfl rfl ?_
    refine v_iconst (pc' := 19) (v := nI 5) F dX7_meanSteps_18 (by decide) rfl ?_
    refine v_callV (pc' := 22) (rt := (some .int)) (mcc := 0) (msc := 0) (As := [.int (nI 5)]) (st := []) F (fun l => c_X7_allOf G z0 l ⟨_, _, _, _, _, _, a2, g4, ⟨_, g6⟩, ⟨_, g7⟩, ⟨_, g8⟩, ⟨_, g9⟩, ⟨_, g10⟩, ⟨_, g11⟩, htw, how, hto⟩ hnow w9 hS ⟨by omega, by omega⟩) gX7_meanSteps_X7_allOf rfl hv_X7_allOf (by decide) (by decide) a2 rfl rfl rfl (Nat.le_of_ble_eq_true rfl) (by omega) (by omega) dX7_meanSteps_19 rfl (fun v13 h12 hqc => ?_)
    obtain ⟨rfl, hMA, frA⟩ := hqc
    have hMA0 := hMA
    obtain ⟨fl2, rl2, kd2, ok2, st2, wm2, hm2, hrows2, ⟨V2, hvals2⟩, ⟨M2, hmany2⟩, ⟨W2, hway2⟩, ⟨f2, htold2⟩, ⟨g2, hoth2⟩, ⟨ll2, hlst2⟩, -, -, -⟩ := hMA
    refine v_i2f (pc' := 23) F dX7_meanSteps_22 rfl ?_
    refine v_aload_n (pc' := 24) F dX7_meanSteps_23 rfl (j := 0) rfl rfl ?_
    refine v_callV (pc' := 27) (rt := (some .int)) (mcc := 0) (msc := 0) (As := []) (st := [.float (FP.i2f (nI (allS D.1 D.2.2.2.2)))]) F (fun l => c_X7_versions G z0 l hm2 hrows2 hnow hS.1) gX7_meanSteps_X7_versions rfl hv_X7_versions (by decide) (by decide) hm2 rfl rfl rfl (Nat.le_of_ble_eq_true rfl) (by omega) (by omega) dX7_meanSteps_24 rfl (fun v14 h12 hqv => ?_)
    obtain ⟨rfl, rfl⟩ := hqv
    refine v_iconst (pc' := 28) (v := nI 1) F dX7_meanSteps_27 (by decide) rfl ?_
    refine v_isub (pc' := 29) (v := nI (D.1 - 1)) F dX7_meanSteps_28 (g_subn (by omega) (by omega)) rfl ?_
    refine v_i2f (pc' := 30) F dX7_meanSteps_29 rfl ?_
    refine v_fdiv (pc' := 31) F (fd_ok hA9 (by omega) (by omega)) dX7_meanSteps_30 rfl ?_
    have fr15 : gfr [m, vals, many, way, told, oth, lst] h h12 := (gfr.t (gfr.mono f3 (by intro q9 z9 m9; apply z9; simp only [List.mem_cons, List.not_mem_nil, or_false] at m9 ⊢; omega)) frA)
    exact v_fret F E (by omega) (by omega)  dX7_meanSteps_31 ⟨by unfold meanN; rw [if_neg (by omega)], hMA0, fr15⟩
  · refine v_fconst0 (pc' := 14) F dX7_meanSteps_13 rfl ?_
    refine v_goto (tgt := 31) F dX7_meanSteps_14 (by decide) ?_
    have fr16 : gfr [m, vals, many, way, told, oth, lst] h h1 := (gfr.mono f3 (by intro q9 z9 m9; apply z9; simp only [List.mem_cons, List.not_mem_nil, or_false] at m9 ⊢; omega))
    have g17 := f3 _ _ (gnc (Ne.symm (g_neA hm hvals)) gn0) hvals
    have g18 := f3 _ _ (gnc (Ne.symm (g_neA hm hmany)) gn0) hmany
    have g19 := f3 _ _ (gnc (Ne.symm (g_neA hm hway)) gn0) hway
    have g20 := f3 _ _ (gnc (Ne.symm (g_neA hm htold)) gn0) htold
    have g21 := f3 _ _ (gnc (Ne.symm (g_neA hm hoth)) gn0) hoth
    have g22 := f3 _ _ (gnc (Ne.symm (g_neA hm hlst)) gn0) hlst
    exact v_fret F E (by omega) (by omega)  dX7_meanSteps_31 ⟨by unfold meanN; rw [if_pos (by omega)], ⟨_, _, _, _, _, _, a2, g4, ⟨_, g17⟩, ⟨_, g18⟩, ⟨_, g19⟩, ⟨_, g20⟩, ⟨_, g21⟩, ⟨_, g22⟩, htw, how, hto⟩, fr16⟩
