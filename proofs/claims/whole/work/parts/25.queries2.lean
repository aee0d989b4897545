/-! STEADYQUEUES: MORE QUERIES -/
def wkN (os : List mO) (k : Nat) : Nat := match k with
  | 0 => stW os
  | 1 => mxW os
  | 2 => (oGo (wPu os) (0, 0, 0, 0)).1
  | _ => (oGo (wPu os) (0, 0, 0, 0)).2.1
theorem hv_th_RX6_65_69 : gTh RX6 65 69 "java/lang/IllegalArgumentException" := ⟨by decide +kernel, by decide +kernel, by decide +kernel, by decide +kernel, by decide +kernel⟩
theorem m_X6_state_c65 : Cond.classLink RX6 65 "java/lang/IllegalArgumentException" ∈ wsX6_state := by decide +kernel
theorem m_X6_state_iniIAE : Cond.initialized "java/lang/IllegalArgumentException" ∈ wsX6_state := by decide +kernel
theorem m_X6_state_atIAE : ∀ w ∈ (vx_atS RX6 69 "java/lang/IllegalArgumentException" gNames).filter goodWord, w ∈ wsX6_state := by decide +kernel
theorem k_X6_state_6 : gCl wsX6_state 6 RX6 TX6 10 := ⟨by decide +kernel, rfl⟩
theorem m_X6_state_f22 : Cond.fieldLink RX6 22 "SteadyQueues" "books" "[LSteadyQueues$Book;" ∈ wsX6_state := by decide +kernel
theorem m_X6_state_f47 : Cond.fieldLink RX6 47 "SteadyQueues" "current" "I" ∈ wsX6_state := by decide +kernel
theorem hv_X0_numberOfAll : yX0_numberOfAll.cls = RX0 ∧ yX0_numberOfAll.cls ≠ "java/lang/invoke/MethodHandle" ∧ yX0_numberOfAll.cls ≠ "java/lang/invoke/VarHandle" ∧ (parseMethodDescriptor yX0_numberOfAll.desc).map (fun d => d.parameters.length) = some 1 := by decide +kernel
theorem m_X6_state_f50 : Cond.fieldLink RX6 50 "SteadyQueues" "undoable" "I" ∈ wsX6_state := by decide +kernel
set_option maxHeartbeats 4000000 in
set_option maxRecDepth 100000 in
theorem c_X6_state (G : gG) (z0 : Nat) (l : Launch) (hst : l.stackTraces = false) {h : gH} {x buf rd bks oq rw orw bl cur und : Nat} {off : Int32} {bk : Nat → Nat} {va n pc dr : Nat} {ad : Nat → Nat} {as : Nat → List Nat} {os : Nat → List mO} (w : Int32) (hX : isX6 G h x buf rd bks oq rw orw bl off cur und bk) (hc : cur < 10) (hu : und ≤ 8) (hn : n ≤ 64) (hB : isBk G h (bk cur) va n pc dr ad) (hD : isDat h n ad as os) (hro : rw ≠ orw) (hsc : scr G h rw orw oq) : gCX G z0 l yX6_state wsX6_state 6 90 [.ref x, .int w] h (fun v h' => ∃ k, k < 10 ∧ w = nI k ∧ qPost G h rw orw oq (.int (nI (if k = 8 then und else nAll n pc dr ad (fun i => (as i).head?) os k))) v h') (xPost G h rw orw oq (fun E => E = "java/lang/IllegalArgumentException" ∧ ¬ iR w 10)) 1 6 := by
  obtain ⟨hx, fb, hbks, hfb⟩ := id hX
  obtain ⟨hb, f, hva, hf⟩ := id hB
  obtain ⟨⟨f0, hrw⟩, ⟨g0, horw⟩, oa, ob, oc, od, hoq⟩ := id hsc
  refine gCX_of hst (cc := cX6_state) (nL := 2) (ret := (some .int)) (by decide) rfl (Nat.le_of_ble_eq_true rfl) ?_
  intro X F E EX _
  change gF G z0 X cX6_state 2 RX6 wsX6_state (some .int) "state" 6 90 _ _ at F
  show gV G z0 X 0 0 h 0 [(0, .ref x), (1, .int w)] []
  refine v_iload_n (pc' := 1) F dX6_state_0 rfl (j := 1) rfl rfl ?_
  rcases pk_ix w (n := 10) (by omega) with h1 | h1 | ⟨k, hk, rfl⟩
  · refine v_if_lt (tgt := 10) (pc' := 4) F dX6_state_1 (by decide) rfl (fun _ => ?_) (fun c0 => absurd h1 c0)
    have fr1 : gfr [rw, orw, oq] h h := gfr.rf
    exact v_throw F EX (E := "java/lang/IllegalArgumentException") (text := "no such number") (num := 5) hv_th_RX6_65_69 m_X6_state_c65 m_X6_state_iniIAE m_X6_state_atIAE (by decide +kernel) dX6_state_10 rfl dX6_state_13 rfl dX6_state_14 rfl dX6_state_16 rfl dX6_state_19 (by decide) (Nat.le_of_ble_eq_true rfl) (by omega) (by omega) ⟨⟨rfl, iR_neg (by omega) h1⟩, ⟨⟨_, hrw⟩, ⟨_, horw⟩, _, _, _, _, hoq⟩, fr1⟩
  · refine v_if_lt (tgt := 10) (pc' := 4) F dX6_state_1 (by decide) rfl (fun c1 => ?_) (fun c1 => ?_)
    · have fr2 : gfr [rw, orw, oq] h h := gfr.rf
      exact v_throw F EX (E := "java/lang/IllegalArgumentException") (text := "no such number") (num := 5) hv_th_RX6_65_69 m_X6_state_c65 m_X6_state_iniIAE m_X6_state_atIAE (by decide +kernel) dX6_state_10 rfl dX6_state_13 rfl dX6_state_14 rfl dX6_state_16 rfl dX6_state_19 (by decide) (Nat.le_of_ble_eq_true rfl) (by omega) (by omega) ⟨⟨rfl, iR_ge (by omega) h1⟩, ⟨⟨_, hrw⟩, ⟨_, horw⟩, _, _, _, _, hoq⟩, fr2⟩
    · refine v_iload_n (pc' := 5) F dX6_state_4 rfl (j := 1) rfl rfl ?_
      refine v_bipush (pc' := 7) (v := nI 10) F dX6_state_5 (by decide) rfl ?_
      refine v_icmp_lt (tgt := 20) (pc' := 10) F dX6_state_7 (by decide) rfl (fun c0 => absurd c0 (Int32.not_lt.mpr h1)) (fun _ => ?_)
      have fr3 : gfr [rw, orw, oq] h h := gfr.rf
      exact v_throw F EX (E := "java/lang/IllegalArgumentException") (text := "no such number") (num := 5) hv_th_RX6_65_69 m_X6_state_c65 m_X6_state_iniIAE m_X6_state_atIAE (by decide +kernel) dX6_state_10 rfl dX6_state_13 rfl dX6_state_14 rfl dX6_state_16 rfl dX6_state_19 (by decide) (Nat.le_of_ble_eq_true rfl) (by omega) (by omega) ⟨⟨rfl, iR_ge (by omega) h1⟩, ⟨⟨_, hrw⟩, ⟨_, horw⟩, _, _, _, _, hoq⟩, fr3⟩
  · refine w_if_lt (tgt := 10) (pc' := 4) F (by omega) dX6_state_1 (by decide) rfl (fun c0 => absurd c0 (by omega)) (fun _ => ?_)
    refine v_iload_n (pc' := 5) F dX6_state_4 rfl (j := 1) rfl rfl ?_
    refine v_bipush (pc' := 7) (v := nI 10) F dX6_state_5 (by decide) rfl ?_
    refine w_icmp_lt (tgt := 20) (pc' := 10) F (by omega) (by omega) dX6_state_7 (by decide) rfl (fun _ => ?_) (fun c0 => absurd c0 (by omega))
    refine v_iload_n (pc' := 21) F dX6_state_20 rfl (j := 1) rfl rfl ?_
    refine v_bipush (pc' := 23) (v := nI 8) F dX6_state_21 (by decide) rfl ?_
    refine w_icmp_ne (tgt := 33) (pc' := 26) F (by omega) (by omega) dX6_state_23 (by decide) rfl (fun c0 => ?_) (fun c0 => ?_)
    · refine v_aload_n (pc' := 34) F dX6_state_33 rfl (j := 0) rfl rfl ?_
      refine v_getf (pc' := 37) (v := .ref bks) F k_X6_state_6 hx 2 (by decide) m_X6_state_f22 rfl dX6_state_34 rfl ?_
      refine v_aload_n (pc' := 38) F dX6_state_37 rfl (j := 0) rfl rfl ?_
      refine v_getf (pc' := 41) (v := .int (nI cur)) F k_X6_state_6 hx 8 (by decide) m_X6_state_f47 rfl dX6_state_38 rfl ?_
      refine w_qald (pc' := 42) (v := some (bk cur)) F hbks (by omega) (by omega) (hfb cur (by omega)) dX6_state_41 rfl ?_
      refine v_iload_n (pc' := 43) F dX6_state_42 rfl (j := 1) rfl rfl ?_
      refine v_callV (pc' := 46) (rt := (some .int)) (mcc := 0) (msc := 0) (As := [.int (nI k)]) (st := []) F (fun l => c_X0_numberOfAll G z0 l hn hB hD.x hD.o ⟨hk, c0⟩) gX6_state_X0_numberOfAll rfl hv_X0_numberOfAll (by decide) (by decide) hb rfl rfl rfl (Nat.le_of_ble_eq_true rfl) (by omega) (by omega) dX6_state_43 rfl (fun v4 h hq => ?_)
      obtain ⟨rfl, rfl⟩ := hq
      have fr5 : gfr [rw, orw, oq] h h := gfr.rf
      exact v_iret F E (by omega) (by omega)  dX6_state_46 ⟨k, hk, rfl, by rw [if_neg c0], ⟨⟨_, hrw⟩, ⟨_, horw⟩, _, _, _, _, hoq⟩, fr5⟩
    · refine v_aload_n (pc' := 27) F dX6_state_26 rfl (j := 0) rfl rfl ?_
      refine v_getf (pc' := 30) (v := .int (nI und)) F k_X6_state_6 hx 9 (by decide) m_X6_state_f50 rfl dX6_state_27 rfl ?_
      refine v_goto (tgt := 46) F dX6_state_30 (by decide) ?_
      have fr6 : gfr [rw, orw, oq] h h := gfr.rf
      exact v_iret F E (by omega) (by omega)  dX6_state_46 ⟨k, hk, rfl, by rw [if_pos c0], ⟨⟨_, hrw⟩, ⟨_, horw⟩, _, _, _, _, hoq⟩, fr6⟩
theorem m_X6_version_c65 : Cond.classLink RX6 65 "java/lang/IllegalArgumentException" ∈ wsX6_version := by decide +kernel
theorem m_X6_version_iniIAE : Cond.initialized "java/lang/IllegalArgumentException" ∈ wsX6_version := by decide +kernel
theorem m_X6_version_atIAE : ∀ w ∈ (vx_atS RX6 69 "java/lang/IllegalArgumentException" gNames).filter goodWord, w ∈ wsX6_version := by decide +kernel
theorem k_X6_version_6 : gCl wsX6_version 6 RX6 TX6 10 := ⟨by decide +kernel, rfl⟩
theorem m_X6_version_f22 : Cond.fieldLink RX6 22 "SteadyQueues" "books" "[LSteadyQueues$Book;" ∈ wsX6_version := by decide +kernel
theorem m_X6_version_f47 : Cond.fieldLink RX6 47 "SteadyQueues" "current" "I" ∈ wsX6_version := by decide +kernel
theorem hv_X0_numberOfOne : yX0_numberOfOne.cls = RX0 ∧ yX0_numberOfOne.cls ≠ "java/lang/invoke/MethodHandle" ∧ yX0_numberOfOne.cls ≠ "java/lang/invoke/VarHandle" ∧ (parseMethodDescriptor yX0_numberOfOne.desc).map (fun d => d.parameters.length) = some 2 := by decide +kernel
set_option maxHeartbeats 4000000 in
set_option maxRecDepth 100000 in
theorem c_X6_version (G : gG) (z0 : Nat) (l : Launch) (hst : l.stackTraces = false) {h : gH} {x buf rd bks oq rw orw bl cur und : Nat} {off : Int32} {bk : Nat → Nat} {va n pc dr : Nat} {ad : Nat → Nat} {as : Nat → List Nat} {os : Nat → List mO} (ix w : Int32) (hX : isX6 G h x buf rd bks oq rw orw bl off cur und bk) (hc : cur < 10) (hu : und ≤ 8) (hn : n ≤ 64) (hB : isBk G h (bk cur) va n pc dr ad) (hD : isDat h n ad as os) (hro : rw ≠ orw) (hsc : scr G h rw orw oq) : gCX G z0 l yX6_version wsX6_version 7 112 [.ref x, .int ix, .int w] h (fun v h' => ∃ j k, j < n ∧ k < 11 ∧ ix = nI j ∧ w = nI k ∧ qPost G h rw orw oq (.int (nOne n ad (fun i => (as i).head?) (os j) (as j).head? (ad j) k)) v h') (xPost G h rw orw oq (fun E => (E = "java/lang/IndexOutOfBoundsException" ∧ ¬ iR ix n) ∨ (E = "java/lang/IllegalArgumentException" ∧ iR ix n ∧ ¬ iR w 11))) 2 12 := by
  obtain ⟨hx, fb, hbks, hfb⟩ := id hX
  obtain ⟨hb, f, hva, hf⟩ := id hB
  obtain ⟨⟨f0, hrw⟩, ⟨g0, horw⟩, oa, ob, oc, od, hoq⟩ := id hsc
  refine gCX_of hst (cc := cX6_version) (nL := 3) (ret := (some .int)) (by decide) rfl (Nat.le_of_ble_eq_true rfl) ?_
  intro X F E EX _
  change gF G z0 X cX6_version 3 RX6 wsX6_version (some .int) "version" 7 112 _ _ at F
  show gV G z0 X 0 0 h 0 [(0, .ref x), (1, .int ix), (2, .int w)] []
  refine v_aload_n (pc' := 1) F dX6_version_0 rfl (j := 0) rfl rfl ?_
  refine v_iload_n (pc' := 2) F dX6_version_1 rfl (j := 1) rfl rfl ?_
  refine v_callVX (pc' := 5) (rt := (some (.object "SteadyQueues$Version"))) (mcc := 1) (msc := 6) (As := [.int ix]) (st := []) F EX (fun l hst => c_X6_needVersion G z0 l hst ix hX hc hu hn hB) (fun E h' q => ⟨Or.inl ⟨q.2.1, q.2.2⟩, by rw [q.1]; exact hsc, by rw [q.1]; exact gfr.rf⟩) gX6_version_X6_needVersion rfl hv_X6_needVersion (by decide) (by decide) hx rfl rfl rfl (Nat.le_of_ble_eq_true rfl) (by omega) (by omega) dX6_version_2 rfl (fun v1 h hq => ?_)
  obtain ⟨j, hj, rfl, rfl, rfl⟩ := hq
  obtain ⟨tj, aj, bj, hvj, hfaj, hfbj, hTj, x3j, x4j, x5j, x6j, htj⟩ := (hD.x j hj).obj
  refine v_pop (pc' := 6) F dX6_version_5 rfl rfl ?_
  refine v_iload_n (pc' := 7) F dX6_version_6 rfl (j := 2) rfl rfl ?_
  rcases pk_ix w (n := 11) (by omega) with h1 | h1 | ⟨k, hk, rfl⟩
  · refine v_if_lt (tgt := 16) (pc' := 10) F dX6_version_7 (by decide) rfl (fun _ => ?_) (fun c0 => absurd h1 c0)
    have fr2 : gfr [rw, orw, oq] h h := gfr.rf
    exact v_throw F EX (E := "java/lang/IllegalArgumentException") (text := "no such number") (num := 5) hv_th_RX6_65_69 m_X6_version_c65 m_X6_version_iniIAE m_X6_version_atIAE (by decide +kernel) dX6_version_16 rfl dX6_version_19 rfl dX6_version_20 rfl dX6_version_22 rfl dX6_version_25 (by decide) (Nat.le_of_ble_eq_true rfl) (by omega) (by omega) ⟨Or.inr ⟨rfl, ⟨j, hj, rfl⟩, iR_neg (by omega) h1⟩, ⟨⟨_, hrw⟩, ⟨_, horw⟩, _, _, _, _, hoq⟩, fr2⟩
  · refine v_if_lt (tgt := 16) (pc' := 10) F dX6_version_7 (by decide) rfl (fun c1 => ?_) (fun c1 => ?_)
    · have fr3 : gfr [rw, orw, oq] h h := gfr.rf
      exact v_throw F EX (E := "java/lang/IllegalArgumentException") (text := "no such number") (num := 5) hv_th_RX6_65_69 m_X6_version_c65 m_X6_version_iniIAE m_X6_version_atIAE (by decide +kernel) dX6_version_16 rfl dX6_version_19 rfl dX6_version_20 rfl dX6_version_22 rfl dX6_version_25 (by decide) (Nat.le_of_ble_eq_true rfl) (by omega) (by omega) ⟨Or.inr ⟨rfl, ⟨j, hj, rfl⟩, iR_ge (by omega) h1⟩, ⟨⟨_, hrw⟩, ⟨_, horw⟩, _, _, _, _, hoq⟩, fr3⟩
    · refine v_iload_n (pc' := 11) F dX6_version_10 rfl (j := 2) rfl rfl ?_
      refine v_bipush (pc' := 13) (v := nI 11) F dX6_version_11 (by decide) rfl ?_
      refine v_icmp_lt (tgt := 26) (pc' := 16) F dX6_version_13 (by decide) rfl (fun c0 => absurd c0 (Int32.not_lt.mpr h1)) (fun _ => ?_)
      have fr4 : gfr [rw, orw, oq] h h := gfr.rf
      exact v_throw F EX (E := "java/lang/IllegalArgumentException") (text := "no such number") (num := 5) hv_th_RX6_65_69 m_X6_version_c65 m_X6_version_iniIAE m_X6_version_atIAE (by decide +kernel) dX6_version_16 rfl dX6_version_19 rfl dX6_version_20 rfl dX6_version_22 rfl dX6_version_25 (by decide) (Nat.le_of_ble_eq_true rfl) (by omega) (by omega) ⟨Or.inr ⟨rfl, ⟨j, hj, rfl⟩, iR_ge (by omega) h1⟩, ⟨⟨_, hrw⟩, ⟨_, horw⟩, _, _, _, _, hoq⟩, fr4⟩
  · refine w_if_lt (tgt := 16) (pc' := 10) F (by omega) dX6_version_7 (by decide) rfl (fun c0 => absurd c0 (by omega)) (fun _ => ?_)
    refine v_iload_n (pc' := 11) F dX6_version_10 rfl (j := 2) rfl rfl ?_
    refine v_bipush (pc' := 13) (v := nI 11) F dX6_version_11 (by decide) rfl ?_
    refine w_icmp_lt (tgt := 26) (pc' := 16) F (by omega) (by omega) dX6_version_13 (by decide) rfl (fun _ => ?_) (fun c0 => absurd c0 (by omega))
    refine v_aload_n (pc' := 27) F dX6_version_26 rfl (j := 0) rfl rfl ?_
    refine v_getf (pc' := 30) (v := .ref bks) F k_X6_version_6 hx 2 (by decide) m_X6_version_f22 rfl dX6_version_27 rfl ?_
    refine v_aload_n (pc' := 31) F dX6_version_30 rfl (j := 0) rfl rfl ?_
    refine v_getf (pc' := 34) (v := .int (nI cur)) F k_X6_version_6 hx 8 (by decide) m_X6_version_f47 rfl dX6_version_31 rfl ?_
    refine w_qald (pc' := 35) (v := some (bk cur)) F hbks (by omega) (by omega) (hfb cur (by omega)) dX6_version_34 rfl ?_
    refine v_iload_n (pc' := 36) F dX6_version_35 rfl (j := 1) rfl rfl ?_
    refine v_iload_n (pc' := 37) F dX6_version_36 rfl (j := 2) rfl rfl ?_
    refine v_callV (pc' := 40) (rt := (some .int)) (mcc := 0) (msc := 0) (As := [.int (nI j), .int (nI k)]) (st := []) F (fun l => c_X0_numberOfOne G z0 l hn hB hD.x hD.o hj hk) gX6_version_X0_numberOfOne rfl hv_X0_numberOfOne (by decide) (by decide) hb rfl rfl rfl (Nat.le_of_ble_eq_true rfl) (by omega) (by omega) dX6_version_37 rfl (fun v5 h hq => ?_)
    obtain ⟨rfl, rfl⟩ := hq
    have fr6 : gfr [rw, orw, oq] h h := gfr.rf
    exact v_iret F E (by omega) (by omega)  dX6_version_40 ⟨j, k, hj, hk, rfl, rfl, rfl, ⟨⟨_, hrw⟩, ⟨_, horw⟩, _, _, _, _, hoq⟩, fr6⟩
theorem m_X6_work_c65 : Cond.classLink RX6 65 "java/lang/IllegalArgumentException" ∈ wsX6_work := by decide +kernel
theorem m_X6_work_iniIAE : Cond.initialized "java/lang/IllegalArgumentException" ∈ wsX6_work := by decide +kernel
theorem m_X6_work_atIAE : ∀ w ∈ (vx_atS RX6 69 "java/lang/IllegalArgumentException" gNames).filter goodWord, w ∈ wsX6_work := by decide +kernel
theorem hv_X5_stepsOnWay : yX5_stepsOnWay.cls = RX5 ∧ yX5_stepsOnWay.cls ≠ "java/lang/invoke/MethodHandle" ∧ yX5_stepsOnWay.cls ≠ "java/lang/invoke/VarHandle" ∧ (parseMethodDescriptor yX5_stepsOnWay.desc).map (fun d => d.parameters.length) = some 0 := by decide +kernel
theorem hv_X5_mostStepsOnWay : yX5_mostStepsOnWay.cls = RX5 ∧ yX5_mostStepsOnWay.cls ≠ "java/lang/invoke/MethodHandle" ∧ yX5_mostStepsOnWay.cls ≠ "java/lang/invoke/VarHandle" ∧ (parseMethodDescriptor yX5_mostStepsOnWay.desc).map (fun d => d.parameters.length) = some 0 := by decide +kernel
theorem k_X6_work_6 : gCl wsX6_work 6 RX6 TX6 10 := ⟨by decide +kernel, rfl⟩
theorem m_X6_work_f29 : Cond.fieldLink RX6 29 "SteadyQueues" "otherQueue" "LSteadyQueues$OtherQueue;" ∈ wsX6_work := by decide +kernel
theorem m_X6_work_f33 : Cond.fieldLink RX6 33 "SteadyQueues" "row" "[I" ∈ wsX6_work := by decide +kernel
theorem hv_X2_go : yX2_go.cls = RX2 ∧ yX2_go.cls ≠ "java/lang/invoke/MethodHandle" ∧ yX2_go.cls ≠ "java/lang/invoke/VarHandle" ∧ (parseMethodDescriptor yX2_go.desc).map (fun d => d.parameters.length) = some 2 := by decide +kernel
theorem k_X6_work_2 : gCl wsX6_work 2 RX2 TX2 4 := ⟨by decide +kernel, rfl⟩
theorem m_X6_work_f154 : Cond.fieldLink RX6 154 "SteadyQueues$OtherQueue" "steps" "I" ∈ wsX6_work := by decide +kernel
theorem m_X6_work_f157 : Cond.fieldLink RX6 157 "SteadyQueues$OtherQueue" "mostSteps" "I" ∈ wsX6_work := by decide +kernel
set_option maxHeartbeats 4000000 in
set_option maxRecDepth 100000 in
theorem c_X6_work (G : gG) (z0 : Nat) (l : Launch) (hst : l.stackTraces = false) {h : gH} {x buf rd bks oq rw orw bl cur und : Nat} {off : Int32} {bk : Nat → Nat} {va n pc dr : Nat} {ad : Nat → Nat} {as : Nat → List Nat} {os : Nat → List mO} (ix w : Int32) (hX : isX6 G h x buf rd bks oq rw orw bl off cur und bk) (hc : cur < 10) (hu : und ≤ 8) (hn : n ≤ 64) (hB : isBk G h (bk cur) va n pc dr ad) (hD : isDat h n ad as os) (hro : rw ≠ orw) (hsc : scr G h rw orw oq) : gCX G z0 l yX6_work wsX6_work 7 112 [.ref x, .int ix, .int w] h (fun v h' => ∃ j k, j < n ∧ k < 4 ∧ ix = nI j ∧ w = nI k ∧ qPost G h rw orw oq (.int (nI (wkN (os j) k))) v h') (xPost G h rw orw oq (fun E => (E = "java/lang/IndexOutOfBoundsException" ∧ ¬ iR ix n) ∨ (E = "java/lang/IllegalArgumentException" ∧ iR ix n ∧ ¬ iR w 4))) 2 12 := by
  obtain ⟨hx, fb, hbks, hfb⟩ := id hX
  obtain ⟨hb, f, hva, hf⟩ := id hB
  obtain ⟨⟨f0, hrw⟩, ⟨g0, horw⟩, oa, ob, oc, od, hoq⟩ := id hsc
  refine gCX_of hst (cc := cX6_work) (nL := 4) (ret := (some .int)) (by decide) rfl (Nat.le_of_ble_eq_true rfl) ?_
  intro X F E EX _
  change gF G z0 X cX6_work 4 RX6 wsX6_work (some .int) "work" 7 112 _ _ at F
  show gV G z0 X 0 0 h 0 [(0, .ref x), (1, .int ix), (2, .int w)] []
  refine v_aload_n (pc' := 1) F dX6_work_0 rfl (j := 0) rfl rfl ?_
  refine v_iload_n (pc' := 2) F dX6_work_1 rfl (j := 1) rfl rfl ?_
  refine v_callVX (pc' := 5) (rt := (some (.object "SteadyQueues$Version"))) (mcc := 1) (msc := 6) (As := [.int ix]) (st := []) F EX (fun l hst => c_X6_needVersion G z0 l hst ix hX hc hu hn hB) (fun E h' q => ⟨Or.inl ⟨q.2.1, q.2.2⟩, by rw [q.1]; exact hsc, by rw [q.1]; exact gfr.rf⟩) gX6_work_X6_needVersion rfl hv_X6_needVersion (by decide) (by decide) hx rfl rfl rfl (Nat.le_of_ble_eq_true rfl) (by omega) (by omega) dX6_work_2 rfl (fun v1 h hq => ?_)
  obtain ⟨j, hj, rfl, rfl, rfl⟩ := hq
  obtain ⟨tj, aj, bj, hvj, hfaj, hfbj, hTj, x3j, x4j, x5j, x6j, htj⟩ := (hD.x j hj).obj
  refine v_astore_n (pc' := 6) (i := 3) (L' := [(3, .ref (ad j)), (0, .ref x), (1, .int (nI j)), (2, .int w)]) F dX6_work_5 rfl (by decide) rfl rfl ?_
  refine v_iload_n (pc' := 7) F dX6_work_6 rfl (j := 3) rfl rfl ?_
  rcases pk_ix w (n := 4) (by omega) with h1 | h1 | ⟨k, hk, rfl⟩
  · refine v_if_lt (tgt := 15) (pc' := 10) F dX6_work_7 (by decide) rfl (fun _ => ?_) (fun c0 => absurd h1 c0)
    have fr2 : gfr [rw, orw, oq] h h := gfr.rf
    exact v_throw F EX (E := "java/lang/IllegalArgumentException") (text := "no such number") (num := 5) hv_th_RX6_65_69 m_X6_work_c65 m_X6_work_iniIAE m_X6_work_atIAE (by decide +kernel) dX6_work_15 rfl dX6_work_18 rfl dX6_work_19 rfl dX6_work_21 rfl dX6_work_24 (by decide) (Nat.le_of_ble_eq_true rfl) (by omega) (by omega) ⟨Or.inr ⟨rfl, ⟨j, hj, rfl⟩, iR_neg (by omega) h1⟩, ⟨⟨_, hrw⟩, ⟨_, horw⟩, _, _, _, _, hoq⟩, fr2⟩
  · refine v_if_lt (tgt := 15) (pc' := 10) F dX6_work_7 (by decide) rfl (fun c1 => ?_) (fun c1 => ?_)
    · have fr3 : gfr [rw, orw, oq] h h := gfr.rf
      exact v_throw F EX (E := "java/lang/IllegalArgumentException") (text := "no such number") (num := 5) hv_th_RX6_65_69 m_X6_work_c65 m_X6_work_iniIAE m_X6_work_atIAE (by decide +kernel) dX6_work_15 rfl dX6_work_18 rfl dX6_work_19 rfl dX6_work_21 rfl dX6_work_24 (by decide) (Nat.le_of_ble_eq_true rfl) (by omega) (by omega) ⟨Or.inr ⟨rfl, ⟨j, hj, rfl⟩, iR_ge (by omega) h1⟩, ⟨⟨_, hrw⟩, ⟨_, horw⟩, _, _, _, _, hoq⟩, fr3⟩
    · refine v_iload_n (pc' := 11) F dX6_work_10 rfl (j := 3) rfl rfl ?_
      refine v_iconst (pc' := 12) (v := nI 4) F dX6_work_11 (by decide) rfl ?_
      refine v_icmp_lt (tgt := 25) (pc' := 15) F dX6_work_12 (by decide) rfl (fun c0 => absurd c0 (Int32.not_lt.mpr h1)) (fun _ => ?_)
      have fr4 : gfr [rw, orw, oq] h h := gfr.rf
      exact v_throw F EX (E := "java/lang/IllegalArgumentException") (text := "no such number") (num := 5) hv_th_RX6_65_69 m_X6_work_c65 m_X6_work_iniIAE m_X6_work_atIAE (by decide +kernel) dX6_work_15 rfl dX6_work_18 rfl dX6_work_19 rfl dX6_work_21 rfl dX6_work_24 (by decide) (Nat.le_of_ble_eq_true rfl) (by omega) (by omega) ⟨Or.inr ⟨rfl, ⟨j, hj, rfl⟩, iR_ge (by omega) h1⟩, ⟨⟨_, hrw⟩, ⟨_, horw⟩, _, _, _, _, hoq⟩, fr4⟩
  · refine w_if_lt (tgt := 15) (pc' := 10) F (by omega) dX6_work_7 (by decide) rfl (fun c0 => absurd c0 (by omega)) (fun _ => ?_)
    refine v_iload_n (pc' := 11) F dX6_work_10 rfl (j := 3) rfl rfl ?_
    refine v_iconst (pc' := 12) (v := nI 4) F dX6_work_11 (by decide) rfl ?_
    refine w_icmp_lt (tgt := 25) (pc' := 15) F (by omega) (by omega) dX6_work_12 (by decide) rfl (fun _ => ?_) (fun c0 => absurd c0 (by omega))
    have hO1 := (hD j hj).2
    have hV1 := (hD j hj).1.v
    rcases (show k = 0 ∨ k = 1 ∨ k = 2 ∨ k = 3 by omega) with rfl | rfl | rfl | rfl
    · refine v_iload_n (pc' := 26) F dX6_work_25 rfl (j := 3) rfl rfl ?_
      refine w_if_ne (tgt := 34) (pc' := 29) F (by omega) dX6_work_26 (by decide) rfl (fun c0 => absurd c0 (by omega)) (fun _ => ?_)
      refine v_aload_n (pc' := 30) F dX6_work_29 rfl (j := 0) rfl rfl ?_
      refine v_callV (pc' := 33) (rt := (some .int)) (mcc := 0) (msc := 0) (As := []) (st := []) F (fun l => c_X5_stepsOnWay G z0 l hO1.1 hV1 (by omega)) gX6_work_X5_stepsOnWay rfl hv_X5_stepsOnWay (by decide) (by decide) hvj rfl rfl rfl (Nat.le_of_ble_eq_true rfl) (by omega) (by omega) dX6_work_30 rfl (fun v5 h hq => ?_)
      obtain ⟨rfl, rfl⟩ := hq
      have fr6 : gfr [rw, orw, oq] h h := gfr.rf
      exact v_iret F E (by omega) (by omega)  dX6_work_33 ⟨j, 0, hj, by omega, rfl, rfl, rfl, ⟨⟨_, hrw⟩, ⟨_, horw⟩, _, _, _, _, hoq⟩, fr6⟩
    · refine v_iload_n (pc' := 26) F dX6_work_25 rfl (j := 3) rfl rfl ?_
      refine w_if_ne (tgt := 34) (pc' := 29) F (by omega) dX6_work_26 (by decide) rfl (fun _ => ?_) (fun c0 => absurd c0 (by omega))
      refine v_iload_n (pc' := 35) F dX6_work_34 rfl (j := 3) rfl rfl ?_
      refine v_iconst (pc' := 36) (v := nI 1) F dX6_work_35 (by decide) rfl ?_
      refine w_icmp_ne (tgt := 44) (pc' := 39) F (by omega) (by omega) dX6_work_36 (by decide) rfl (fun c0 => absurd c0 (by omega)) (fun _ => ?_)
      refine v_aload_n (pc' := 40) F dX6_work_39 rfl (j := 0) rfl rfl ?_
      refine v_callV (pc' := 43) (rt := (some .int)) (mcc := 0) (msc := 0) (As := []) (st := []) F (fun l => c_X5_mostStepsOnWay G z0 l hO1.1 hV1 (by omega)) gX6_work_X5_mostStepsOnWay rfl hv_X5_mostStepsOnWay (by decide) (by decide) hvj rfl rfl rfl (Nat.le_of_ble_eq_true rfl) (by omega) (by omega) dX6_work_40 rfl (fun v7 h hq => ?_)
      obtain ⟨rfl, rfl⟩ := hq
      have fr8 : gfr [rw, orw, oq] h h := gfr.rf
      exact v_iret F E (by omega) (by omega)  dX6_work_43 ⟨j, 1, hj, by omega, rfl, rfl, rfl, ⟨⟨_, hrw⟩, ⟨_, horw⟩, _, _, _, _, hoq⟩, fr8⟩
    · refine v_iload_n (pc' := 26) F dX6_work_25 rfl (j := 3) rfl rfl ?_
      refine w_if_ne (tgt := 34) (pc' := 29) F (by omega) dX6_work_26 (by decide) rfl (fun _ => ?_) (fun c0 => absurd c0 (by omega))
      refine v_iload_n (pc' := 35) F dX6_work_34 rfl (j := 3) rfl rfl ?_
      refine v_iconst (pc' := 36) (v := nI 1) F dX6_work_35 (by decide) rfl ?_
      refine w_icmp_ne (tgt := 44) (pc' := 39) F (by omega) (by omega) dX6_work_36 (by decide) rfl (fun _ => ?_) (fun c0 => absurd c0 (by omega))
      refine v_aload_n (pc' := 45) F dX6_work_44 rfl (j := 1) rfl rfl ?_
      refine v_getf (pc' := 48) (v := .ref oq) F k_X6_work_6 hx 3 (by decide) m_X6_work_f29 rfl dX6_work_45 rfl ?_
      refine v_aload_n (pc' := 49) F dX6_work_48 rfl (j := 1) rfl rfl ?_
      refine v_getf (pc' := 52) (v := .ref rw) F k_X6_work_6 hx 4 (by decide) m_X6_work_f33 rfl dX6_work_49 rfl ?_
      refine v_aload_n (pc' := 53) F dX6_work_52 rfl (j := 0) rfl rfl ?_
      refine v_aload_n (pc' := 54) F dX6_work_53 rfl (j := 1) rfl rfl ?_
      refine v_getf (pc' := 57) (v := .ref rw) F k_X6_work_6 hx 4 (by decide) m_X6_work_f33 rfl dX6_work_54 rfl ?_
      refine v_callV (pc' := 60) (rt := (some .int)) (mcc := 0) (msc := 0) (As := [.ref rw]) (st := [.ref rw, .ref oq]) F (fun l => c_X5_wayInto G z0 l (by omega) hV1 hrw (by omega)) gX6_work_X5_wayInto rfl hv_X5_wayInto (by decide) (by decide) hvj rfl rfl rfl (Nat.le_of_ble_eq_true rfl) (by omega) (by omega) dX6_work_57 rfl (fun v10 h9 hq => ?_)
      obtain ⟨rfl, f1, w1, g1, k1⟩ := hq
      have g11 := k1 _ _ (gnc (g_neA hoq hrw) gn0) hoq
      refine v_callV (pc' := 63) (rt := none) (mcc := 0) (msc := 0) (As := [.ref rw, .int (nI ((os j).length))]) (st := []) F (fun l => c_X2_go G z0 l (by omega) (by omega) (wPu_len _) (by omega) w1 g1 (oWay hO1.1).1 ⟨_, _, _, _, g11⟩) gX6_work_X2_go rfl hv_X2_go (by decide) (by decide) g11 rfl rfl rfl (Nat.le_of_ble_eq_true rfl) (by omega) (by omega) dX6_work_60 rfl (fun v13 h12 hq => ?_)
      obtain ⟨rfl, o2, k2⟩ := hq
      refine v_iload_n (pc' := 64) F dX6_work_63 rfl (j := 3) rfl rfl ?_
      refine v_iconst (pc' := 65) (v := nI 2) F dX6_work_64 (by decide) rfl ?_
      refine w_icmp_ne (tgt := 78) (pc' := 68) F (by omega) (by omega) dX6_work_65 (by decide) rfl (fun c0 => absurd c0 (by omega)) (fun _ => ?_)
      refine v_aload_n (pc' := 69) F dX6_work_68 rfl (j := 1) rfl rfl ?_
      have g14 := k1 _ _ (gnc (g_neA hx hrw) gn0) hx
      have g15 := k2 _ _ (gnc (g_neC g14 g11 (by decide)) gn0) g14
      refine v_getf (pc' := 72) (v := .ref oq) F k_X6_work_6 g15 3 (by decide) m_X6_work_f29 rfl dX6_work_69 rfl ?_
      refine v_getf (pc' := 75) (v := .int (nI ((oGo (wPu (os j)) (0, 0, 0, 0)).1))) F k_X6_work_2 o2 0 (by decide) m_X6_work_f154 rfl dX6_work_72 rfl ?_
      refine v_goto (tgt := 85) F dX6_work_75 (by decide) ?_
      have fr16 : gfr [rw, orw, oq] h h12 := (gfr.t (gfr.mono k1 (by intro q9 z9 m9; apply z9; simp only [List.mem_cons, List.not_mem_nil, or_false] at m9 ⊢; omega)) (gfr.mono k2 (by intro q9 z9 m9; apply z9; simp only [List.mem_cons, List.not_mem_nil, or_false] at m9 ⊢; omega)))
      have g17 := k2 _ _ (gnc (Ne.symm (g_neA g11 w1)) gn0) w1
      have g18 := k1 _ _ (gnc hro.symm gn0) horw
      have g19 := k2 _ _ (gnc (Ne.symm (g_neA g11 g18)) gn0) g18
      exact v_iret F E (by omega) (by omega)  dX6_work_85 ⟨j, 2, hj, by omega, rfl, rfl, rfl, ⟨⟨_, g17⟩, ⟨_, g19⟩, _, _, _, _, o2⟩, fr16⟩
    · refine v_iload_n (pc' := 26) F dX6_work_25 rfl (j := 3) rfl rfl ?_
      refine w_if_ne (tgt := 34) (pc' := 29) F (by omega) dX6_work_26 (by decide) rfl (fun _ => ?_) (fun c0 => absurd c0 (by omega))
      refine v_iload_n (pc' := 35) F dX6_work_34 rfl (j := 3) rfl rfl ?_
      refine v_iconst (pc' := 36) (v := nI 1) F dX6_work_35 (by decide) rfl ?_
      refine w_icmp_ne (tgt := 44) (pc' := 39) F (by omega) (by omega) dX6_work_36 (by decide) rfl (fun _ => ?_) (fun c0 => absurd c0 (by omega))
      refine v_aload_n (pc' := 45) F dX6_work_44 rfl (j := 1) rfl rfl ?_
      refine v_getf (pc' := 48) (v := .ref oq) F k_X6_work_6 hx 3 (by decide) m_X6_work_f29 rfl dX6_work_45 rfl ?_
      refine v_aload_n (pc' := 49) F dX6_work_48 rfl (j := 1) rfl rfl ?_
      refine v_getf (pc' := 52) (v := .ref rw) F k_X6_work_6 hx 4 (by decide) m_X6_work_f33 rfl dX6_work_49 rfl ?_
      refine v_aload_n (pc' := 53) F dX6_work_52 rfl (j := 0) rfl rfl ?_
      refine v_aload_n (pc' := 54) F dX6_work_53 rfl (j := 1) rfl rfl ?_
      refine v_getf (pc' := 57) (v := .ref rw) F k_X6_work_6 hx 4 (by decide) m_X6_work_f33 rfl dX6_work_54 rfl ?_
      refine v_callV (pc' := 60) (rt := (some .int)) (mcc := 0) (msc := 0) (As := [.ref rw]) (st := [.ref rw, .ref oq]) F (fun l => c_X5_wayInto G z0 l (by omega) hV1 hrw (by omega)) gX6_work_X5_wayInto rfl hv_X5_wayInto (by decide) (by decide) hvj rfl rfl rfl (Nat.le_of_ble_eq_true rfl) (by omega) (by omega) dX6_work_57 rfl (fun v21 h20 hq => ?_)
      obtain ⟨rfl, f1, w1, g1, k1⟩ := hq
      have g22 := k1 _ _ (gnc (g_neA hoq hrw) gn0) hoq
      refine v_callV (pc' := 63) (rt := none) (mcc := 0) (msc := 0) (As := [.ref rw, .int (nI ((os j).length))]) (st := []) F (fun l => c_X2_go G z0 l (by omega) (by omega) (wPu_len _) (by omega) w1 g1 (oWay hO1.1).1 ⟨_, _, _, _, g22⟩) gX6_work_X2_go rfl hv_X2_go (by decide) (by decide) g22 rfl rfl rfl (Nat.le_of_ble_eq_true rfl) (by omega) (by omega) dX6_work_60 rfl (fun v24 h23 hq => ?_)
      obtain ⟨rfl, o2, k2⟩ := hq
      refine v_iload_n (pc' := 64) F dX6_work_63 rfl (j := 3) rfl rfl ?_
      refine v_iconst (pc' := 65) (v := nI 2) F dX6_work_64 (by decide) rfl ?_
      refine w_icmp_ne (tgt := 78) (pc' := 68) F (by omega) (by omega) dX6_work_65 (by decide) rfl (fun _ => ?_) (fun c0 => absurd c0 (by omega))
      refine v_aload_n (pc' := 79) F dX6_work_78 rfl (j := 1) rfl rfl ?_
      have g25 := k1 _ _ (gnc (g_neA hx hrw) gn0) hx
      have g26 := k2 _ _ (gnc (g_neC g25 g22 (by decide)) gn0) g25
      refine v_getf (pc' := 82) (v := .ref oq) F k_X6_work_6 g26 3 (by decide) m_X6_work_f29 rfl dX6_work_79 rfl ?_
      refine v_getf (pc' := 85) (v := .int (nI ((oGo (wPu (os j)) (0, 0, 0, 0)).2.1))) F k_X6_work_2 o2 1 (by decide) m_X6_work_f157 rfl dX6_work_82 rfl ?_
      have fr27 : gfr [rw, orw, oq] h h23 := (gfr.t (gfr.mono k1 (by intro q9 z9 m9; apply z9; simp only [List.mem_cons, List.not_mem_nil, or_false] at m9 ⊢; omega)) (gfr.mono k2 (by intro q9 z9 m9; apply z9; simp only [List.mem_cons, List.not_mem_nil, or_false] at m9 ⊢; omega)))
      have g28 := k2 _ _ (gnc (Ne.symm (g_neA g22 w1)) gn0) w1
      have g29 := k1 _ _ (gnc hro.symm gn0) horw
      have g30 := k2 _ _ (gnc (Ne.symm (g_neA g22 g29)) gn0) g29
      exact v_iret F E (by omega) (by omega)  dX6_work_85 ⟨j, 3, hj, by omega, rfl, rfl, rfl, ⟨⟨_, g28⟩, ⟨_, g30⟩, _, _, _, _, o2⟩, fr27⟩
theorem m_X6_value_c65 : Cond.classLink RX6 65 "java/lang/IllegalArgumentException" ∈ wsX6_value := by decide +kernel
theorem m_X6_value_iniIAE : Cond.initialized "java/lang/IllegalArgumentException" ∈ wsX6_value := by decide +kernel
theorem m_X6_value_atIAE : ∀ w ∈ (vx_atS RX6 69 "java/lang/IllegalArgumentException" gNames).filter goodWord, w ∈ wsX6_value := by decide +kernel
theorem k_X6_value_6 : gCl wsX6_value 6 RX6 TX6 10 := ⟨by decide +kernel, rfl⟩
theorem m_X6_value_f33 : Cond.fieldLink RX6 33 "SteadyQueues" "row" "[I" ∈ wsX6_value := by decide +kernel
theorem hv_X5_listOf : yX5_listOf.cls = RX5 ∧ yX5_listOf.cls ≠ "java/lang/invoke/MethodHandle" ∧ yX5_listOf.cls ≠ "java/lang/invoke/VarHandle" ∧ (parseMethodDescriptor yX5_listOf.desc).map (fun d => d.parameters.length) = some 1 := by decide +kernel
theorem hd_X1_valueAt : yX1_valueAt.cls ≠ "java/lang/invoke/MethodHandle" ∧ yX1_valueAt.cls ≠ "java/lang/invoke/VarHandle" ∧ (parseMethodDescriptor yX1_valueAt.desc).map (fun d => d.parameters.length) = some 2 := by decide +kernel
theorem qList_le {os : List mO} {k : Nat} (h : wOk os) : (qList (qOf os).1 k).length ≤ os.length := by
  have hJ := qOf_J h
  generalize (qOf os).1 = q at hJ ⊢
  obtain ⟨f, r, fl, rl, k1, ok, oF, nF, oR, nR⟩ := q
  obtain ⟨⟨h1, h2, h3, h4, h5⟩, j⟩ := hJ
  unfold qList
  simp only
  have hr : r.length ≤ os.length := by
    rcases h5 with ⟨rfl, rfl, rfl, rfl, rfl, rfl, h6, h7⟩ | ⟨rfl, h6, h7, h8, h9, h10, h11, h12⟩ | ⟨rfl, h6, h7, h8, rfl, rfl, h11, h12, h13⟩ | ⟨rfl, h6, h7, rfl, rfl, rfl, rfl⟩ <;> omega
  split <;> first | omega | (rcases h5 with ⟨rfl, rfl, rfl, rfl, rfl, rfl, h6, h7⟩ | ⟨rfl, h6, h7, h8, h9, h10, h11, h12⟩ | ⟨rfl, h6, h7, h8, rfl, rfl, h11, h12, h13⟩ | ⟨rfl, h6, h7, rfl, rfl, rfl, rfl⟩ <;> (try simp only [List.length_nil]) <;> omega)
set_option maxHeartbeats 4000000 in
set_option maxRecDepth 100000 in
theorem c_X6_value (G : gG) (z0 : Nat) (l : Launch) (hst : l.stackTraces = false) {h : gH} {x buf rd bks oq rw orw bl cur und : Nat} {off : Int32} {bk : Nat → Nat} {va n pc dr : Nat} {ad : Nat → Nat} {as : Nat → List Nat} {os : Nat → List mO} (ix w pl : Int32) (hX : isX6 G h x buf rd bks oq rw orw bl off cur und bk) (hc : cur < 10) (hu : und ≤ 8) (hn : n ≤ 64) (hB : isBk G h (bk cur) va n pc dr ad) (hD : isDat h n ad as os) (hro : rw ≠ orw) (hsc : scr G h rw orw oq) : gCX G z0 l yX6_value wsX6_value 7 112 [.ref x, .int ix, .int w, .int pl] h (fun v h' => ∃ j k, j < n ∧ k < 7 ∧ ix = nI j ∧ w = nI k ∧ qPost G h rw orw oq (.int (if k = 0 then vAt pl (wVals (os j)) 0 else vAt pl (qList (qOf (os j)).1 k) 0)) v h') (xPost G h rw orw oq (fun E => (E = "java/lang/IndexOutOfBoundsException" ∧ ¬ iR ix n) ∨ (E = "java/lang/IllegalArgumentException" ∧ iR ix n ∧ ¬ iR w 7))) 2 12 := by
  obtain ⟨hx, fb, hbks, hfb⟩ := id hX
  obtain ⟨hb, f, hva, hf⟩ := id hB
  obtain ⟨⟨f0, hrw⟩, ⟨g0, horw⟩, oa, ob, oc, od, hoq⟩ := id hsc
  refine gCX_of hst (cc := cX6_value) (nL := 6) (ret := (some .int)) (by decide) rfl (Nat.le_of_ble_eq_true rfl) ?_
  intro X F E EX _
  change gF G z0 X cX6_value 6 RX6 wsX6_value (some .int) "value" 7 112 _ _ at F
  show gV G z0 X 0 0 h 0 [(0, .ref x), (1, .int ix), (2, .int w), (3, .int pl)] []
  refine v_aload_n (pc' := 1) F dX6_value_0 rfl (j := 0) rfl rfl ?_
  refine v_iload_n (pc' := 2) F dX6_value_1 rfl (j := 1) rfl rfl ?_
  refine v_callVX (pc' := 5) (rt := (some (.object "SteadyQueues$Version"))) (mcc := 1) (msc := 6) (As := [.int ix]) (st := []) F EX (fun l hst => c_X6_needVersion G z0 l hst ix hX hc hu hn hB) (fun E h' q => ⟨Or.inl ⟨q.2.1, q.2.2⟩, by rw [q.1]; exact hsc, by rw [q.1]; exact gfr.rf⟩) gX6_value_X6_needVersion rfl hv_X6_needVersion (by decide) (by decide) hx rfl rfl rfl (Nat.le_of_ble_eq_true rfl) (by omega) (by omega) dX6_value_2 rfl (fun v1 h hq => ?_)
  obtain ⟨j, hj, rfl, rfl, rfl⟩ := hq
  obtain ⟨tj, aj, bj, hvj, hfaj, hfbj, hTj, x3j, x4j, x5j, x6j, htj⟩ := (hD.x j hj).obj
  refine v_astore (pc' := 7) (i := 4) (L' := [(4, .ref (ad j)), (0, .ref x), (1, .int (nI j)), (2, .int w), (3, .int pl)]) F dX6_value_5  (by decide) rfl rfl ?_
  refine v_iload_n (pc' := 8) F dX6_value_7 rfl (j := 3) rfl rfl ?_
  rcases pk_ix w (n := 7) (by omega) with h1 | h1 | ⟨k, hk, rfl⟩
  · refine v_if_lt (tgt := 17) (pc' := 11) F dX6_value_8 (by decide) rfl (fun _ => ?_) (fun c0 => absurd h1 c0)
    have fr2 : gfr [rw, orw, oq] h h := gfr.rf
    exact v_throw F EX (E := "java/lang/IllegalArgumentException") (text := "no such list") (num := 6) hv_th_RX6_65_69 m_X6_value_c65 m_X6_value_iniIAE m_X6_value_atIAE (by decide +kernel) dX6_value_17 rfl dX6_value_20 rfl dX6_value_21 rfl dX6_value_23 rfl dX6_value_26 (by decide) (Nat.le_of_ble_eq_true rfl) (by omega) (by omega) ⟨Or.inr ⟨rfl, ⟨j, hj, rfl⟩, iR_neg (by omega) h1⟩, ⟨⟨_, hrw⟩, ⟨_, horw⟩, _, _, _, _, hoq⟩, fr2⟩
  · refine v_if_lt (tgt := 17) (pc' := 11) F dX6_value_8 (by decide) rfl (fun c1 => ?_) (fun c1 => ?_)
    · have fr3 : gfr [rw, orw, oq] h h := gfr.rf
      exact v_throw F EX (E := "java/lang/IllegalArgumentException") (text := "no such list") (num := 6) hv_th_RX6_65_69 m_X6_value_c65 m_X6_value_iniIAE m_X6_value_atIAE (by decide +kernel) dX6_value_17 rfl dX6_value_20 rfl dX6_value_21 rfl dX6_value_23 rfl dX6_value_26 (by decide) (Nat.le_of_ble_eq_true rfl) (by omega) (by omega) ⟨Or.inr ⟨rfl, ⟨j, hj, rfl⟩, iR_ge (by omega) h1⟩, ⟨⟨_, hrw⟩, ⟨_, horw⟩, _, _, _, _, hoq⟩, fr3⟩
    · refine v_iload_n (pc' := 12) F dX6_value_11 rfl (j := 3) rfl rfl ?_
      refine v_bipush (pc' := 14) (v := nI 7) F dX6_value_12 (by decide) rfl ?_
      refine v_icmp_lt (tgt := 27) (pc' := 17) F dX6_value_14 (by decide) rfl (fun c0 => absurd c0 (Int32.not_lt.mpr h1)) (fun _ => ?_)
      have fr4 : gfr [rw, orw, oq] h h := gfr.rf
      exact v_throw F EX (E := "java/lang/IllegalArgumentException") (text := "no such list") (num := 6) hv_th_RX6_65_69 m_X6_value_c65 m_X6_value_iniIAE m_X6_value_atIAE (by decide +kernel) dX6_value_17 rfl dX6_value_20 rfl dX6_value_21 rfl dX6_value_23 rfl dX6_value_26 (by decide) (Nat.le_of_ble_eq_true rfl) (by omega) (by omega) ⟨Or.inr ⟨rfl, ⟨j, hj, rfl⟩, iR_ge (by omega) h1⟩, ⟨⟨_, hrw⟩, ⟨_, horw⟩, _, _, _, _, hoq⟩, fr4⟩
  · refine w_if_lt (tgt := 17) (pc' := 11) F (by omega) dX6_value_8 (by decide) rfl (fun c0 => absurd c0 (by omega)) (fun _ => ?_)
    refine v_iload_n (pc' := 12) F dX6_value_11 rfl (j := 3) rfl rfl ?_
    refine v_bipush (pc' := 14) (v := nI 7) F dX6_value_12 (by decide) rfl ?_
    refine w_icmp_lt (tgt := 27) (pc' := 17) F (by omega) (by omega) dX6_value_14 (by decide) rfl (fun _ => ?_) (fun c0 => absurd c0 (by omega))
    refine v_iload_n (pc' := 28) F dX6_value_27 rfl (j := 3) rfl rfl ?_
    refine w_if_le (tgt := 42) (pc' := 31) F (by omega) dX6_value_28 (by decide) rfl (fun c1 => ?_) (fun c1 => ?_)
    · refine v_aload (pc' := 44) F dX6_value_42  (j := 0) rfl rfl ?_
      refine v_aload_n (pc' := 45) F dX6_value_44 rfl (j := 1) rfl rfl ?_
      refine v_getf (pc' := 48) (v := .ref rw) F k_X6_value_6 hx 4 (by decide) m_X6_value_f33 rfl dX6_value_45 rfl ?_
      have hO1 := (hD j hj).2
      have hQ1 := (qOf_J hO1.1).vals
      refine v_callV (pc' := 51) (rt := (some .int)) (mcc := 0) (msc := 0) (As := [.ref rw]) (st := []) F (fun l => c_X5_valuesInto G z0 l (by omega) (b := (os j).length) (by omega) (qOf_J hO1.1) (hD.x j hj).choose_spec hrw) gX6_value_X5_valuesInto rfl hv_X5_valuesInto (by decide) (by decide) hvj rfl rfl rfl (Nat.le_of_ble_eq_true rfl) (by omega) (by omega) dX6_value_48 rfl (fun v6 h5 hq => ?_)
      obtain ⟨rfl, f1, w1, g1, k1⟩ := hq
      rw [hQ1] at g1 ⊢
      have hlv1 := wVals_le (os j)
      have pv1 := gfr.pv k1 (by intro a9 m9 ci9 fs9 c9 z9; rw [List.mem_singleton.mp m9, hrw] at z9; cases z9)
      refine v_istore (pc' := 53) (i := 5) (L' := [(5, .int (nI ((wVals (os j)).length))), (4, .ref (ad j)), (0, .ref x), (1, .int (nI j)), (2, .int (nI k)), (3, .int pl)]) F dX6_value_51  (by decide) rfl rfl ?_
      refine v_iload_n (pc' := 54) F dX6_value_53 rfl (j := 5) rfl rfl ?_
      rcases pk_ix pl (n := (wVals (os j)).length) (by omega) with h1 | h1 | ⟨m, hm, rfl⟩
      · refine v_if_lt (tgt := 72) (pc' := 57) F dX6_value_54 (by decide) rfl (fun _ => ?_) (fun c0 => absurd h1 c0)
        refine v_iconst (pc' := 73) (v := (-1)) F dX6_value_72 (by decide) rfl ?_
        have fr7 : gfr [rw, orw, oq] h h5 := (gfr.mono k1 (by intro q9 z9 m9; apply z9; simp only [List.mem_cons, List.not_mem_nil, or_false] at m9 ⊢; omega))
        have g8 := k1 _ _ (gnc hro.symm gn0) horw
        have g9 := k1 _ _ (gnc (g_neA hoq hrw) gn0) hoq
        exact v_iret F E (by omega) (by omega)  dX6_value_73 ⟨j, k, hj, hk, rfl, rfl, by rw [if_pos (by omega), vAt_out (fun j9 _ h9 e => iR_neg (n := (wVals (os j)).length) (by omega) h1 ⟨j9, by omega, e⟩)], ⟨⟨_, w1⟩, ⟨_, g8⟩, _, _, _, _, g9⟩, fr7⟩
      · refine v_if_lt (tgt := 72) (pc' := 57) F dX6_value_54 (by decide) rfl (fun c2 => ?_) (fun c2 => ?_)
        · refine v_iconst (pc' := 73) (v := (-1)) F dX6_value_72 (by decide) rfl ?_
          have fr10 : gfr [rw, orw, oq] h h5 := (gfr.mono k1 (by intro q9 z9 m9; apply z9; simp only [List.mem_cons, List.not_mem_nil, or_false] at m9 ⊢; omega))
          have g11 := k1 _ _ (gnc hro.symm gn0) horw
          have g12 := k1 _ _ (gnc (g_neA hoq hrw) gn0) hoq
          exact v_iret F E (by omega) (by omega)  dX6_value_73 ⟨j, k, hj, hk, rfl, rfl, by rw [if_pos (by omega), vAt_out (fun j9 _ h9 e => iR_ge (n := (wVals (os j)).length) (by omega) h1 ⟨j9, by omega, e⟩)], ⟨⟨_, w1⟩, ⟨_, g11⟩, _, _, _, _, g12⟩, fr10⟩
        · refine v_iload_n (pc' := 58) F dX6_value_57 rfl (j := 5) rfl rfl ?_
          refine v_iload (pc' := 60) F dX6_value_58  (j := 0) rfl rfl ?_
          refine v_icmp_ge (tgt := 72) (pc' := 63) F dX6_value_60 (by decide) rfl (fun _ => ?_) (fun c0 => (c0 h1).elim)
          refine v_iconst (pc' := 73) (v := (-1)) F dX6_value_72 (by decide) rfl ?_
          have fr13 : gfr [rw, orw, oq] h h5 := (gfr.mono k1 (by intro q9 z9 m9; apply z9; simp only [List.mem_cons, List.not_mem_nil, or_false] at m9 ⊢; omega))
          have g14 := k1 _ _ (gnc hro.symm gn0) horw
          have g15 := k1 _ _ (gnc (g_neA hoq hrw) gn0) hoq
          exact v_iret F E (by omega) (by omega)  dX6_value_73 ⟨j, k, hj, hk, rfl, rfl, by rw [if_pos (by omega), vAt_out (fun j9 _ h9 e => iR_ge (n := (wVals (os j)).length) (by omega) h1 ⟨j9, by omega, e⟩)], ⟨⟨_, w1⟩, ⟨_, g14⟩, _, _, _, _, g15⟩, fr13⟩
      · refine w_if_lt (tgt := 72) (pc' := 57) F (by omega) dX6_value_54 (by decide) rfl (fun c0 => absurd c0 (by omega)) (fun _ => ?_)
        refine v_iload_n (pc' := 58) F dX6_value_57 rfl (j := 5) rfl rfl ?_
        refine v_iload (pc' := 60) F dX6_value_58  (j := 0) rfl rfl ?_
        refine w_icmp_ge (tgt := 72) (pc' := 63) F (by omega) (by omega) dX6_value_60 (by decide) rfl (fun c0 => absurd c0 (by omega)) (fun _ => ?_)
        refine v_aload_n (pc' := 64) F dX6_value_63 rfl (j := 2) rfl rfl ?_
        have g16 := k1 _ _ (gnc (g_neA hx hrw) gn0) hx
        refine v_getf (pc' := 67) (v := .ref rw) F k_X6_value_6 g16 4 (by decide) m_X6_value_f33 rfl dX6_value_64 rfl ?_
        refine v_iload_n (pc' := 68) F dX6_value_67 rfl (j := 5) rfl rfl ?_
        refine w_iald (pc' := 69) (v := (wVals (os j)).getD m 0) F w1 (by omega) (by omega) (g1.getD hm) dX6_value_68 rfl ?_
        refine v_goto (tgt := 73) F dX6_value_69 (by decide) ?_
        have fr17 : gfr [rw, orw, oq] h h5 := (gfr.mono k1 (by intro q9 z9 m9; apply z9; simp only [List.mem_cons, List.not_mem_nil, or_false] at m9 ⊢; omega))
        have g18 := k1 _ _ (gnc hro.symm gn0) horw
        have g19 := k1 _ _ (gnc (g_neA hoq hrw) gn0) hoq
        exact v_iret F E (by omega) (by omega)  dX6_value_73 ⟨j, k, hj, hk, rfl, rfl, by rw [if_pos (by omega), show nI m = nI (0 + m) by rw [Nat.zero_add], vAt_in hm (by omega)], ⟨⟨_, w1⟩, ⟨_, g18⟩, _, _, _, _, g19⟩, fr17⟩
    · refine v_aload (pc' := 33) F dX6_value_31  (j := 0) rfl rfl ?_
      refine v_iload_n (pc' := 34) F dX6_value_33 rfl (j := 3) rfl rfl ?_
      refine v_callV (pc' := 37) (rt := (some (.object "SteadyQueues$Cell"))) (mcc := 0) (msc := 0) (As := [.int (nI k)]) (st := []) F (fun l => c_X5_listOf G z0 l ⟨by omega, by omega⟩ (hD.x j hj).choose_spec) gX6_value_X5_listOf rfl hv_X5_listOf (by decide) (by decide) hvj rfl rfl rfl (Nat.le_of_ble_eq_true rfl) (by omega) (by omega) dX6_value_34 rfl (fun v20 h hq => ?_)
      obtain ⟨r9, rfl, hr9, rfl⟩ := hq
      refine v_iload_n (pc' := 38) F dX6_value_37 rfl (j := 4) rfl rfl ?_
      have hq9 := qList_le (k := k) (hD j hj).2.1
      have hl9 := (hD j hj).2.2
      refine v_callS (pc' := 41) (rt := (some .int)) (mcc := 0) (msc := 0) (As := [va_rf r9, .int pl]) (st := []) F (fun l => c_X1_valueAt G z0 l pl hr9 (by omega)) gX6_value_X1_valueAt rfl hd_X1_valueAt (by decide) (by decide) rfl rfl (Nat.le_of_ble_eq_true rfl) (by omega) (by omega) dX6_value_38 rfl (fun v21 h hq => ?_)
      obtain ⟨rfl, rfl⟩ := hq
      have fr22 : gfr [rw, orw, oq] h h := gfr.rf
      exact v_iret F E (by omega) (by omega)  dX6_value_41 ⟨j, k, hj, hk, rfl, rfl, by rw [if_neg (by omega)], ⟨⟨_, hrw⟩, ⟨_, horw⟩, _, _, _, _, hoq⟩, fr22⟩
