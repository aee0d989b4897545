theorem bR2 {x : Int32} {len : Nat} (hl : len < 2147483648) : (nI 0 ≤ x ∧ x ≤ nI len - nI 1) ↔ iR x len := by
  rcases Nat.eq_zero_or_pos len with e | e
  · subst e
    constructor
    · intro ⟨a, b⟩
      exact absurd (Int32.le_trans a b) (by decide)
    · rintro ⟨j, hj, -⟩
      exact absurd hj (Nat.not_lt_zero j)
  · rw [g_subn (show 1 ≤ len from e) rfl]
    exact bR_iff e hl
theorem vAt_at {ys : List Int32} {j : Nat} (h : j < ys.length) (hl : ys.length < 100) : vAt (nI j) ys 0 = ys.getD j 0 := by
  have := vAt_in (xs := ys) (j := j) (k := 0) h (by omega)
  rwa [Nat.zero_add] at this
theorem vAt_no {pl : Int32} {ys : List Int32} (h : ¬ iR pl ys.length) : vAt pl ys 0 = -1 := vAt_out (fun j _ h2 e => h ⟨j, by omega, e⟩)
theorem qL_ls {ls : Nat → List Int32} {q : mQ} (hk : q.2.2.2.2.1 ≠ 3) (h : mdT ls q.1 q.2.1 q.2.2.2.2) {k : Nat} (h1 : 1 ≤ k) (h2 : k ≤ 6) : ls (k - 1) = qList q k := by
  obtain ⟨f, r, fl, rl, kd, ok, oF, nF, oR, nR⟩ := q
  obtain ⟨q0, q1, q2, q3, q4, q5⟩ := h
  rcases (show k = 1 ∨ k = 2 ∨ k = 3 ∨ k = 4 ∨ k = 5 ∨ k = 6 by omega) with rfl | rfl | rfl | rfl | rfl | rfl
  · exact q0
  · exact q1
  · exact q2
  · exact q3 hk
  · exact q4
  · exact q5
theorem qJ.old {b : Nat} {xs : List Int32} {q : mQ} (h : qJ b xs q) (hk : q.2.2.2.2.1 = 2) : qList q 3 = [] ∧ qList q 5 = [] := by
  obtain ⟨f, r, fl, rl, k, ok, oF, nF, oR, nR⟩ := q
  obtain ⟨⟨h1, h2, h3, h4, h5⟩, -⟩ := h
  change k = 2 at hk
  subst hk
  rcases h5 with ⟨z, -⟩ | ⟨z, -⟩ | ⟨-, -, -, -, e1, e2, -⟩ | ⟨z, -⟩
  · exact absurd z (by decide)
  · exact absurd z (by decide)
  · exact ⟨e1, e2⟩
  · exact absurd z (by decide)
theorem k_X7_manyIn_7 : gCl wsX7_manyIn 7 RX7 TX7 26 := ⟨by decide +kernel, rfl⟩
theorem m_X7_manyIn_f79 : Cond.fieldLink RX7 79 "SteadyQueuesModel" "kind" "I" ∈ wsX7_manyIn := by decide +kernel
theorem m_X7_manyIn_f19 : Cond.fieldLink RX7 19 "SteadyQueuesModel" "many" "[I" ∈ wsX7_manyIn := by decide +kernel
set_option maxHeartbeats 4000000 in
set_option maxRecDepth 100000 in
theorem c_X7_manyIn (G : gG) (z0 : Nat) (l : Launch) {h : gH} {m rows asd vals many way told oth lst text : Nat} {th now und fl rl ok st wm fed len spot fa fat num frm may : Int32} {kd : Nat} {M V : Nat → Int32} {ls : Nat → List Int32} {L : Nat} (hm : h m = some (.inr (7, [.int th, .ref rows, .ref asd, .int now, .int und, .ref vals, .ref many, .int fl, .int rl, .int (nI kd), .int ok, .int st, .ref way, .int wm, .ref told, .ref oth, .ref lst, .ref text, .int fed, .int len, .int spot, .int fa, .int fat, .int num, .int frm, .int may]))) (hmany : h many = some (oI G 6 M)) (hls : mdL V M ls) (hL : L < 6) (hkd : kd < 4) (h0 : kd = 2 → (L = 2 ∨ L = 4) → ls L = []) : gC G z0 l yX7_manyIn wsX7_manyIn 0 0 [.ref m, .int (nI L)] h (fun v h' => v = some (.int (nI (ls L).length)) ∧ h' = h) 0 0 := by
  have hM := (hls L hL).1
  have hM2 := (hls L hL).2.1
  refine gC_of (cc := cX7_manyIn) (nL := 2) (ret := (some .int)) (by decide) rfl (Nat.le_of_ble_eq_true rfl) ?_
  intro X F E _
  change gF G z0 X cX7_manyIn 2 RX7 wsX7_manyIn (some .int) "manyIn" 0 0 _ _ at F
  show gV G z0 X 0 0 h 0 [(0, .ref m), (1, .int (nI L))] []
  refine v_aload_n (pc' := 1) F dX7_manyIn_0 rfl (j := 0) rfl rfl ?_
  refine v_getf (pc' := 4) (v := .int (nI kd)) F k_X7_manyIn_7 hm 9 (by decide) m_X7_manyIn_f79 rfl dX7_manyIn_1 rfl ?_
  refine v_iconst (pc' := 5) (v := nI 2) F dX7_manyIn_4 (by decide) rfl ?_
  refine w_icmp_ne (tgt := 22) (pc' := 8) F (by omega) (by omega) dX7_manyIn_5 (by decide) rfl (fun c0 => ?_) (fun c0 => ?_)
  · refine v_aload_n (pc' := 23) F dX7_manyIn_22 rfl (j := 0) rfl rfl ?_
    refine v_getf (pc' := 26) (v := .ref many) F k_X7_manyIn_7 hm 6 (by decide) m_X7_manyIn_f19 rfl dX7_manyIn_23 rfl ?_
    refine v_iload_n (pc' := 27) F dX7_manyIn_26 rfl (j := 1) rfl rfl ?_
    refine w_iald (pc' := 28) (v := nI ((ls L).length)) F hmany (by omega) (by omega) hM dX7_manyIn_27 rfl ?_
    exact v_iret F E (by omega) (by omega)  dX7_manyIn_28 ⟨rfl, rfl⟩
  · refine v_iload_n (pc' := 9) F dX7_manyIn_8 rfl (j := 1) rfl rfl ?_
    refine v_iconst (pc' := 10) (v := nI 2) F dX7_manyIn_9 (by decide) rfl ?_
    refine w_icmp_eq (tgt := 18) (pc' := 13) F (by omega) (by omega) dX7_manyIn_10 (by decide) rfl (fun c1 => ?_) (fun c1 => ?_)
    · have e0 : ls L = [] := h0 (by omega) (by omega)
      refine v_iconst (pc' := 19) (v := nI 0) F dX7_manyIn_18 (by decide) rfl ?_
      refine v_goto (tgt := 28) F dX7_manyIn_19 (by decide) ?_
      exact v_iret F E (by omega) (by omega)  dX7_manyIn_28 ⟨by rw [e0]; rfl, rfl⟩
    · refine v_iload_n (pc' := 14) F dX7_manyIn_13 rfl (j := 1) rfl rfl ?_
      refine v_iconst (pc' := 15) (v := nI 4) F dX7_manyIn_14 (by decide) rfl ?_
      refine w_icmp_ne (tgt := 22) (pc' := 18) F (by omega) (by omega) dX7_manyIn_15 (by decide) rfl (fun c2 => ?_) (fun c2 => ?_)
      · refine v_aload_n (pc' := 23) F dX7_manyIn_22 rfl (j := 0) rfl rfl ?_
        refine v_getf (pc' := 26) (v := .ref many) F k_X7_manyIn_7 hm 6 (by decide) m_X7_manyIn_f19 rfl dX7_manyIn_23 rfl ?_
        refine v_iload_n (pc' := 27) F dX7_manyIn_26 rfl (j := 1) rfl rfl ?_
        refine w_iald (pc' := 28) (v := nI ((ls L).length)) F hmany (by omega) (by omega) hM dX7_manyIn_27 rfl ?_
        exact v_iret F E (by omega) (by omega)  dX7_manyIn_28 ⟨rfl, rfl⟩
      · have e0 : ls L = [] := h0 (by omega) (by omega)
        refine v_iconst (pc' := 19) (v := nI 0) F dX7_manyIn_18 (by decide) rfl ?_
        refine v_goto (tgt := 28) F dX7_manyIn_19 (by decide) ?_
        exact v_iret F E (by omega) (by omega)  dX7_manyIn_28 ⟨by rw [e0]; rfl, rfl⟩
theorem k_X7_valueOf_7 : gCl wsX7_valueOf 7 RX7 TX7 26 := ⟨by decide +kernel, rfl⟩
theorem m_X7_valueOf_f25 : Cond.fieldLink RX7 25 "SteadyQueuesModel" "told" "[I" ∈ wsX7_valueOf := by decide +kernel
set_option maxHeartbeats 4000000 in
set_option maxRecDepth 100000 in
theorem c0_X7_valueOf (G : gG) (z0 : Nat) (l : Launch) {h : gH} {m rows asd vals many way told oth lst text now : Nat} {th und fed len spot fa fat num frm may : Int32} {R : Nat → Int32} {D : Dt} {v : Nat} (pl : Int32) (hMS : mS G h m rows asd vals many way told oth lst text th now und fed len spot fa fat num frm may R) (hnow : now < 9) (w9 : wfD D) (hS : slD R (330 * now) D) (hv : v < D.1) : gC G z0 l yX7_valueOf wsX7_valueOf 5 112 [.ref m, .int (nI v), .int (nI 0), .int pl] h (fun o h' => o = some (.int (vAt pl (wVals (D.2.2.2.2 v)) 0)) ∧ mS G h' m rows asd vals many way told oth lst text th now und fed len spot fa fat num frm may R ∧ gfr [m, vals, many, way, told, oth, lst] h h') 0 0 := by
  have h1n := w9.1
  have hn64 := w9.2.1
  have hMS0 := hMS
  obtain ⟨fl, rl, kd, ok, st, wm, hm, hrows, ⟨V, hvals⟩, ⟨M, hmany⟩, ⟨W, hway⟩, ⟨f, htold⟩, ⟨g, hoth⟩, ⟨ll, hlst⟩, htw, how, hto⟩ := hMS
  have hwl := wVals_lt w9 hv
  rcases Classical.em (iR pl (wVals (D.2.2.2.2 v)).length) with hp9 | hp9
  · obtain ⟨j, hj, rfl⟩ := hp9
    refine gC_of (cc := cX7_valueOf) (nL := 4) (ret := (some .int)) (by decide) rfl (Nat.le_of_ble_eq_true rfl) ?_
    intro X F E _
    change gF G z0 X cX7_valueOf 4 RX7 wsX7_valueOf (some .int) "valueOf" 5 112 _ _ at F
    show gV G z0 X 0 0 h 0 [(0, .ref m), (1, .int (nI v)), (2, .int (nI 0)), (3, .int (nI j))] []
    refine v_iload_n (pc' := 1) F dX7_valueOf_0 rfl (j := 2) rfl rfl ?_
    refine w_if_ne (tgt := 28) (pc' := 4) F (by omega) dX7_valueOf_1 (by decide) rfl (fun c0 => absurd c0 (by omega)) (fun _ => ?_)
    refine v_iload_n (pc' := 5) F dX7_valueOf_4 rfl (j := 3) rfl rfl ?_
    refine w_if_lt (tgt := 26) (pc' := 8) F (by omega) dX7_valueOf_5 (by decide) rfl (fun c0 => absurd c0 (by omega)) (fun _ => ?_)
    refine v_iload_n (pc' := 9) F dX7_valueOf_8 rfl (j := 3) rfl rfl ?_
    refine v_aload_n (pc' := 10) F dX7_valueOf_9 rfl (j := 0) rfl rfl ?_
    refine v_iload_n (pc' := 11) F dX7_valueOf_10 rfl (j := 1) rfl rfl ?_
    refine v_callV (pc' := 14) (rt := (some .int)) (mcc := 0) (msc := 0) (As := [.int (nI v)]) (st := [.int (nI j)]) F (fun l => s_X7_length G z0 l hMS0 hnow w9 hS hv) gX7_valueOf_X7_length rfl hv_X7_length (by decide) (by decide) hm rfl rfl rfl (Nat.le_of_ble_eq_true rfl) (by omega) (by omega) dX7_valueOf_11 rfl (fun v2 h1 hqc => ?_)
    obtain ⟨rfl, hMA, ⟨fT, htT, hfT⟩, frA⟩ := hqc
    have hMA0 := hMA
    obtain ⟨fl2, rl2, kd2, ok2, st2, wm2, hm2, hrows2, ⟨V2, hvals2⟩, ⟨M2, hmany2⟩, ⟨W2, hway2⟩, ⟨f2, htold2⟩, ⟨g2, hoth2⟩, ⟨ll2, hlst2⟩, -, -, -⟩ := hMA
    refine w_icmp_ge (tgt := 26) (pc' := 17) F (by omega) (by omega) dX7_valueOf_14 (by decide) rfl (fun c0 => absurd c0 (by omega)) (fun _ => ?_)
    have hg9 := hfT j hj
    rw [Nat.zero_add] at hg9
    refine v_aload_n (pc' := 18) F dX7_valueOf_17 rfl (j := 0) rfl rfl ?_
    refine v_getf (pc' := 21) (v := .ref told) F k_X7_valueOf_7 hm2 14 (by decide) m_X7_valueOf_f25 rfl dX7_valueOf_18 rfl ?_
    refine v_iload_n (pc' := 22) F dX7_valueOf_21 rfl (j := 3) rfl rfl ?_
    refine w_iald (pc' := 23) (v := (wVals (D.2.2.2.2 v)).getD j 0) F htT (by omega) (by omega) hg9 dX7_valueOf_22 rfl ?_
    refine v_goto (tgt := 27) F dX7_valueOf_23 (by decide) ?_
    have fr3 : gfr [m, vals, many, way, told, oth, lst] h h1 := frA
    exact v_iret F E (by omega) (by omega)  dX7_valueOf_27 ⟨by rw [vAt_at hj (by omega)], hMA0, fr3⟩
  · skip
    refine gC_of (cc := cX7_valueOf) (nL := 4) (ret := (some .int)) (by decide) rfl (Nat.le_of_ble_eq_true rfl) ?_
    intro X F E _
    change gF G z0 X cX7_valueOf 4 RX7 wsX7_valueOf (some .int) "valueOf" 5 112 _ _ at F
    show gV G z0 X 0 0 h 0 [(0, .ref m), (1, .int (nI v)), (2, .int (nI 0)), (3, .int pl)] []
    refine v_iload_n (pc' := 1) F dX7_valueOf_0 rfl (j := 2) rfl rfl ?_
    refine w_if_ne (tgt := 28) (pc' := 4) F (by omega) dX7_valueOf_1 (by decide) rfl (fun c0 => absurd c0 (by omega)) (fun _ => ?_)
    refine v_iload_n (pc' := 5) F dX7_valueOf_4 rfl (j := 3) rfl rfl ?_
    refine v_if_lt (tgt := 26) (pc' := 8) F dX7_valueOf_5 (by decide) rfl (fun c0 => ?_) (fun c0 => ?_)
    · refine v_iconst (pc' := 27) (v := (-1)) F dX7_valueOf_26 (by decide) rfl ?_
      exact v_iret F E (by omega) (by omega)  dX7_valueOf_27 ⟨by rw [vAt_no hp9], hMS0, gfr.rf⟩
    · refine v_iload_n (pc' := 9) F dX7_valueOf_8 rfl (j := 3) rfl rfl ?_
      refine v_aload_n (pc' := 10) F dX7_valueOf_9 rfl (j := 0) rfl rfl ?_
      refine v_iload_n (pc' := 11) F dX7_valueOf_10 rfl (j := 1) rfl rfl ?_
      refine v_callV (pc' := 14) (rt := (some .int)) (mcc := 0) (msc := 0) (As := [.int (nI v)]) (st := [.int pl]) F (fun l => s_X7_length G z0 l hMS0 hnow w9 hS hv) gX7_valueOf_X7_length rfl hv_X7_length (by decide) (by decide) hm rfl rfl rfl (Nat.le_of_ble_eq_true rfl) (by omega) (by omega) dX7_valueOf_11 rfl (fun v2 h1 hqc => ?_)
      obtain ⟨rfl, hMA, ⟨fT, htT, hfT⟩, frA⟩ := hqc
      have hMA0 := hMA
      obtain ⟨fl2, rl2, kd2, ok2, st2, wm2, hm2, hrows2, ⟨V2, hvals2⟩, ⟨M2, hmany2⟩, ⟨W2, hway2⟩, ⟨f2, htold2⟩, ⟨g2, hoth2⟩, ⟨ll2, hlst2⟩, -, -, -⟩ := hMA
      rcases pk_ix pl (n := (wVals (D.2.2.2.2 v)).length) (by omega) with hz | hz | hz
      · exact absurd hz c0
      · skip
        refine v_icmp_ge (tgt := 26) (pc' := 17) F dX7_valueOf_14 (by decide) rfl (fun _ => ?_) (fun c0 => absurd hz c0)
        refine v_iconst (pc' := 27) (v := (-1)) F dX7_valueOf_26 (by decide) rfl ?_
        have fr3 : gfr [m, vals, many, way, told, oth, lst] h h1 := frA
        exact v_iret F E (by omega) (by omega)  dX7_valueOf_27 ⟨by rw [vAt_no hp9], hMA0, fr3⟩
      · exact absurd hz hp9
theorem hv_X7_manyIn : yX7_manyIn.cls = RX7 ∧ yX7_manyIn.cls ≠ "java/lang/invoke/MethodHandle" ∧ yX7_manyIn.cls ≠ "java/lang/invoke/VarHandle" ∧ (parseMethodDescriptor yX7_manyIn.desc).map (fun d => d.parameters.length) = some 1 := by decide +kernel
theorem m_X7_valueOf_f16 : Cond.fieldLink RX7 16 "SteadyQueuesModel" "values" "[I" ∈ wsX7_valueOf := by decide +kernel
theorem m_X7_valueOf_f19 : Cond.fieldLink RX7 19 "SteadyQueuesModel" "many" "[I" ∈ wsX7_valueOf := by decide +kernel
set_option maxHeartbeats 4000000 in
set_option maxRecDepth 100000 in
theorem c_X7_valueOf (G : gG) (z0 : Nat) (l : Launch) {h : gH} {m rows asd vals many way told oth lst text now : Nat} {th und fed len spot fa fat num frm may : Int32} {R : Nat → Int32} {D : Dt} {v k : Nat} (pl : Int32) (hMS : mS G h m rows asd vals many way told oth lst text th now und fed len spot fa fat num frm may R) (hnow : now < 9) (w9 : wfD D) (hS : slD R (330 * now) D) (hv : v < D.1) (h1 : 1 ≤ k) (h6 : k ≤ 6) : gC G z0 l yX7_valueOf wsX7_valueOf 5 112 [.ref m, .int (nI v), .int (nI k), .int pl] h (fun o h' => o = some (.int (vAt pl (qList (qOf (D.2.2.2.2 v)).1 k) 0)) ∧ mS G h' m rows asd vals many way told oth lst text th now und fed len spot fa fat num frm may R ∧ gfr [m, vals, many, way, told, oth, lst] h h') 0 0 := by
  have h1n := w9.1
  have hn64 := w9.2.1
  have hMS0 := hMS
  obtain ⟨fl, rl, kd, ok, st, wm, hm, hrows, ⟨V, hvals⟩, ⟨M, hmany⟩, ⟨W, hway⟩, ⟨f, htold⟩, ⟨g, hoth⟩, ⟨ll, hlst⟩, htw, how, hto⟩ := hMS
  have hOv := w9.os hv
  have hJ := qOf_J hOv.1
  have hkd := kd_lt hOv.1 hOv.2
  have hk3 := hJ.2.1
  refine gC_of (cc := cX7_valueOf) (nL := 4) (ret := (some .int)) (by decide) rfl (Nat.le_of_ble_eq_true rfl) ?_
  intro X F E _
  change gF G z0 X cX7_valueOf 4 RX7 wsX7_valueOf (some .int) "valueOf" 5 112 _ _ at F
  show gV G z0 X 0 0 h 0 [(0, .ref m), (1, .int (nI v)), (2, .int (nI k)), (3, .int pl)] []
  refine v_iload_n (pc' := 1) F dX7_valueOf_0 rfl (j := 2) rfl rfl ?_
  refine w_if_ne (tgt := 28) (pc' := 4) F (by omega) dX7_valueOf_1 (by decide) rfl (fun _ => ?_) (fun c0 => absurd c0 (by omega))
  refine v_aload_n (pc' := 29) F dX7_valueOf_28 rfl (j := 0) rfl rfl ?_
  refine v_iload_n (pc' := 30) F dX7_valueOf_29 rfl (j := 1) rfl rfl ?_
  refine v_callV (pc' := 33) (rt := none) (mcc := 0) (msc := 0) (As := [.int (nI v)]) (st := []) F (fun l => s_X7_lays G z0 l hMS0 hnow w9 hS hv) gX7_valueOf_X7_lays rfl hv_X7_lays (by decide) (by decide) hm rfl rfl rfl (Nat.le_of_ble_eq_true rfl) (by omega) (by omega) dX7_valueOf_30 rfl (fun v2 h1 hqc => ?_)
  obtain ⟨rfl, hLA, frA⟩ := hqc
  have hMA0 := hLA.s
  obtain ⟨wm3, hm3, hrows3, hq3, ⟨W3, hway3⟩, ⟨f3, htold3⟩, ⟨g3, hoth3⟩, ⟨ll3, hlst3⟩, -, -, -⟩ := hLA
  have hq3b := hq3
  obtain ⟨V3, M3, ls3, hvals3, hmany3, hls3, hT3⟩ := hq3b
  have hLs : ls3 (k - 1) = (qList (qOf (D.2.2.2.2 v)).1 k) := qL_ls hk3 hT3 (by omega) (by omega)
  have hMk := (hls3 (k - 1) (by omega)).1
  have hMb := (hls3 (k - 1) (by omega)).2.1
  rw [hLs] at hMk hMb
  have h00 : (qOf (D.2.2.2.2 v)).1.2.2.2.2.1 = 2 → (k - 1 = 2 ∨ k - 1 = 4) → ls3 (k - 1) = [] := fun z1 z2 => by
    rw [hLs]
    rcases z2 with z2 | z2
    · obtain rfl : k = 3 := by omega
      exact (hJ.old z1).1
    · obtain rfl : k = 5 := by omega
      exact (hJ.old z1).2
  refine v_iload_n (pc' := 34) F dX7_valueOf_33 rfl (j := 3) rfl rfl ?_
  refine v_iconst (pc' := 35) (v := nI 0) F dX7_valueOf_34 (by decide) rfl ?_
  refine v_aload_n (pc' := 36) F dX7_valueOf_35 rfl (j := 0) rfl rfl ?_
  refine v_iload_n (pc' := 37) F dX7_valueOf_36 rfl (j := 2) rfl rfl ?_
  refine v_iconst (pc' := 38) (v := nI 1) F dX7_valueOf_37 (by decide) rfl ?_
  refine v_isub (pc' := 39) (v := nI (k - 1)) F dX7_valueOf_38 (g_subn (by omega) (by omega)) rfl ?_
  refine v_callV (pc' := 42) (rt := (some .int)) (mcc := 0) (msc := 0) (As := [.int (nI (k - 1))]) (st := [.int (nI 0), .int pl]) F (fun l => c_X7_manyIn G z0 l (V := V3) hm3 hmany3 hls3 (by omega) hkd.1 h00) gX7_valueOf_X7_manyIn rfl hv_X7_manyIn (by decide) (by decide) hm3 rfl rfl rfl (Nat.le_of_ble_eq_true rfl) (by omega) (by omega) dX7_valueOf_39 rfl (fun v3 h1 hqm => ?_)
  rw [hLs] at hqm; obtain ⟨rfl, rfl⟩ := hqm
  refine v_iconst (pc' := 43) (v := nI 1) F dX7_valueOf_42 (by decide) rfl ?_
  refine v_isub (pc' := 44) (v := (nI ((qList (qOf (D.2.2.2.2 v)).1 k).length)) - (nI 1)) F dX7_valueOf_43 rfl rfl ?_
  rcases Classical.em (iR pl (qList (qOf (D.2.2.2.2 v)).1 k).length) with hp9 | hp9
  · skip
    have hi9 := (bR2 (by omega)).mpr hp9
    refine v_callS (pc' := 47) (rt := (some .boolean)) (mcc := 0) (msc := 0) (As := [.int pl, .int (nI 0), .int ((nI ((qList (qOf (D.2.2.2.2 v)).1 k).length)) - (nI 1))]) (st := []) F (fun l => c_X7_isIn G z0 l pl (nI 0) (nI (qList (qOf (D.2.2.2.2 v)).1 k).length - nI 1)) gX7_valueOf_X7_isIn rfl hd_X7_isIn (by decide) (by decide) rfl rfl (Nat.le_of_ble_eq_true rfl) (by omega) (by omega) dX7_valueOf_44 rfl (fun v4 h1 hqi => ?_)
    rw [if_pos hi9] at hqi; obtain ⟨rfl, rfl⟩ := hqi
    obtain ⟨j, hj, rfl⟩ := hp9
    have htop := hls3.top (L := k - 1) (k := j) (by omega) (by rw [hLs]; exact hj)
    rw [hLs] at htop
    refine w_if_eq (tgt := 77) (pc' := 50) F (by omega) dX7_valueOf_47 (by decide) rfl (fun c0 => absurd c0 (by omega)) (fun _ => ?_)
    refine v_aload_n (pc' := 51) F dX7_valueOf_50 rfl (j := 0) rfl rfl ?_
    refine v_getf (pc' := 54) (v := .ref vals) F k_X7_valueOf_7 hm3 5 (by decide) m_X7_valueOf_f16 rfl dX7_valueOf_51 rfl ?_
    refine v_bipush (pc' := 56) (v := nI 64) F dX7_valueOf_54 (by decide) rfl ?_
    refine v_iload_n (pc' := 57) F dX7_valueOf_56 rfl (j := 2) rfl rfl ?_
    refine v_iconst (pc' := 58) (v := nI 1) F dX7_valueOf_57 (by decide) rfl ?_
    refine v_isub (pc' := 59) (v := nI (k - 1)) F dX7_valueOf_58 (g_subn (by omega) (by omega)) rfl ?_
    refine v_imul (pc' := 60) (v := nI (64 * (k - 1))) F dX7_valueOf_59 (pk_mul 64 (k - 1)) rfl ?_
    refine v_aload_n (pc' := 61) F dX7_valueOf_60 rfl (j := 0) rfl rfl ?_
    refine v_getf (pc' := 64) (v := .ref many) F k_X7_valueOf_7 hm3 6 (by decide) m_X7_valueOf_f19 rfl dX7_valueOf_61 rfl ?_
    refine v_iload_n (pc' := 65) F dX7_valueOf_64 rfl (j := 2) rfl rfl ?_
    refine v_iconst (pc' := 66) (v := nI 1) F dX7_valueOf_65 (by decide) rfl ?_
    refine v_isub (pc' := 67) (v := nI (k - 1)) F dX7_valueOf_66 (g_subn (by omega) (by omega)) rfl ?_
    refine w_iald (pc' := 68) (v := nI ((qList (qOf (D.2.2.2.2 v)).1 k).length)) F hmany3 (by omega) (by omega) hMk dX7_valueOf_67 rfl ?_
    refine v_iadd (pc' := 69) (v := nI ((64 * (k - 1)) + ((qList (qOf (D.2.2.2.2 v)).1 k).length))) F dX7_valueOf_68 (nI_add (64 * (k - 1)) ((qList (qOf (D.2.2.2.2 v)).1 k).length)) rfl ?_
    refine v_iconst (pc' := 70) (v := nI 1) F dX7_valueOf_69 (by decide) rfl ?_
    refine v_isub (pc' := 71) (v := nI ((64 * (k - 1)) + ((qList (qOf (D.2.2.2.2 v)).1 k).length) - 1)) F dX7_valueOf_70 (g_subn (by omega) (by omega)) rfl ?_
    refine v_iload_n (pc' := 72) F dX7_valueOf_71 rfl (j := 3) rfl rfl ?_
    refine v_isub (pc' := 73) (v := nI ((64 * (k - 1)) + ((qList (qOf (D.2.2.2.2 v)).1 k).length) - 1 - j)) F dX7_valueOf_72 (g_subn (by omega) (by omega)) rfl ?_
    refine w_iald (pc' := 74) (v := (qList (qOf (D.2.2.2.2 v)).1 k).getD j 0) F hvals3 (by omega) (by omega) (by rw [show (64 * (k - 1)) + ((qList (qOf (D.2.2.2.2 v)).1 k).length) - 1 - j = 64 * (k - 1) + ((qList (qOf (D.2.2.2.2 v)).1 k).length - 1 - j) by omega]; exact htop) dX7_valueOf_73 rfl ?_
    refine v_goto (tgt := 78) F dX7_valueOf_74 (by decide) ?_
    have fr5 : gfr [m, vals, many, way, told, oth, lst] h h1 := frA
    exact v_iret F E (by omega) (by omega)  dX7_valueOf_78 ⟨by rw [vAt_at hj (by omega)], hMA0, fr5⟩
  · skip
    have hi9 := fun z => hp9 ((bR2 (by omega)).mp z)
    refine v_callS (pc' := 47) (rt := (some .boolean)) (mcc := 0) (msc := 0) (As := [.int pl, .int (nI 0), .int ((nI ((qList (qOf (D.2.2.2.2 v)).1 k).length)) - (nI 1))]) (st := []) F (fun l => c_X7_isIn G z0 l pl (nI 0) (nI (qList (qOf (D.2.2.2.2 v)).1 k).length - nI 1)) gX7_valueOf_X7_isIn rfl hd_X7_isIn (by decide) (by decide) rfl rfl (Nat.le_of_ble_eq_true rfl) (by omega) (by omega) dX7_valueOf_44 rfl (fun v6 h1 hqi => ?_)
    rw [if_neg hi9] at hqi; obtain ⟨rfl, rfl⟩ := hqi
    refine w_if_eq (tgt := 77) (pc' := 50) F (by omega) dX7_valueOf_47 (by decide) rfl (fun _ => ?_) (fun c0 => absurd c0 (by omega))
    refine v_iconst (pc' := 78) (v := (-1)) F dX7_valueOf_77 (by decide) rfl ?_
    have fr7 : gfr [m, vals, many, way, told, oth, lst] h h1 := frA
    exact v_iret F E (by omega) (by omega)  dX7_valueOf_78 ⟨by rw [vAt_no hp9], hMA0, fr7⟩
