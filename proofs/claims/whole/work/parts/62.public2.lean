theorem m_X7_first_f25 : Cond.fieldLink RX7 25 "SteadyQueuesModel" "told" "[I" ∈ wsX7_first := by decide +kernel
set_option maxHeartbeats 4000000 in
set_option maxRecDepth 100000 in
theorem c_X7_first (G : gG) (z0 : Nat) (l : Launch) {h : gH} {m rows asd vals many way told oth lst text now : Nat} {th und fed len spot fa fat num frm may : Int32} {R : Nat → Int32} {D : Dt} {j : Nat} (hMS : mS G h m rows asd vals many way told oth lst text th now und fed len spot fa fat num frm may R) (hnow : now < 9) (w9 : wfD D) (hS : slD R (330 * now) D) (hj : j < D.1) (hne : (wVals (D.2.2.2.2 j)) ≠ []) : gC G z0 l yX7_first wsX7_first 5 112 [.ref m, .int (nI j)] h (fun o h' => o = some (.int ((wVals (D.2.2.2.2 j)).getD 0 0)) ∧ mS G h' m rows asd vals many way told oth lst text (nI 0) now und fed len spot fa fat num frm may R ∧ gfr [m, vals, many, way, told, oth, lst] h h') 0 0 := by
  have h1n := w9.1
  have hn64 := w9.2.1
  have hMS0 := hMS
  obtain ⟨fl, rl, kd, ok, st, wm, hm, hrows, ⟨V, hvals⟩, ⟨M, hmany⟩, ⟨W, hway⟩, ⟨f, htold⟩, ⟨g, hoth⟩, ⟨ll, hlst⟩, htw, how, hto⟩ := hMS
  have hwl := wVals_lt w9 hj
  refine gC_of (cc := cX7_first) (nL := 2) (ret := (some .int)) (by decide) rfl (Nat.le_of_ble_eq_true rfl) ?_
  intro X F E _
  change gF G z0 X cX7_first 2 RX7 wsX7_first (some .int) "first" 5 112 _ _ at F
  show gV G z0 X 0 0 h 0 [(0, .ref m), (1, .int (nI j))] []
  refine v_aload_n (pc' := 1) F dX7_first_0 rfl (j := 0) rfl rfl ?_
  refine v_iconst (pc' := 2) (v := nI 0) F dX7_first_1 (by decide) rfl ?_
  refine w_putf (pc' := 5) F k_X7_first_7 tyX7_ok nmX7 hm 0 (by decide) m_X7_first_f44 rfl  rfl rfl (show 0 < 26 by decide) [.int (nI 0), .ref rows, .ref asd, .int (nI now), .int und, .ref vals, .ref many, .int fl, .int rl, .int kd, .int ok, .int st, .ref way, .int wm, .ref told, .ref oth, .ref lst, .ref text, .int fed, .int len, .int spot, .int fa, .int fat, .int num, .int frm, .int may] rfl dX7_first_2 rfl (fun h1 a2 f3 => ?_)
  refine v_aload_n (pc' := 6) F dX7_first_5 rfl (j := 0) rfl rfl ?_
  refine v_aload_n (pc' := 7) F dX7_first_6 rfl (j := 0) rfl rfl ?_
  refine v_iload_n (pc' := 8) F dX7_first_7 rfl (j := 1) rfl rfl ?_
  have hv9j : nI 0 ≤ nI j ∧ nI j ≤ nI (D.1 - 1) := (bR_iff h1n (by omega)).mpr ⟨j, hj, rfl⟩
  have g4 := f3 _ _ (gnc (Ne.symm (g_neA hm hrows)) gn0) hrows
  refine v_callV (pc' := 11) (rt := (some .boolean)) (mcc := 0) (msc := 0) (As := [.int (nI j)]) (st := [.ref m]) F (fun l => c_X7_isVersion G z0 l (nI j) a2 g4 hnow hS.1 h1n hn64) gX7_first_X7_isVersion rfl hv_X7_isVersion (by decide) (by decide) a2 rfl rfl rfl (Nat.le_of_ble_eq_true rfl) (by omega) (by omega) dX7_first_8 rfl (fun v5 h1 hqv => ?_)
  rw [if_pos hv9j] at hqv; obtain ⟨rfl, rfl⟩ := hqv
  refine v_iconst (pc' := 12) (v := nI 1) F dX7_first_11 (by decide) rfl ?_
  refine v_callV (pc' := 15) (rt := (some .boolean)) (mcc := 0) (msc := 0) (As := [.int (nI 1), .int (nI 1)]) (st := []) F (fun l => c_X7_right1 G z0 l (th := nI 0) (nI 1) (by decide) a2) gX7_first_X7_right rfl hv_X7_right (by decide) (by decide) a2 rfl rfl rfl (Nat.le_of_ble_eq_true rfl) (by omega) (by omega) dX7_first_12 rfl (fun v6 h1 hqr => ?_)
  obtain ⟨rfl, rfl⟩ := hqr
  refine w_if_eq (tgt := 39) (pc' := 18) F (by omega) dX7_first_15 (by decide) rfl (fun c0 => absurd c0 (by omega)) (fun _ => ?_)
  refine v_aload_n (pc' := 19) F dX7_first_18 rfl (j := 0) rfl rfl ?_
  refine v_aload_n (pc' := 20) F dX7_first_19 rfl (j := 0) rfl rfl ?_
  refine v_iload_n (pc' := 21) F dX7_first_20 rfl (j := 1) rfl rfl ?_
  have g7 := f3 _ _ (gnc (Ne.symm (g_neA hm hvals)) gn0) hvals
  have g8 := f3 _ _ (gnc (Ne.symm (g_neA hm hmany)) gn0) hmany
  have g9 := f3 _ _ (gnc (Ne.symm (g_neA hm hway)) gn0) hway
  have g10 := f3 _ _ (gnc (Ne.symm (g_neA hm htold)) gn0) htold
  have g11 := f3 _ _ (gnc (Ne.symm (g_neA hm hoth)) gn0) hoth
  have g12 := f3 _ _ (gnc (Ne.symm (g_neA hm hlst)) gn0) hlst
  refine v_callV (pc' := 24) (rt := (some .int)) (mcc := 0) (msc := 0) (As := [.int (nI j)]) (st := [.ref m]) F (fun l => s_X7_length G z0 l ⟨_, _, _, _, _, _, a2, g4, ⟨_, g7⟩, ⟨_, g8⟩, ⟨_, g9⟩, ⟨_, g10⟩, ⟨_, g11⟩, ⟨_, g12⟩, htw, how, hto⟩ hnow w9 hS hj) gX7_first_X7_length rfl hv_X7_length (by decide) (by decide) a2 rfl rfl rfl (Nat.le_of_ble_eq_true rfl) (by omega) (by omega) dX7_first_21 rfl (fun v14 h13 hqc => ?_)
  obtain ⟨rfl, hMA, ⟨fT, htT, hfT⟩, frA⟩ := hqc
  have hMA0 := hMA
  obtain ⟨fl2, rl2, kd2, ok2, st2, wm2, hm2, hrows2, ⟨V2, hvals2⟩, ⟨M2, hmany2⟩, ⟨W2, hway2⟩, ⟨f2, htold2⟩, ⟨g2, hoth2⟩, ⟨ll2, hlst2⟩, -, -, -⟩ := hMA
  have hpos : 0 < (wVals (D.2.2.2.2 j)).length := List.length_pos_iff.mpr hne
  refine w_if_le (tgt := 31) (pc' := 27) F (by omega) dX7_first_24 (by decide) rfl (fun c0 => absurd c0 (by omega)) (fun _ => ?_)
  have hg9 := hfT 0 hpos
  rw [Nat.zero_add] at hg9
  refine v_iconst (pc' := 28) (v := nI 1) F dX7_first_27 (by decide) rfl ?_
  refine v_goto (tgt := 32) F dX7_first_28 (by decide) ?_
  refine v_iconst (pc' := 33) (v := nI 2) F dX7_first_32 (by decide) rfl ?_
  refine v_callV (pc' := 36) (rt := (some .boolean)) (mcc := 0) (msc := 0) (As := [.int (nI 1), .int (nI 2)]) (st := []) F (fun l => c_X7_right1 G z0 l (th := nI 0) (nI 2) (by decide) hm2) gX7_first_X7_right rfl hv_X7_right (by decide) (by decide) hm2 rfl rfl rfl (Nat.le_of_ble_eq_true rfl) (by omega) (by omega) dX7_first_33 rfl (fun v15 h13 hqr => ?_)
  obtain ⟨rfl, rfl⟩ := hqr
  refine w_if_ne (tgt := 41) (pc' := 39) F (by omega) dX7_first_36 (by decide) rfl (fun _ => ?_) (fun c0 => absurd c0 (by omega))
  refine v_aload_n (pc' := 42) F dX7_first_41 rfl (j := 0) rfl rfl ?_
  refine v_getf (pc' := 45) (v := .ref told) F k_X7_first_7 hm2 14 (by decide) m_X7_first_f25 rfl dX7_first_42 rfl ?_
  refine v_iconst (pc' := 46) (v := nI 0) F dX7_first_45 (by decide) rfl ?_
  refine w_iald (pc' := 47) (v := (wVals (D.2.2.2.2 j)).getD 0 0) F htT (by omega) (by omega) hg9 dX7_first_46 rfl ?_
  have fr16 : gfr [m, vals, many, way, told, oth, lst] h h13 := (gfr.t (gfr.mono f3 (by intro q9 z9 m9; apply z9; simp only [List.mem_cons, List.not_mem_nil, or_false] at m9 ⊢; omega)) frA)
  exact v_iret F E (by omega) (by omega)  dX7_first_47 ⟨rfl, hMA0, fr16⟩
set_option maxHeartbeats 4000000 in
set_option maxRecDepth 100000 in
theorem o2_X7_first (G : gG) (z0 : Nat) (l : Launch) {h : gH} {m rows asd vals many way told oth lst text now : Nat} {th und fed len spot fa fat num frm may : Int32} {R : Nat → Int32} {D : Dt} {j : Nat} (hMS : mS G h m rows asd vals many way told oth lst text th now und fed len spot fa fat num frm may R) (hnow : now < 9) (w9 : wfD D) (hS : slD R (330 * now) D) (hj : j < D.1) (hne : (wVals (D.2.2.2.2 j)) = []) : gC G z0 l yX7_first wsX7_first 5 112 [.ref m, .int (nI j)] h (fun o h' => (∃ y9, o = some (.int y9)) ∧ mS G h' m rows asd vals many way told oth lst text (nI 2) now und fed len spot fa fat num frm may R ∧ gfr [m, vals, many, way, told, oth, lst] h h') 0 0 := by
  have h1n := w9.1
  have hn64 := w9.2.1
  have hMS0 := hMS
  obtain ⟨fl, rl, kd, ok, st, wm, hm, hrows, ⟨V, hvals⟩, ⟨M, hmany⟩, ⟨W, hway⟩, ⟨f, htold⟩, ⟨g, hoth⟩, ⟨ll, hlst⟩, htw, how, hto⟩ := hMS
  have hwl := wVals_lt w9 hj
  refine gC_of (cc := cX7_first) (nL := 2) (ret := (some .int)) (by decide) rfl (Nat.le_of_ble_eq_true rfl) ?_
  intro X F E _
  change gF G z0 X cX7_first 2 RX7 wsX7_first (some .int) "first" 5 112 _ _ at F
  show gV G z0 X 0 0 h 0 [(0, .ref m), (1, .int (nI j))] []
  refine v_aload_n (pc' := 1) F dX7_first_0 rfl (j := 0) rfl rfl ?_
  refine v_iconst (pc' := 2) (v := nI 0) F dX7_first_1 (by decide) rfl ?_
  refine w_putf (pc' := 5) F k_X7_first_7 tyX7_ok nmX7 hm 0 (by decide) m_X7_first_f44 rfl  rfl rfl (show 0 < 26 by decide) [.int (nI 0), .ref rows, .ref asd, .int (nI now), .int und, .ref vals, .ref many, .int fl, .int rl, .int kd, .int ok, .int st, .ref way, .int wm, .ref told, .ref oth, .ref lst, .ref text, .int fed, .int len, .int spot, .int fa, .int fat, .int num, .int frm, .int may] rfl dX7_first_2 rfl (fun h1 a2 f3 => ?_)
  refine v_aload_n (pc' := 6) F dX7_first_5 rfl (j := 0) rfl rfl ?_
  refine v_aload_n (pc' := 7) F dX7_first_6 rfl (j := 0) rfl rfl ?_
  refine v_iload_n (pc' := 8) F dX7_first_7 rfl (j := 1) rfl rfl ?_
  have hv9j : nI 0 ≤ nI j ∧ nI j ≤ nI (D.1 - 1) := (bR_iff h1n (by omega)).mpr ⟨j, hj, rfl⟩
  have g4 := f3 _ _ (gnc (Ne.symm (g_neA hm hrows)) gn0) hrows
  refine v_callV (pc' := 11) (rt := (some .boolean)) (mcc := 0) (msc := 0) (As := [.int (nI j)]) (st := [.ref m]) F (fun l => c_X7_isVersion G z0 l (nI j) a2 g4 hnow hS.1 h1n hn64) gX7_first_X7_isVersion rfl hv_X7_isVersion (by decide) (by decide) a2 rfl rfl rfl (Nat.le_of_ble_eq_true rfl) (by omega) (by omega) dX7_first_8 rfl (fun v5 h1 hqv => ?_)
  rw [if_pos hv9j] at hqv; obtain ⟨rfl, rfl⟩ := hqv
  refine v_iconst (pc' := 12) (v := nI 1) F dX7_first_11 (by decide) rfl ?_
  refine v_callV (pc' := 15) (rt := (some .boolean)) (mcc := 0) (msc := 0) (As := [.int (nI 1), .int (nI 1)]) (st := []) F (fun l => c_X7_right1 G z0 l (th := nI 0) (nI 1) (by decide) a2) gX7_first_X7_right rfl hv_X7_right (by decide) (by decide) a2 rfl rfl rfl (Nat.le_of_ble_eq_true rfl) (by omega) (by omega) dX7_first_12 rfl (fun v6 h1 hqr => ?_)
  obtain ⟨rfl, rfl⟩ := hqr
  refine w_if_eq (tgt := 39) (pc' := 18) F (by omega) dX7_first_15 (by decide) rfl (fun c0 => absurd c0 (by omega)) (fun _ => ?_)
  refine v_aload_n (pc' := 19) F dX7_first_18 rfl (j := 0) rfl rfl ?_
  refine v_aload_n (pc' := 20) F dX7_first_19 rfl (j := 0) rfl rfl ?_
  refine v_iload_n (pc' := 21) F dX7_first_20 rfl (j := 1) rfl rfl ?_
  have g7 := f3 _ _ (gnc (Ne.symm (g_neA hm hvals)) gn0) hvals
  have g8 := f3 _ _ (gnc (Ne.symm (g_neA hm hmany)) gn0) hmany
  have g9 := f3 _ _ (gnc (Ne.symm (g_neA hm hway)) gn0) hway
  have g10 := f3 _ _ (gnc (Ne.symm (g_neA hm htold)) gn0) htold
  have g11 := f3 _ _ (gnc (Ne.symm (g_neA hm hoth)) gn0) hoth
  have g12 := f3 _ _ (gnc (Ne.symm (g_neA hm hlst)) gn0) hlst
  refine v_callV (pc' := 24) (rt := (some .int)) (mcc := 0) (msc := 0) (As := [.int (nI j)]) (st := [.ref m]) F (fun l => s_X7_length G z0 l ⟨_, _, _, _, _, _, a2, g4, ⟨_, g7⟩, ⟨_, g8⟩, ⟨_, g9⟩, ⟨_, g10⟩, ⟨_, g11⟩, ⟨_, g12⟩, htw, how, hto⟩ hnow w9 hS hj) gX7_first_X7_length rfl hv_X7_length (by decide) (by decide) a2 rfl rfl rfl (Nat.le_of_ble_eq_true rfl) (by omega) (by omega) dX7_first_21 rfl (fun v14 h13 hqc => ?_)
  obtain ⟨rfl, hMA, ⟨fT, htT, hfT⟩, frA⟩ := hqc
  have hMA0 := hMA
  obtain ⟨fl2, rl2, kd2, ok2, st2, wm2, hm2, hrows2, ⟨V2, hvals2⟩, ⟨M2, hmany2⟩, ⟨W2, hway2⟩, ⟨f2, htold2⟩, ⟨g2, hoth2⟩, ⟨ll2, hlst2⟩, -, -, -⟩ := hMA
  have hz9 : (wVals (D.2.2.2.2 j)).length = 0 := by rw [hne]; rfl
  refine w_if_le (tgt := 31) (pc' := 27) F (by omega) dX7_first_24 (by decide) rfl (fun _ => ?_) (fun c0 => absurd c0 (by omega))
  refine v_iconst (pc' := 32) (v := nI 0) F dX7_first_31 (by decide) rfl ?_
  refine v_iconst (pc' := 33) (v := nI 2) F dX7_first_32 (by decide) rfl ?_
  refine v_callV (pc' := 36) (rt := (some .boolean)) (mcc := 0) (msc := 0) (As := [.int (nI 0), .int (nI 2)]) (st := []) F (fun l => c_X7_right0 G z0 l (th := nI 0) (nI 2) (by decide) hm2) gX7_first_X7_right rfl hv_X7_right (by decide) (by decide) hm2 rfl rfl rfl (Nat.le_of_ble_eq_true rfl) (by omega) (by omega) dX7_first_33 rfl (fun v16 h15 hqr => ?_)
  obtain ⟨rfl, hmR, frR⟩ := hqr
  refine w_if_ne (tgt := 41) (pc' := 39) F (by omega) dX7_first_36 (by decide) rfl (fun c0 => absurd c0 (by omega)) (fun _ => ?_)
  refine v_iconst (pc' := 40) (v := nI 0) F dX7_first_39 (by decide) rfl ?_
  have fr17 : gfr [m, vals, many, way, told, oth, lst] h h15 := (gfr.t (gfr.mono f3 (by intro q9 z9 m9; apply z9; simp only [List.mem_cons, List.not_mem_nil, or_false] at m9 ⊢; omega)) (gfr.t frA (gfr.mono frR (by intro q9 z9 m9; apply z9; simp only [List.mem_cons, List.not_mem_nil, or_false] at m9 ⊢; omega))))
  have g18 := frR _ _ (gnc (Ne.symm (g_neA hm2 hrows2)) gn0) hrows2
  have g19 := frR _ _ (gnc (Ne.symm (g_neA hm2 hvals2)) gn0) hvals2
  have g20 := frR _ _ (gnc (Ne.symm (g_neA hm2 hmany2)) gn0) hmany2
  have g21 := frR _ _ (gnc (Ne.symm (g_neA hm2 hway2)) gn0) hway2
  have g22 := frR _ _ (gnc (Ne.symm (g_neA hm2 htT)) gn0) htT
  have g23 := frR _ _ (gnc (Ne.symm (g_neA hm2 hoth2)) gn0) hoth2
  have g24 := frR _ _ (gnc (Ne.symm (g_neA hm2 hlst2)) gn0) hlst2
  exact v_iret F E (by omega) (by omega)  dX7_first_40 ⟨⟨_, rfl⟩, ⟨_, _, _, _, _, _, hmR, g18, ⟨_, g19⟩, ⟨_, g20⟩, ⟨_, g21⟩, ⟨_, g22⟩, ⟨_, g23⟩, ⟨_, g24⟩, htw, how, hto⟩, fr17⟩
theorem m_X7_find_f25 : Cond.fieldLink RX7 25 "SteadyQueuesModel" "told" "[I" ∈ wsX7_find := by decide +kernel
set_option maxHeartbeats 4000000 in
set_option maxRecDepth 100000 in
theorem lp_X7_find {G : gG} {z0 : Nat} {X : gX} {l : Launch} {post : Option Value → gH → Prop} {mc ms cells slots k N v : Nat} {h : gH} {m rows asd vals many way told oth lst text : Nat} {th now und fl rl kd ok st wm fed len spot fa fat num frm may : Int32} {y : Int32} {f : Nat → Int32} {ys : List Int32} (F : gF G z0 X cX7_find 5 RX7 wsX7_find (some .int) "find" 5 112 mc ms) (E : gE G z0 X post mc ms) (hcc : cells ≤ mc) (hss : slots ≤ ms) (hm : h m = some (.inr (7, [.int th, .ref rows, .ref asd, .int now, .int und, .ref vals, .ref many, .int fl, .int rl, .int kd, .int ok, .int st, .ref way, .int wm, .ref told, .ref oth, .ref lst, .ref text, .int fed, .int len, .int spot, .int fa, .int fat, .int num, .int frm, .int may]))) (htold : h told = some (oI G 64 f)) (hkn : k + ys.length = N) (hN : N ≤ 64) (hf : ∀ i, i < ys.length → f (k + i) = ys.getD i 0) (hp : post (some (.int (fnd y ys k))) h) : gV G z0 X cells slots h 29 [(4, .int (nI k)), (3, .int (nI N)), (2, .int y), (1, .int (nI v)), (0, .ref m)] [] := by
  induction ys generalizing k with
  | nil =>
    rw [List.length_nil] at hkn
    refine v_iload (pc' := 31) F dX7_find_29  (j := 0) rfl rfl ?_
    refine v_iload_n (pc' := 32) F dX7_find_31 rfl (j := 1) rfl rfl ?_
    refine w_icmp_ge (tgt := 55) (pc' := 35) F (by omega) (by omega) dX7_find_32 (by decide) rfl (fun _ => ?_) (fun c0 => absurd c0 (by omega))
    refine v_iconst (pc' := 56) (v := (-1)) F dX7_find_55 (by decide) rfl ?_
    exact v_iret F E (by omega) (by omega)  dX7_find_56 hp
  | cons y2 ys ih =>
    rw [List.length_cons] at hkn
    have hy := hf 0 (by simp)
    rw [Nat.add_zero] at hy
    change _ = y2 at hy
    refine v_iload (pc' := 31) F dX7_find_29  (j := 0) rfl rfl ?_
    refine v_iload_n (pc' := 32) F dX7_find_31 rfl (j := 1) rfl rfl ?_
    refine w_icmp_ge (tgt := 55) (pc' := 35) F (by omega) (by omega) dX7_find_32 (by decide) rfl (fun c0 => absurd c0 (by omega)) (fun _ => ?_)
    refine v_aload_n (pc' := 36) F dX7_find_35 rfl (j := 4) rfl rfl ?_
    refine v_getf (pc' := 39) (v := .ref told) F k_X7_find_7 hm 14 (by decide) m_X7_find_f25 rfl dX7_find_36 rfl ?_
    refine v_iload (pc' := 41) F dX7_find_39  (j := 0) rfl rfl ?_
    refine w_iald (pc' := 42) (v := y2) F htold (by omega) (by omega) hy dX7_find_41 rfl ?_
    refine v_iload_n (pc' := 43) F dX7_find_42 rfl (j := 2) rfl rfl ?_
    refine v_icmp_ne (tgt := 49) (pc' := 46) F dX7_find_43 (by decide) rfl (fun c0 => ?_) (fun c0 => ?_)
    · refine v_iinc (pc' := 52) (j := 0) (x := nI k) (v := nI (k + 1)) (L' := [(4, .int (nI (k + 1))), (3, .int (nI N)), (2, .int y), (1, .int (nI v)), (0, .ref m)]) F dX7_find_49 rfl (nI_add k 1) (by decide) rfl rfl ?_
      refine v_goto (tgt := 29) F dX7_find_52 (by decide) ?_
      refine v_sub (L' := [(4, .int (nI (k + 1))), (3, .int (nI N)), (2, .int y), (1, .int (nI v)), (0, .ref m)]) [0, 1, 2, 3, 4] rfl ?_
      exact ih (k := k + 1) (by omega) (fun i hi => by have := hf (i + 1) (by rw [List.length_cons]; omega); rw [show k + 1 + i = k + (i + 1) by omega]; exact this) (by rw [fnd, if_neg c0] at hp; exact hp)
    · refine v_iload (pc' := 48) F dX7_find_46  (j := 0) rfl rfl ?_
      exact v_iret F E (by omega) (by omega)  dX7_find_48 (by rw [fnd, if_pos c0] at hp; exact hp)
set_option maxHeartbeats 4000000 in
set_option maxRecDepth 100000 in
theorem c_X7_find (G : gG) (z0 : Nat) (l : Launch) {h : gH} {m rows asd vals many way told oth lst text now : Nat} {th und fed len spot fa fat num frm may : Int32} {R : Nat → Int32} {D : Dt} {j : Nat} (hMS : mS G h m rows asd vals many way told oth lst text th now und fed len spot fa fat num frm may R) (hnow : now < 9) (w9 : wfD D) (hS : slD R (330 * now) D) (hj : j < D.1) (y : Int32) : gC G z0 l yX7_find wsX7_find 5 112 [.ref m, .int (nI j), .int y] h (fun o h' => o = some (.int (fnd y (wVals (D.2.2.2.2 j)) 0)) ∧ mS G h' m rows asd vals many way told oth lst text (nI 0) now und fed len spot fa fat num frm may R ∧ gfr [m, vals, many, way, told, oth, lst] h h') 0 0 := by
  have h1n := w9.1
  have hn64 := w9.2.1
  have hMS0 := hMS
  obtain ⟨fl, rl, kd, ok, st, wm, hm, hrows, ⟨V, hvals⟩, ⟨M, hmany⟩, ⟨W, hway⟩, ⟨f, htold⟩, ⟨g, hoth⟩, ⟨ll, hlst⟩, htw, how, hto⟩ := hMS
  have hwl := wVals_lt w9 hj
  refine gC_of (cc := cX7_find) (nL := 5) (ret := (some .int)) (by decide) rfl (Nat.le_of_ble_eq_true rfl) ?_
  intro X F E _
  change gF G z0 X cX7_find 5 RX7 wsX7_find (some .int) "find" 5 112 _ _ at F
  show gV G z0 X 0 0 h 0 [(0, .ref m), (1, .int (nI j)), (2, .int y)] []
  refine v_aload_n (pc' := 1) F dX7_find_0 rfl (j := 0) rfl rfl ?_
  refine v_iconst (pc' := 2) (v := nI 0) F dX7_find_1 (by decide) rfl ?_
  refine w_putf (pc' := 5) F k_X7_find_7 tyX7_ok nmX7 hm 0 (by decide) m_X7_find_f44 rfl  rfl rfl (show 0 < 26 by decide) [.int (nI 0), .ref rows, .ref asd, .int (nI now), .int und, .ref vals, .ref many, .int fl, .int rl, .int kd, .int ok, .int st, .ref way, .int wm, .ref told, .ref oth, .ref lst, .ref text, .int fed, .int len, .int spot, .int fa, .int fat, .int num, .int frm, .int may] rfl dX7_find_2 rfl (fun h1 a2 f3 => ?_)
  refine v_aload_n (pc' := 6) F dX7_find_5 rfl (j := 0) rfl rfl ?_
  refine v_aload_n (pc' := 7) F dX7_find_6 rfl (j := 0) rfl rfl ?_
  refine v_iload_n (pc' := 8) F dX7_find_7 rfl (j := 1) rfl rfl ?_
  have hv9j : nI 0 ≤ nI j ∧ nI j ≤ nI (D.1 - 1) := (bR_iff h1n (by omega)).mpr ⟨j, hj, rfl⟩
  have g4 := f3 _ _ (gnc (Ne.symm (g_neA hm hrows)) gn0) hrows
  refine v_callV (pc' := 11) (rt := (some .boolean)) (mcc := 0) (msc := 0) (As := [.int (nI j)]) (st := [.ref m]) F (fun l => c_X7_isVersion G z0 l (nI j) a2 g4 hnow hS.1 h1n hn64) gX7_find_X7_isVersion rfl hv_X7_isVersion (by decide) (by decide) a2 rfl rfl rfl (Nat.le_of_ble_eq_true rfl) (by omega) (by omega) dX7_find_8 rfl (fun v5 h1 hqv => ?_)
  rw [if_pos hv9j] at hqv; obtain ⟨rfl, rfl⟩ := hqv
  refine v_iconst (pc' := 12) (v := nI 1) F dX7_find_11 (by decide) rfl ?_
  refine v_callV (pc' := 15) (rt := (some .boolean)) (mcc := 0) (msc := 0) (As := [.int (nI 1), .int (nI 1)]) (st := []) F (fun l => c_X7_right1 G z0 l (th := nI 0) (nI 1) (by decide) a2) gX7_find_X7_right rfl hv_X7_right (by decide) (by decide) a2 rfl rfl rfl (Nat.le_of_ble_eq_true rfl) (by omega) (by omega) dX7_find_12 rfl (fun v6 h1 hqr => ?_)
  obtain ⟨rfl, rfl⟩ := hqr
  refine w_if_ne (tgt := 20) (pc' := 18) F (by omega) dX7_find_15 (by decide) rfl (fun _ => ?_) (fun c0 => absurd c0 (by omega))
  refine v_aload_n (pc' := 21) F dX7_find_20 rfl (j := 0) rfl rfl ?_
  refine v_iload_n (pc' := 22) F dX7_find_21 rfl (j := 1) rfl rfl ?_
  have g7 := f3 _ _ (gnc (Ne.symm (g_neA hm hvals)) gn0) hvals
  have g8 := f3 _ _ (gnc (Ne.symm (g_neA hm hmany)) gn0) hmany
  have g9 := f3 _ _ (gnc (Ne.symm (g_neA hm hway)) gn0) hway
  have g10 := f3 _ _ (gnc (Ne.symm (g_neA hm htold)) gn0) htold
  have g11 := f3 _ _ (gnc (Ne.symm (g_neA hm hoth)) gn0) hoth
  have g12 := f3 _ _ (gnc (Ne.symm (g_neA hm hlst)) gn0) hlst
  refine v_callV (pc' := 25) (rt := (some .int)) (mcc := 0) (msc := 0) (As := [.int (nI j)]) (st := []) F (fun l => s_X7_length G z0 l ⟨_, _, _, _, _, _, a2, g4, ⟨_, g7⟩, ⟨_, g8⟩, ⟨_, g9⟩, ⟨_, g10⟩, ⟨_, g11⟩, ⟨_, g12⟩, htw, how, hto⟩ hnow w9 hS hj) gX7_find_X7_length rfl hv_X7_length (by decide) (by decide) a2 rfl rfl rfl (Nat.le_of_ble_eq_true rfl) (by omega) (by omega) dX7_find_22 rfl (fun v14 h13 hqc => ?_)
  obtain ⟨rfl, hMA, ⟨fT, htT, hfT⟩, frA⟩ := hqc
  have hMA0 := hMA
  obtain ⟨fl2, rl2, kd2, ok2, st2, wm2, hm2, hrows2, ⟨V2, hvals2⟩, ⟨M2, hmany2⟩, ⟨W2, hway2⟩, ⟨f2, htold2⟩, ⟨g2, hoth2⟩, ⟨ll2, hlst2⟩, -, -, -⟩ := hMA
  refine v_istore_n (pc' := 26) (i := 3) (L' := [(3, .int (nI ((wVals (D.2.2.2.2 j)).length))), (0, .ref m), (1, .int (nI j)), (2, .int y)]) F dX7_find_25 rfl (by decide) rfl rfl ?_
  refine v_iconst (pc' := 27) (v := nI 0) F dX7_find_26 (by decide) rfl ?_
  refine v_istore (pc' := 29) (i := 4) (L' := [(4, .int (nI 0)), (3, .int (nI ((wVals (D.2.2.2.2 j)).length))), (0, .ref m), (1, .int (nI j)), (2, .int y)]) F dX7_find_27  (by decide) rfl rfl ?_
  have fr15 : gfr [m, vals, many, way, told, oth, lst] h h13 := (gfr.t (gfr.mono f3 (by intro q9 z9 m9; apply z9; simp only [List.mem_cons, List.not_mem_nil, or_false] at m9 ⊢; omega)) frA)
  refine v_sub (L' := [(4, .int (nI 0)), (3, .int (nI ((wVals (D.2.2.2.2 j)).length))), (2, .int y), (1, .int (nI j)), (0, .ref m)]) [0, 1, 4, 3, 2] rfl ?_
  exact lp_X7_find (l := l) (ys := (wVals (D.2.2.2.2 j))) F E (by omega) (by omega) hm2 htT (by omega) (by omega) (fun i hi => hfT i hi) ⟨rfl, hMA0, fr15⟩
set_option maxHeartbeats 4000000 in
set_option maxRecDepth 100000 in
theorem lp0_X7_alike {G : gG} {z0 : Nat} {X : gX} {l : Launch} {post : Option Value → gH → Prop} {mc ms cells slots k N v w : Nat} {h : gH} {m : Nat} (F : gF G z0 X cX7_alike 6 RX7 wsX7_alike (some .boolean) "alike" 5 112 mc ms) (E : gE G z0 X post mc ms) (hcc : cells ≤ mc) (hss : slots ≤ ms) (hN : N ≤ 64) (hk : k ≤ 100) (hp : post (some (.int (nI 0))) h) : gV G z0 X cells slots h 65 [(5, .int (nI k)), (4, .int (nI 0)), (3, .int (nI N)), (2, .int (nI w)), (1, .int (nI v)), (0, .ref m)] [] := by
  refine v_iload (pc' := 67) F dX7_alike_65  (j := 0) rfl rfl ?_
  refine v_iload_n (pc' := 68) F dX7_alike_67 rfl (j := 2) rfl rfl ?_
  refine w_icmp_ge (tgt := 106) (pc' := 71) F (by omega) (by omega) dX7_alike_68 (by decide) rfl (fun c0 => ?_) (fun c0 => ?_)
  · refine v_iload (pc' := 108) F dX7_alike_106  (j := 1) rfl rfl ?_
    refine v_zret F E (by omega) (by omega) (by decide) dX7_alike_108 ?_
    exact hp
  · refine v_iload (pc' := 73) F dX7_alike_71  (j := 1) rfl rfl ?_
    refine w_if_eq (tgt := 106) (pc' := 76) F (by omega) dX7_alike_73 (by decide) rfl (fun _ => ?_) (fun c0 => absurd c0 (by omega))
    refine v_iload (pc' := 108) F dX7_alike_106  (j := 1) rfl rfl ?_
    refine v_zret F E (by omega) (by omega) (by decide) dX7_alike_108 ?_
    exact hp
theorem k_X7_alike_7 : gCl wsX7_alike 7 RX7 TX7 26 := ⟨by decide +kernel, rfl⟩
theorem m_X7_alike_f25 : Cond.fieldLink RX7 25 "SteadyQueuesModel" "told" "[I" ∈ wsX7_alike := by decide +kernel
theorem m_X7_alike_f28 : Cond.fieldLink RX7 28 "SteadyQueuesModel" "others" "[I" ∈ wsX7_alike := by decide +kernel
set_option maxHeartbeats 4000000 in
set_option maxRecDepth 100000 in
theorem lp1_X7_alike {G : gG} {z0 : Nat} {X : gX} {l : Launch} {post : Option Value → gH → Prop} {mc ms cells slots k N v w : Nat} {h : gH} {m rows asd vals many way told oth lst text : Nat} {th now und fl rl kd ok st wm fed len spot fa fat num frm may : Int32} {f g : Nat → Int32} {ys zs : List Int32} (F : gF G z0 X cX7_alike 6 RX7 wsX7_alike (some .boolean) "alike" 5 112 mc ms) (E : gE G z0 X post mc ms) (hcc : cells ≤ mc) (hss : slots ≤ ms) (hN : N ≤ 64) (hk : k ≤ 100) (hm : h m = some (.inr (7, [.int th, .ref rows, .ref asd, .int now, .int und, .ref vals, .ref many, .int fl, .int rl, .int kd, .int ok, .int st, .ref way, .int wm, .ref told, .ref oth, .ref lst, .ref text, .int fed, .int len, .int spot, .int fa, .int fat, .int num, .int frm, .int may]))) (htold : h told = some (oI G 64 f)) (hoth : h oth = some (oI G 64 g)) (hyz : ys.length = zs.length) (hkn : k + ys.length = N) (hf : ∀ i, i < ys.length → f (k + i) = ys.getD i 0) (hg : ∀ i, i < zs.length → g (k + i) = zs.getD i 0) (hp : post (some (.int (if ys = zs then nI 1 else nI 0))) h) : gV G z0 X cells slots h 65 [(5, .int (nI k)), (4, .int (nI 1)), (3, .int (nI N)), (2, .int (nI w)), (1, .int (nI v)), (0, .ref m)] [] := by
  induction ys generalizing k zs with
  | nil =>
    obtain rfl : zs = [] := List.length_eq_zero_iff.mp hyz.symm
    rw [List.length_nil] at hkn
    refine v_iload (pc' := 67) F dX7_alike_65  (j := 0) rfl rfl ?_
    refine v_iload_n (pc' := 68) F dX7_alike_67 rfl (j := 2) rfl rfl ?_
    refine w_icmp_ge (tgt := 106) (pc' := 71) F (by omega) (by omega) dX7_alike_68 (by decide) rfl (fun _ => ?_) (fun c0 => absurd c0 (by omega))
    refine v_iload (pc' := 108) F dX7_alike_106  (j := 1) rfl rfl ?_
    refine v_zret F E (by omega) (by omega) (by decide) dX7_alike_108 ?_
    exact hp
  | cons y ys ih =>
    cases zs with
    | nil => exact absurd hyz (by simp)
    | cons z zs =>
      rw [List.length_cons, List.length_cons] at hyz
      rw [List.length_cons] at hkn
      have hy := hf 0 (by simp)
      have hz := hg 0 (by simp)
      rw [Nat.add_zero] at hy hz
      change _ = y at hy
      change _ = z at hz
      refine v_iload (pc' := 67) F dX7_alike_65  (j := 0) rfl rfl ?_
      refine v_iload_n (pc' := 68) F dX7_alike_67 rfl (j := 2) rfl rfl ?_
      refine w_icmp_ge (tgt := 106) (pc' := 71) F (by omega) (by omega) dX7_alike_68 (by decide) rfl (fun c0 => absurd c0 (by omega)) (fun _ => ?_)
      refine v_iload (pc' := 73) F dX7_alike_71  (j := 1) rfl rfl ?_
      refine w_if_eq (tgt := 106) (pc' := 76) F (by omega) dX7_alike_73 (by decide) rfl (fun c0 => absurd c0 (by omega)) (fun _ => ?_)
      refine v_aload_n (pc' := 77) F dX7_alike_76 rfl (j := 5) rfl rfl ?_
      refine v_getf (pc' := 80) (v := .ref told) F k_X7_alike_7 hm 14 (by decide) m_X7_alike_f25 rfl dX7_alike_77 rfl ?_
      refine v_iload (pc' := 82) F dX7_alike_80  (j := 0) rfl rfl ?_
      refine w_iald (pc' := 83) (v := y) F htold (by omega) (by omega) hy dX7_alike_82 rfl ?_
      refine v_aload_n (pc' := 84) F dX7_alike_83 rfl (j := 5) rfl rfl ?_
      refine v_getf (pc' := 87) (v := .ref oth) F k_X7_alike_7 hm 15 (by decide) m_X7_alike_f28 rfl dX7_alike_84 rfl ?_
      refine v_iload (pc' := 89) F dX7_alike_87  (j := 0) rfl rfl ?_
      refine w_iald (pc' := 90) (v := z) F hoth (by omega) (by omega) hz dX7_alike_89 rfl ?_
      refine v_icmp_ne (tgt := 97) (pc' := 93) F dX7_alike_90 (by decide) rfl (fun c0 => ?_) (fun c0 => ?_)
      · rw [if_neg (fun zi => c0 (List.cons.inj zi).1)] at hp
        refine v_iconst (pc' := 98) (v := nI 0) F dX7_alike_97 (by decide) rfl ?_
        refine v_istore (pc' := 100) (i := 4) (L' := [(4, .int (nI 0)), (5, .int (nI k)), (3, .int (nI N)), (2, .int (nI w)), (1, .int (nI v)), (0, .ref m)]) F dX7_alike_98  (by decide) rfl rfl ?_
        refine v_iinc (pc' := 103) (j := 1) (x := nI k) (v := nI (k + 1)) (L' := [(5, .int (nI (k + 1))), (4, .int (nI 0)), (3, .int (nI N)), (2, .int (nI w)), (1, .int (nI v)), (0, .ref m)]) F dX7_alike_100 rfl (nI_add k 1) (by decide) rfl rfl ?_
        refine v_goto (tgt := 65) F dX7_alike_103 (by decide) ?_
        refine v_sub (L' := [(5, .int (nI (k + 1))), (4, .int (nI 0)), (3, .int (nI N)), (2, .int (nI w)), (1, .int (nI v)), (0, .ref m)]) [0, 1, 2, 3, 4, 5] rfl ?_
        exact lp0_X7_alike (l := l) F E (by omega) (by omega) hN (by omega) hp
      · subst c0
        have e1 : (y :: ys = y :: zs) ↔ ys = zs := ⟨fun zi => (List.cons.inj zi).2, fun zi => by rw [zi]⟩
        simp only [e1] at hp
        refine v_iconst (pc' := 94) (v := nI 1) F dX7_alike_93 (by decide) rfl ?_
        refine v_goto (tgt := 98) F dX7_alike_94 (by decide) ?_
        refine v_istore (pc' := 100) (i := 4) (L' := [(4, .int (nI 1)), (5, .int (nI k)), (3, .int (nI N)), (2, .int (nI w)), (1, .int (nI v)), (0, .ref m)]) F dX7_alike_98  (by decide) rfl rfl ?_
        refine v_iinc (pc' := 103) (j := 1) (x := nI k) (v := nI (k + 1)) (L' := [(5, .int (nI (k + 1))), (4, .int (nI 1)), (3, .int (nI N)), (2, .int (nI w)), (1, .int (nI v)), (0, .ref m)]) F dX7_alike_100 rfl (nI_add k 1) (by decide) rfl rfl ?_
        refine v_goto (tgt := 65) F dX7_alike_103 (by decide) ?_
        refine v_sub (L' := [(5, .int (nI (k + 1))), (4, .int (nI 1)), (3, .int (nI N)), (2, .int (nI w)), (1, .int (nI v)), (0, .ref m)]) [0, 1, 2, 3, 4, 5] rfl ?_
        exact ih (k := k + 1) (by omega) (by omega) (by omega) (fun i hi => by have := hf (i + 1) (by rw [List.length_cons]; omega); rw [show k + 1 + i = k + (i + 1) by omega]; exact this) (fun i hi => by have := hg (i + 1) (by rw [List.length_cons]; omega); rw [show k + 1 + i = k + (i + 1) by omega]; exact this) hp
theorem m_X7_alike_f44 : Cond.fieldLink RX7 44 "SteadyQueuesModel" "thrown" "I" ∈ wsX7_alike := by decide +kernel
set_option maxHeartbeats 4000000 in
set_option maxRecDepth 100000 in
theorem c_X7_alike (G : gG) (z0 : Nat) (l : Launch) {h : gH} {m rows asd vals many way told oth lst text now : Nat} {th und fed len spot fa fat num frm may : Int32} {R : Nat → Int32} {D : Dt} {j jb : Nat} (hMS : mS G h m rows asd vals many way told oth lst text th now und fed len spot fa fat num frm may R) (hnow : now < 9) (w9 : wfD D) (hS : slD R (330 * now) D) (hj : j < D.1) (hjb : jb < D.1) : gC G z0 l yX7_alike wsX7_alike 5 112 [.ref m, .int (nI j), .int (nI jb)] h (fun o h' => o = some (.int (if (wVals (D.2.2.2.2 j)) = (wVals (D.2.2.2.2 jb)) then nI 1 else nI 0)) ∧ mS G h' m rows asd vals many way told oth lst text (nI 0) now und fed len spot fa fat num frm may R ∧ gfr [m, vals, many, way, told, oth, lst] h h') 0 0 := by
  have h1n := w9.1
  have hn64 := w9.2.1
  have hMS0 := hMS
  obtain ⟨fl, rl, kd, ok, st, wm, hm, hrows, ⟨V, hvals⟩, ⟨M, hmany⟩, ⟨W, hway⟩, ⟨f, htold⟩, ⟨g, hoth⟩, ⟨ll, hlst⟩, htw, how, hto⟩ := hMS
  have hwl := wVals_lt w9 hj
  have hwl2 := wVals_lt w9 hjb
  refine gC_of (cc := cX7_alike) (nL := 6) (ret := (some .boolean)) (by decide) rfl (Nat.le_of_ble_eq_true rfl) ?_
  intro X F E _
  change gF G z0 X cX7_alike 6 RX7 wsX7_alike (some .boolean) "alike" 5 112 _ _ at F
  show gV G z0 X 0 0 h 0 [(0, .ref m), (1, .int (nI j)), (2, .int (nI jb))] []
  refine v_aload_n (pc' := 1) F dX7_alike_0 rfl (j := 0) rfl rfl ?_
  refine v_iconst (pc' := 2) (v := nI 0) F dX7_alike_1 (by decide) rfl ?_
  refine w_putf (pc' := 5) F k_X7_alike_7 tyX7_ok nmX7 hm 0 (by decide) m_X7_alike_f44 rfl  rfl rfl (show 0 < 26 by decide) [.int (nI 0), .ref rows, .ref asd, .int (nI now), .int und, .ref vals, .ref many, .int fl, .int rl, .int kd, .int ok, .int st, .ref way, .int wm, .ref told, .ref oth, .ref lst, .ref text, .int fed, .int len, .int spot, .int fa, .int fat, .int num, .int frm, .int may] rfl dX7_alike_2 rfl (fun h1 a2 f3 => ?_)
  refine v_aload_n (pc' := 6) F dX7_alike_5 rfl (j := 0) rfl rfl ?_
  refine v_aload_n (pc' := 7) F dX7_alike_6 rfl (j := 0) rfl rfl ?_
  refine v_iload_n (pc' := 8) F dX7_alike_7 rfl (j := 1) rfl rfl ?_
  have hv9j : nI 0 ≤ nI j ∧ nI j ≤ nI (D.1 - 1) := (bR_iff h1n (by omega)).mpr ⟨j, hj, rfl⟩
  have g4 := f3 _ _ (gnc (Ne.symm (g_neA hm hrows)) gn0) hrows
  refine v_callV (pc' := 11) (rt := (some .boolean)) (mcc := 0) (msc := 0) (As := [.int (nI j)]) (st := [.ref m]) F (fun l => c_X7_isVersion G z0 l (nI j) a2 g4 hnow hS.1 h1n hn64) gX7_alike_X7_isVersion rfl hv_X7_isVersion (by decide) (by decide) a2 rfl rfl rfl (Nat.le_of_ble_eq_true rfl) (by omega) (by omega) dX7_alike_8 rfl (fun v5 h1 hqv => ?_)
  rw [if_pos hv9j] at hqv; obtain ⟨rfl, rfl⟩ := hqv
  refine w_if_eq (tgt := 26) (pc' := 14) F (by omega) dX7_alike_11 (by decide) rfl (fun c0 => absurd c0 (by omega)) (fun _ => ?_)
  refine v_aload_n (pc' := 15) F dX7_alike_14 rfl (j := 0) rfl rfl ?_
  refine v_iload_n (pc' := 16) F dX7_alike_15 rfl (j := 2) rfl rfl ?_
  have hv9jb : nI 0 ≤ nI jb ∧ nI jb ≤ nI (D.1 - 1) := (bR_iff h1n (by omega)).mpr ⟨jb, hjb, rfl⟩
  refine v_callV (pc' := 19) (rt := (some .boolean)) (mcc := 0) (msc := 0) (As := [.int (nI jb)]) (st := [.ref m]) F (fun l => c_X7_isVersion G z0 l (nI jb) a2 g4 hnow hS.1 h1n hn64) gX7_alike_X7_isVersion rfl hv_X7_isVersion (by decide) (by decide) a2 rfl rfl rfl (Nat.le_of_ble_eq_true rfl) (by omega) (by omega) dX7_alike_16 rfl (fun v6 h1 hqv => ?_)
  rw [if_pos hv9jb] at hqv; obtain ⟨rfl, rfl⟩ := hqv
  refine w_if_eq (tgt := 26) (pc' := 22) F (by omega) dX7_alike_19 (by decide) rfl (fun c0 => absurd c0 (by omega)) (fun _ => ?_)
  refine v_iconst (pc' := 23) (v := nI 1) F dX7_alike_22 (by decide) rfl ?_
  refine v_goto (tgt := 27) F dX7_alike_23 (by decide) ?_
  refine v_iconst (pc' := 28) (v := nI 1) F dX7_alike_27 (by decide) rfl ?_
  refine v_callV (pc' := 31) (rt := (some .boolean)) (mcc := 0) (msc := 0) (As := [.int (nI 1), .int (nI 1)]) (st := []) F (fun l => c_X7_right1 G z0 l (th := nI 0) (nI 1) (by decide) a2) gX7_alike_X7_right rfl hv_X7_right (by decide) (by decide) a2 rfl rfl rfl (Nat.le_of_ble_eq_true rfl) (by omega) (by omega) dX7_alike_28 rfl (fun v7 h1 hqr => ?_)
  obtain ⟨rfl, rfl⟩ := hqr
  refine w_if_ne (tgt := 36) (pc' := 34) F (by omega) dX7_alike_31 (by decide) rfl (fun _ => ?_) (fun c0 => absurd c0 (by omega))
  refine v_aload_n (pc' := 37) F dX7_alike_36 rfl (j := 0) rfl rfl ?_
  refine v_iload_n (pc' := 38) F dX7_alike_37 rfl (j := 1) rfl rfl ?_
  have g8 := f3 _ _ (gnc (Ne.symm (g_neA hm hvals)) gn0) hvals
  have g9 := f3 _ _ (gnc (Ne.symm (g_neA hm hmany)) gn0) hmany
  have g10 := f3 _ _ (gnc (Ne.symm (g_neA hm hway)) gn0) hway
  have g11 := f3 _ _ (gnc (Ne.symm (g_neA hm htold)) gn0) htold
  have g12 := f3 _ _ (gnc (Ne.symm (g_neA hm hoth)) gn0) hoth
  have g13 := f3 _ _ (gnc (Ne.symm (g_neA hm hlst)) gn0) hlst
  refine v_callV (pc' := 41) (rt := (some .int)) (mcc := 0) (msc := 0) (As := [.int (nI j)]) (st := []) F (fun l => s_X7_length G z0 l ⟨_, _, _, _, _, _, a2, g4, ⟨_, g8⟩, ⟨_, g9⟩, ⟨_, g10⟩, ⟨_, g11⟩, ⟨_, g12⟩, ⟨_, g13⟩, htw, how, hto⟩ hnow w9 hS hj) gX7_alike_X7_length rfl hv_X7_length (by decide) (by decide) a2 rfl rfl rfl (Nat.le_of_ble_eq_true rfl) (by omega) (by omega) dX7_alike_38 rfl (fun v15 h14 hqc => ?_)
  obtain ⟨rfl, hMA, ⟨fT, htT, hfT⟩, frA⟩ := hqc
  have hMA0 := hMA
  obtain ⟨fl2, rl2, kd2, ok2, st2, wm2, hm2, hrows2, ⟨V2, hvals2⟩, ⟨M2, hmany2⟩, ⟨W2, hway2⟩, ⟨f2, htold2⟩, ⟨g2, hoth2⟩, ⟨ll2, hlst2⟩, -, -, -⟩ := hMA
  refine v_istore_n (pc' := 42) (i := 3) (L' := [(3, .int (nI ((wVals (D.2.2.2.2 j)).length))), (0, .ref m), (1, .int (nI j)), (2, .int (nI jb))]) F dX7_alike_41 rfl (by decide) rfl rfl ?_
  refine v_aload_n (pc' := 43) F dX7_alike_42 rfl (j := 1) rfl rfl ?_
  refine v_iload_n (pc' := 44) F dX7_alike_43 rfl (j := 3) rfl rfl ?_
  refine v_aload_n (pc' := 45) F dX7_alike_44 rfl (j := 1) rfl rfl ?_
  refine v_getf (pc' := 48) (v := .ref oth) F k_X7_alike_7 hm2 15 (by decide) m_X7_alike_f28 rfl dX7_alike_45 rfl ?_
  refine v_callV (pc' := 51) (rt := (some .int)) (mcc := 0) (msc := 0) (As := [.int (nI jb), .ref oth]) (st := []) F (fun l => c_X7_laysValues G z0 l hm2 hrows2 hnow hway2 hoth2 how w9 hS  hjb) gX7_alike_X7_laysValues rfl hv_X7_laysValues (by decide) (by decide) hm2 rfl rfl rfl (Nat.le_of_ble_eq_true rfl) (by omega) (by omega) dX7_alike_48 rfl (fun v17 h16 hqc => ?_)
  obtain ⟨rfl, hmB, fB, hoB, hfB, WB, hwB, -, frB⟩ := hqc
  refine v_iload_n (pc' := 52) F dX7_alike_51 rfl (j := 0) rfl rfl ?_
  refine w_icmp_ne (tgt := 59) (pc' := 55) F (by omega) (by omega) dX7_alike_52 (by decide) rfl (fun c0 => ?_) (fun c0 => ?_)
  · refine v_iconst (pc' := 60) (v := nI 0) F dX7_alike_59 (by decide) rfl ?_
    refine v_istore (pc' := 62) (i := 4) (L' := [(4, .int (nI 0)), (3, .int (nI ((wVals (D.2.2.2.2 j)).length))), (0, .ref m), (1, .int (nI j)), (2, .int (nI jb))]) F dX7_alike_60  (by decide) rfl rfl ?_
    refine v_iconst (pc' := 63) (v := nI 0) F dX7_alike_62 (by decide) rfl ?_
    refine v_istore (pc' := 65) (i := 5) (L' := [(5, .int (nI 0)), (4, .int (nI 0)), (3, .int (nI ((wVals (D.2.2.2.2 j)).length))), (0, .ref m), (1, .int (nI j)), (2, .int (nI jb))]) F dX7_alike_63  (by decide) rfl rfl ?_
    refine v_sub (L' := [(5, .int (nI 0)), (4, .int (nI 0)), (3, .int (nI ((wVals (D.2.2.2.2 j)).length))), (2, .int (nI jb)), (1, .int (nI j)), (0, .ref m)]) [0, 1, 2, 5, 4, 3] rfl ?_
    have fr18 : gfr [m, vals, many, way, told, oth, lst] h h16 := (gfr.t (gfr.mono f3 (by intro q9 z9 m9; apply z9; simp only [List.mem_cons, List.not_mem_nil, or_false] at m9 ⊢; omega)) (gfr.t frA (gfr.mono frB (by intro q9 z9 m9; apply z9; simp only [List.mem_cons, List.not_mem_nil, or_false] at m9 ⊢; omega))))
    have g19 := frB _ _ (gnc (Ne.symm (g_neA hm2 hrows2)) (gnc (g_neL hrows2 hway2 (by decide)) (gnc (g_neL hrows2 hoth2 (by decide)) gn0))) hrows2
    have g20 := frB _ _ (gnc (Ne.symm (g_neA hm2 hvals2)) (gnc (g_neL hvals2 hway2 (by decide)) (gnc (g_neL hvals2 hoth2 (by decide)) gn0))) hvals2
    have g21 := frB _ _ (gnc (Ne.symm (g_neA hm2 hmany2)) (gnc (g_neL hmany2 hway2 (by decide)) (gnc (g_neL hmany2 hoth2 (by decide)) gn0))) hmany2
    have g22 := frB _ _ (gnc (Ne.symm (g_neA hm2 htT)) (gnc htw (gnc hto gn0))) htT
    have g23 := frB _ _ (gnc (Ne.symm (g_neA hm2 hlst2)) (gnc (g_neL hlst2 hway2 (by decide)) (gnc (g_neL hlst2 hoth2 (by decide)) gn0))) hlst2
    exact lp0_X7_alike (l := l) F E (by omega) (by omega) (by omega) (by omega) ⟨by rw [if_neg (fun zi => c0 (by rw [zi]))], ⟨_, _, _, _, _, _, hmB, g19, ⟨_, g20⟩, ⟨_, g21⟩, ⟨_, hwB⟩, ⟨_, g22⟩, ⟨_, hoB⟩, ⟨_, g23⟩, htw, how, hto⟩, fr18⟩
  · refine v_iconst (pc' := 56) (v := nI 1) F dX7_alike_55 (by decide) rfl ?_
    refine v_goto (tgt := 60) F dX7_alike_56 (by decide) ?_
    refine v_istore (pc' := 62) (i := 4) (L' := [(4, .int (nI 1)), (3, .int (nI ((wVals (D.2.2.2.2 j)).length))), (0, .ref m), (1, .int (nI j)), (2, .int (nI jb))]) F dX7_alike_60  (by decide) rfl rfl ?_
    refine v_iconst (pc' := 63) (v := nI 0) F dX7_alike_62 (by decide) rfl ?_
    refine v_istore (pc' := 65) (i := 5) (L' := [(5, .int (nI 0)), (4, .int (nI 1)), (3, .int (nI ((wVals (D.2.2.2.2 j)).length))), (0, .ref m), (1, .int (nI j)), (2, .int (nI jb))]) F dX7_alike_63  (by decide) rfl rfl ?_
    refine v_sub (L' := [(5, .int (nI 0)), (4, .int (nI 1)), (3, .int (nI ((wVals (D.2.2.2.2 j)).length))), (2, .int (nI jb)), (1, .int (nI j)), (0, .ref m)]) [0, 1, 2, 5, 4, 3] rfl ?_
    have fr24 : gfr [m, vals, many, way, told, oth, lst] h h16 := (gfr.t (gfr.mono f3 (by intro q9 z9 m9; apply z9; simp only [List.mem_cons, List.not_mem_nil, or_false] at m9 ⊢; omega)) (gfr.t frA (gfr.mono frB (by intro q9 z9 m9; apply z9; simp only [List.mem_cons, List.not_mem_nil, or_false] at m9 ⊢; omega))))
    have g25 := frB _ _ (gnc (Ne.symm (g_neA hm2 hrows2)) (gnc (g_neL hrows2 hway2 (by decide)) (gnc (g_neL hrows2 hoth2 (by decide)) gn0))) hrows2
    have g26 := frB _ _ (gnc (Ne.symm (g_neA hm2 hvals2)) (gnc (g_neL hvals2 hway2 (by decide)) (gnc (g_neL hvals2 hoth2 (by decide)) gn0))) hvals2
    have g27 := frB _ _ (gnc (Ne.symm (g_neA hm2 hmany2)) (gnc (g_neL hmany2 hway2 (by decide)) (gnc (g_neL hmany2 hoth2 (by decide)) gn0))) hmany2
    have g28 := frB _ _ (gnc (Ne.symm (g_neA hm2 htT)) (gnc htw (gnc hto gn0))) htT
    have g29 := frB _ _ (gnc (Ne.symm (g_neA hm2 hlst2)) (gnc (g_neL hlst2 hway2 (by decide)) (gnc (g_neL hlst2 hoth2 (by decide)) gn0))) hlst2
    exact lp1_X7_alike (l := l) (ys := (wVals (D.2.2.2.2 j))) (zs := (wVals (D.2.2.2.2 jb))) F E (by omega) (by omega) (by omega) (by omega) hmB g28 hoB c0.symm (by omega) (fun i hi => hfT i hi) (fun i hi => hfB i hi) ⟨rfl, ⟨_, _, _, _, _, _, hmB, g25, ⟨_, g26⟩, ⟨_, g27⟩, ⟨_, hwB⟩, ⟨_, g28⟩, ⟨_, hoB⟩, ⟨_, g29⟩, htw, how, hto⟩, fr24⟩
set_option maxHeartbeats 4000000 in
set_option maxRecDepth 100000 in
theorem o1_X7_alike (G : gG) (z0 : Nat) (l : Launch) {h : gH} {m rows asd vals many way told oth lst text now : Nat} {th und fed len spot fa fat num frm may : Int32} {R : Nat → Int32} {D : Dt} (hMS : mS G h m rows asd vals many way told oth lst text th now und fed len spot fa fat num frm may R) (hnow : now < 9) (w9 : wfD D) (hS : slD R (330 * now) D) (x y : Int32) (hxx : ¬ (iR x D.1 ∧ iR y D.1)) : gC G z0 l yX7_alike wsX7_alike 5 112 [.ref m, .int x, .int y] h (fun o h' => (∃ y9, o = some (.int y9)) ∧ mS G h' m rows asd vals many way told oth lst text (nI 1) now und fed len spot fa fat num frm may R ∧ gfr [m, vals, many, way, told, oth, lst] h h') 0 0 := by
  have h1n := w9.1
  have hn64 := w9.2.1
  have hMS0 := hMS
  obtain ⟨fl, rl, kd, ok, st, wm, hm, hrows, ⟨V, hvals⟩, ⟨M, hmany⟩, ⟨W, hway⟩, ⟨f, htold⟩, ⟨g, hoth⟩, ⟨ll, hlst⟩, htw, how, hto⟩ := hMS
  rcases Classical.em (iR x D.1) with hx9 | hxx
  · obtain ⟨j, hj, rfl⟩ := hx9
    have hxy : ¬ iR y D.1 := fun z => hxx ⟨⟨j, hj, rfl⟩, z⟩
    refine gC_of (cc := cX7_alike) (nL := 6) (ret := (some .boolean)) (by decide) rfl (Nat.le_of_ble_eq_true rfl) ?_
    intro X F E _
    change gF G z0 X cX7_alike 6 RX7 wsX7_alike (some .boolean) "alike" 5 112 _ _ at F
    show gV G z0 X 0 0 h 0 [(0, .ref m), (1, .int (nI j)), (2, .int y)] []
    refine v_aload_n (pc' := 1) F dX7_alike_0 rfl (j := 0) rfl rfl ?_
    refine v_iconst (pc' := 2) (v := nI 0) F dX7_alike_1 (by decide) rfl ?_
    refine w_putf (pc' := 5) F k_X7_alike_7 tyX7_ok nmX7 hm 0 (by decide) m_X7_alike_f44 rfl  rfl rfl (show 0 < 26 by decide) [.int (nI 0), .ref rows, .ref asd, .int (nI now), .int und, .ref vals, .ref many, .int fl, .int rl, .int kd, .int ok, .int st, .ref way, .int wm, .ref told, .ref oth, .ref lst, .ref text, .int fed, .int len, .int spot, .int fa, .int fat, .int num, .int frm, .int may] rfl dX7_alike_2 rfl (fun h1 a2 f3 => ?_)
    refine v_aload_n (pc' := 6) F dX7_alike_5 rfl (j := 0) rfl rfl ?_
    refine v_aload_n (pc' := 7) F dX7_alike_6 rfl (j := 0) rfl rfl ?_
    refine v_iload_n (pc' := 8) F dX7_alike_7 rfl (j := 1) rfl rfl ?_
    have hv9j : nI 0 ≤ nI j ∧ nI j ≤ nI (D.1 - 1) := (bR_iff h1n (by omega)).mpr ⟨j, hj, rfl⟩
    have g4 := f3 _ _ (gnc (Ne.symm (g_neA hm hrows)) gn0) hrows
    refine v_callV (pc' := 11) (rt := (some .boolean)) (mcc := 0) (msc := 0) (As := [.int (nI j)]) (st := [.ref m]) F (fun l => c_X7_isVersion G z0 l (nI j) a2 g4 hnow hS.1 h1n hn64) gX7_alike_X7_isVersion rfl hv_X7_isVersion (by decide) (by decide) a2 rfl rfl rfl (Nat.le_of_ble_eq_true rfl) (by omega) (by omega) dX7_alike_8 rfl (fun v5 h1 hqv => ?_)
    rw [if_pos hv9j] at hqv; obtain ⟨rfl, rfl⟩ := hqv
    refine w_if_eq (tgt := 26) (pc' := 14) F (by omega) dX7_alike_11 (by decide) rfl (fun c0 => absurd c0 (by omega)) (fun _ => ?_)
    refine v_aload_n (pc' := 15) F dX7_alike_14 rfl (j := 0) rfl rfl ?_
    refine v_iload_n (pc' := 16) F dX7_alike_15 rfl (j := 2) rfl rfl ?_
    have hv9y : ¬ (nI 0 ≤ y ∧ y ≤ nI (D.1 - 1)) := fun z => hxy ((bR_iff h1n (by omega)).mp z)
    refine v_callV (pc' := 19) (rt := (some .boolean)) (mcc := 0) (msc := 0) (As := [.int y]) (st := [.ref m]) F (fun l => c_X7_isVersion G z0 l y a2 g4 hnow hS.1 h1n hn64) gX7_alike_X7_isVersion rfl hv_X7_isVersion (by decide) (by decide) a2 rfl rfl rfl (Nat.le_of_ble_eq_true rfl) (by omega) (by omega) dX7_alike_16 rfl (fun v6 h1 hqv => ?_)
    rw [if_neg hv9y] at hqv; obtain ⟨rfl, rfl⟩ := hqv
    refine w_if_eq (tgt := 26) (pc' := 22) F (by omega) dX7_alike_19 (by decide) rfl (fun _ => ?_) (fun c0 => absurd c0 (by omega))
    refine v_iconst (pc' := 27) (v := nI 0) F dX7_alike_26 (by decide) rfl ?_
    refine v_iconst (pc' := 28) (v := nI 1) F dX7_alike_27 (by decide) rfl ?_
    refine v_callV (pc' := 31) (rt := (some .boolean)) (mcc := 0) (msc := 0) (As := [.int (nI 0), .int (nI 1)]) (st := []) F (fun l => c_X7_right0 G z0 l (th := nI 0) (nI 1) (by decide) a2) gX7_alike_X7_right rfl hv_X7_right (by decide) (by decide) a2 rfl rfl rfl (Nat.le_of_ble_eq_true rfl) (by omega) (by omega) dX7_alike_28 rfl (fun v8 h7 hqr => ?_)
    obtain ⟨rfl, hmR, frR⟩ := hqr
    refine w_if_ne (tgt := 36) (pc' := 34) F (by omega) dX7_alike_31 (by decide) rfl (fun c0 => absurd c0 (by omega)) (fun _ => ?_)
    refine v_iconst (pc' := 35) (v := nI 0) F dX7_alike_34 (by decide) rfl ?_
    have fr9 : gfr [m, vals, many, way, told, oth, lst] h h7 := (gfr.t (gfr.mono f3 (by intro q9 z9 m9; apply z9; simp only [List.mem_cons, List.not_mem_nil, or_false] at m9 ⊢; omega)) (gfr.mono frR (by intro q9 z9 m9; apply z9; simp only [List.mem_cons, List.not_mem_nil, or_false] at m9 ⊢; omega)))
    have g10 := frR _ _ (gnc (Ne.symm (g_neA a2 g4)) gn0) g4
    have g11 := f3 _ _ (gnc (Ne.symm (g_neA hm hvals)) gn0) hvals
    have g12 := frR _ _ (gnc (Ne.symm (g_neA a2 g11)) gn0) g11
    have g13 := f3 _ _ (gnc (Ne.symm (g_neA hm hmany)) gn0) hmany
    have g14 := frR _ _ (gnc (Ne.symm (g_neA a2 g13)) gn0) g13
    have g15 := f3 _ _ (gnc (Ne.symm (g_neA hm hway)) gn0) hway
    have g16 := frR _ _ (gnc (Ne.symm (g_neA a2 g15)) gn0) g15
    have g17 := f3 _ _ (gnc (Ne.symm (g_neA hm htold)) gn0) htold
    have g18 := frR _ _ (gnc (Ne.symm (g_neA a2 g17)) gn0) g17
    have g19 := f3 _ _ (gnc (Ne.symm (g_neA hm hoth)) gn0) hoth
    have g20 := frR _ _ (gnc (Ne.symm (g_neA a2 g19)) gn0) g19
    have g21 := f3 _ _ (gnc (Ne.symm (g_neA hm hlst)) gn0) hlst
    have g22 := frR _ _ (gnc (Ne.symm (g_neA a2 g21)) gn0) g21
    refine v_zret F E (by omega) (by omega) (by decide) dX7_alike_35 ?_
    exact ⟨⟨_, rfl⟩, ⟨_, _, _, _, _, _, hmR, g10, ⟨_, g12⟩, ⟨_, g14⟩, ⟨_, g16⟩, ⟨_, g18⟩, ⟨_, g20⟩, ⟨_, g22⟩, htw, how, hto⟩, fr9⟩
  · skip
    refine gC_of (cc := cX7_alike) (nL := 6) (ret := (some .boolean)) (by decide) rfl (Nat.le_of_ble_eq_true rfl) ?_
    intro X F E _
    change gF G z0 X cX7_alike 6 RX7 wsX7_alike (some .boolean) "alike" 5 112 _ _ at F
    show gV G z0 X 0 0 h 0 [(0, .ref m), (1, .int x), (2, .int y)] []
    refine v_aload_n (pc' := 1) F dX7_alike_0 rfl (j := 0) rfl rfl ?_
    refine v_iconst (pc' := 2) (v := nI 0) F dX7_alike_1 (by decide) rfl ?_
    refine w_putf (pc' := 5) F k_X7_alike_7 tyX7_ok nmX7 hm 0 (by decide) m_X7_alike_f44 rfl  rfl rfl (show 0 < 26 by decide) [.int (nI 0), .ref rows, .ref asd, .int (nI now), .int und, .ref vals, .ref many, .int fl, .int rl, .int kd, .int ok, .int st, .ref way, .int wm, .ref told, .ref oth, .ref lst, .ref text, .int fed, .int len, .int spot, .int fa, .int fat, .int num, .int frm, .int may] rfl dX7_alike_2 rfl (fun h1 a2 f3 => ?_)
    refine v_aload_n (pc' := 6) F dX7_alike_5 rfl (j := 0) rfl rfl ?_
    refine v_aload_n (pc' := 7) F dX7_alike_6 rfl (j := 0) rfl rfl ?_
    refine v_iload_n (pc' := 8) F dX7_alike_7 rfl (j := 1) rfl rfl ?_
    have hv9x : ¬ (nI 0 ≤ x ∧ x ≤ nI (D.1 - 1)) := fun z => hxx ((bR_iff h1n (by omega)).mp z)
    have g4 := f3 _ _ (gnc (Ne.symm (g_neA hm hrows)) gn0) hrows
    refine v_callV (pc' := 11) (rt := (some .boolean)) (mcc := 0) (msc := 0) (As := [.int x]) (st := [.ref m]) F (fun l => c_X7_isVersion G z0 l x a2 g4 hnow hS.1 h1n hn64) gX7_alike_X7_isVersion rfl hv_X7_isVersion (by decide) (by decide) a2 rfl rfl rfl (Nat.le_of_ble_eq_true rfl) (by omega) (by omega) dX7_alike_8 rfl (fun v5 h1 hqv => ?_)
    rw [if_neg hv9x] at hqv; obtain ⟨rfl, rfl⟩ := hqv
    refine w_if_eq (tgt := 26) (pc' := 14) F (by omega) dX7_alike_11 (by decide) rfl (fun _ => ?_) (fun c0 => absurd c0 (by omega))
    refine v_iconst (pc' := 27) (v := nI 0) F dX7_alike_26 (by decide) rfl ?_
    refine v_iconst (pc' := 28) (v := nI 1) F dX7_alike_27 (by decide) rfl ?_
    refine v_callV (pc' := 31) (rt := (some .boolean)) (mcc := 0) (msc := 0) (As := [.int (nI 0), .int (nI 1)]) (st := []) F (fun l => c_X7_right0 G z0 l (th := nI 0) (nI 1) (by decide) a2) gX7_alike_X7_right rfl hv_X7_right (by decide) (by decide) a2 rfl rfl rfl (Nat.le_of_ble_eq_true rfl) (by omega) (by omega) dX7_alike_28 rfl (fun v7 h6 hqr => ?_)
    obtain ⟨rfl, hmR, frR⟩ := hqr
    refine w_if_ne (tgt := 36) (pc' := 34) F (by omega) dX7_alike_31 (by decide) rfl (fun c0 => absurd c0 (by omega)) (fun _ => ?_)
    refine v_iconst (pc' := 35) (v := nI 0) F dX7_alike_34 (by decide) rfl ?_
    have fr8 : gfr [m, vals, many, way, told, oth, lst] h h6 := (gfr.t (gfr.mono f3 (by intro q9 z9 m9; apply z9; simp only [List.mem_cons, List.not_mem_nil, or_false] at m9 ⊢; omega)) (gfr.mono frR (by intro q9 z9 m9; apply z9; simp only [List.mem_cons, List.not_mem_nil, or_false] at m9 ⊢; omega)))
    have g9 := frR _ _ (gnc (Ne.symm (g_neA a2 g4)) gn0) g4
    have g10 := f3 _ _ (gnc (Ne.symm (g_neA hm hvals)) gn0) hvals
    have g11 := frR _ _ (gnc (Ne.symm (g_neA a2 g10)) gn0) g10
    have g12 := f3 _ _ (gnc (Ne.symm (g_neA hm hmany)) gn0) hmany
    have g13 := frR _ _ (gnc (Ne.symm (g_neA a2 g12)) gn0) g12
    have g14 := f3 _ _ (gnc (Ne.symm (g_neA hm hway)) gn0) hway
    have g15 := frR _ _ (gnc (Ne.symm (g_neA a2 g14)) gn0) g14
    have g16 := f3 _ _ (gnc (Ne.symm (g_neA hm htold)) gn0) htold
    have g17 := frR _ _ (gnc (Ne.symm (g_neA a2 g16)) gn0) g16
    have g18 := f3 _ _ (gnc (Ne.symm (g_neA hm hoth)) gn0) hoth
    have g19 := frR _ _ (gnc (Ne.symm (g_neA a2 g18)) gn0) g18
    have g20 := f3 _ _ (gnc (Ne.symm (g_neA hm hlst)) gn0) hlst
    have g21 := frR _ _ (gnc (Ne.symm (g_neA a2 g20)) gn0) g20
    refine v_zret F E (by omega) (by omega) (by decide) dX7_alike_35 ?_
    exact ⟨⟨_, rfl⟩, ⟨_, _, _, _, _, _, hmR, g9, ⟨_, g11⟩, ⟨_, g13⟩, ⟨_, g15⟩, ⟨_, g17⟩, ⟨_, g19⟩, ⟨_, g21⟩, htw, how, hto⟩, fr8⟩
theorem k_X7_common_7 : gCl wsX7_common 7 RX7 TX7 26 := ⟨by decide +kernel, rfl⟩
theorem m_X7_common_f44 : Cond.fieldLink RX7 44 "SteadyQueuesModel" "thrown" "I" ∈ wsX7_common := by decide +kernel
set_option maxHeartbeats 4000000 in
set_option maxRecDepth 100000 in
theorem o1_X7_common (G : gG) (z0 : Nat) (l : Launch) {h : gH} {m rows asd vals many way told oth lst text now : Nat} {th und fed len spot fa fat num frm may : Int32} {R : Nat → Int32} {D : Dt} (hMS : mS G h m rows asd vals many way told oth lst text th now und fed len spot fa fat num frm may R) (hnow : now < 9) (w9 : wfD D) (hS : slD R (330 * now) D) (x y : Int32) (hxx : ¬ (iR x D.1 ∧ iR y D.1)) : gC G z0 l yX7_common wsX7_common 3 62 [.ref m, .int x, .int y] h (fun o h' => (∃ y9, o = some (.int y9)) ∧ mS G h' m rows asd vals many way told oth lst text (nI 1) now und fed len spot fa fat num frm may R ∧ gfr [m, vals, many, way, told, oth, lst] h h') 0 0 := by
  have h1n := w9.1
  have hn64 := w9.2.1
  have hMS0 := hMS
  obtain ⟨fl, rl, kd, ok, st, wm, hm, hrows, ⟨V, hvals⟩, ⟨M, hmany⟩, ⟨W, hway⟩, ⟨f, htold⟩, ⟨g, hoth⟩, ⟨ll, hlst⟩, htw, how, hto⟩ := hMS
  rcases Classical.em (iR x D.1) with hx9 | hxx
  · obtain ⟨j, hj, rfl⟩ := hx9
    have hxy : ¬ iR y D.1 := fun z => hxx ⟨⟨j, hj, rfl⟩, z⟩
    refine gC_of (cc := cX7_common) (nL := 5) (ret := (some .int)) (by decide) rfl (Nat.le_of_ble_eq_true rfl) ?_
    intro X F E _
    change gF G z0 X cX7_common 5 RX7 wsX7_common (some .int) "common" 3 62 _ _ at F
    show gV G z0 X 0 0 h 0 [(0, .ref m), (1, .int (nI j)), (2, .int y)] []
    refine v_aload_n (pc' := 1) F dX7_common_0 rfl (j := 0) rfl rfl ?_
    refine v_iconst (pc' := 2) (v := nI 0) F dX7_common_1 (by decide) rfl ?_
    refine w_putf (pc' := 5) F k_X7_common_7 tyX7_ok nmX7 hm 0 (by decide) m_X7_common_f44 rfl  rfl rfl (show 0 < 26 by decide) [.int (nI 0), .ref rows, .ref asd, .int (nI now), .int und, .ref vals, .ref many, .int fl, .int rl, .int kd, .int ok, .int st, .ref way, .int wm, .ref told, .ref oth, .ref lst, .ref text, .int fed, .int len, .int spot, .int fa, .int fat, .int num, .int frm, .int may] rfl dX7_common_2 rfl (fun h1 a2 f3 => ?_)
    refine v_aload_n (pc' := 6) F dX7_common_5 rfl (j := 0) rfl rfl ?_
    refine v_aload_n (pc' := 7) F dX7_common_6 rfl (j := 0) rfl rfl ?_
    refine v_iload_n (pc' := 8) F dX7_common_7 rfl (j := 1) rfl rfl ?_
    have hv9j : nI 0 ≤ nI j ∧ nI j ≤ nI (D.1 - 1) := (bR_iff h1n (by omega)).mpr ⟨j, hj, rfl⟩
    have g4 := f3 _ _ (gnc (Ne.symm (g_neA hm hrows)) gn0) hrows
    refine v_callV (pc' := 11) (rt := (some .boolean)) (mcc := 0) (msc := 0) (As := [.int (nI j)]) (st := [.ref m]) F (fun l => c_X7_isVersion G z0 l (nI j) a2 g4 hnow hS.1 h1n hn64) gX7_common_X7_isVersion rfl hv_X7_isVersion (by decide) (by decide) a2 rfl rfl rfl (Nat.le_of_ble_eq_true rfl) (by omega) (by omega) dX7_common_8 rfl (fun v5 h1 hqv => ?_)
    rw [if_pos hv9j] at hqv; obtain ⟨rfl, rfl⟩ := hqv
    refine w_if_eq (tgt := 26) (pc' := 14) F (by omega) dX7_common_11 (by decide) rfl (fun c0 => absurd c0 (by omega)) (fun _ => ?_)
    refine v_aload_n (pc' := 15) F dX7_common_14 rfl (j := 0) rfl rfl ?_
    refine v_iload_n (pc' := 16) F dX7_common_15 rfl (j := 2) rfl rfl ?_
    have hv9y : ¬ (nI 0 ≤ y ∧ y ≤ nI (D.1 - 1)) := fun z => hxy ((bR_iff h1n (by omega)).mp z)
    refine v_callV (pc' := 19) (rt := (some .boolean)) (mcc := 0) (msc := 0) (As := [.int y]) (st := [.ref m]) F (fun l => c_X7_isVersion G z0 l y a2 g4 hnow hS.1 h1n hn64) gX7_common_X7_isVersion rfl hv_X7_isVersion (by decide) (by decide) a2 rfl rfl rfl (Nat.le_of_ble_eq_true rfl) (by omega) (by omega) dX7_common_16 rfl (fun v6 h1 hqv => ?_)
    rw [if_neg hv9y] at hqv; obtain ⟨rfl, rfl⟩ := hqv
    refine w_if_eq (tgt := 26) (pc' := 22) F (by omega) dX7_common_19 (by decide) rfl (fun _ => ?_) (fun c0 => absurd c0 (by omega))
    refine v_iconst (pc' := 27) (v := nI 0) F dX7_common_26 (by decide) rfl ?_
    refine v_iconst (pc' := 28) (v := nI 1) F dX7_common_27 (by decide) rfl ?_
    refine v_callV (pc' := 31) (rt := (some .boolean)) (mcc := 0) (msc := 0) (As := [.int (nI 0), .int (nI 1)]) (st := []) F (fun l => c_X7_right0 G z0 l (th := nI 0) (nI 1) (by decide) a2) gX7_common_X7_right rfl hv_X7_right (by decide) (by decide) a2 rfl rfl rfl (Nat.le_of_ble_eq_true rfl) (by omega) (by omega) dX7_common_28 rfl (fun v8 h7 hqr => ?_)
    obtain ⟨rfl, hmR, frR⟩ := hqr
    refine w_if_ne (tgt := 36) (pc' := 34) F (by omega) dX7_common_31 (by decide) rfl (fun c0 => absurd c0 (by omega)) (fun _ => ?_)
    refine v_iconst (pc' := 35) (v := nI 0) F dX7_common_34 (by decide) rfl ?_
    have fr9 : gfr [m, vals, many, way, told, oth, lst] h h7 := (gfr.t (gfr.mono f3 (by intro q9 z9 m9; apply z9; simp only [List.mem_cons, List.not_mem_nil, or_false] at m9 ⊢; omega)) (gfr.mono frR (by intro q9 z9 m9; apply z9; simp only [List.mem_cons, List.not_mem_nil, or_false] at m9 ⊢; omega)))
    have g10 := frR _ _ (gnc (Ne.symm (g_neA a2 g4)) gn0) g4
    have g11 := f3 _ _ (gnc (Ne.symm (g_neA hm hvals)) gn0) hvals
    have g12 := frR _ _ (gnc (Ne.symm (g_neA a2 g11)) gn0) g11
    have g13 := f3 _ _ (gnc (Ne.symm (g_neA hm hmany)) gn0) hmany
    have g14 := frR _ _ (gnc (Ne.symm (g_neA a2 g13)) gn0) g13
    have g15 := f3 _ _ (gnc (Ne.symm (g_neA hm hway)) gn0) hway
    have g16 := frR _ _ (gnc (Ne.symm (g_neA a2 g15)) gn0) g15
    have g17 := f3 _ _ (gnc (Ne.symm (g_neA hm htold)) gn0) htold
    have g18 := frR _ _ (gnc (Ne.symm (g_neA a2 g17)) gn0) g17
    have g19 := f3 _ _ (gnc (Ne.symm (g_neA hm hoth)) gn0) hoth
    have g20 := frR _ _ (gnc (Ne.symm (g_neA a2 g19)) gn0) g19
    have g21 := f3 _ _ (gnc (Ne.symm (g_neA hm hlst)) gn0) hlst
    have g22 := frR _ _ (gnc (Ne.symm (g_neA a2 g21)) gn0) g21
    exact v_iret F E (by omega) (by omega)  dX7_common_35 ⟨⟨_, rfl⟩, ⟨_, _, _, _, _, _, hmR, g10, ⟨_, g12⟩, ⟨_, g14⟩, ⟨_, g16⟩, ⟨_, g18⟩, ⟨_, g20⟩, ⟨_, g22⟩, htw, how, hto⟩, fr9⟩
  · skip
    refine gC_of (cc := cX7_common) (nL := 5) (ret := (some .int)) (by decide) rfl (Nat.le_of_ble_eq_true rfl) ?_
    intro X F E _
    change gF G z0 X cX7_common 5 RX7 wsX7_common (some .int) "common" 3 62 _ _ at F
    show gV G z0 X 0 0 h 0 [(0, .ref m), (1, .int x), (2, .int y)] []
    refine v_aload_n (pc' := 1) F dX7_common_0 rfl (j := 0) rfl rfl ?_
    refine v_iconst (pc' := 2) (v := nI 0) F dX7_common_1 (by decide) rfl ?_
    refine w_putf (pc' := 5) F k_X7_common_7 tyX7_ok nmX7 hm 0 (by decide) m_X7_common_f44 rfl  rfl rfl (show 0 < 26 by decide) [.int (nI 0), .ref rows, .ref asd, .int (nI now), .int und, .ref vals, .ref many, .int fl, .int rl, .int kd, .int ok, .int st, .ref way, .int wm, .ref told, .ref oth, .ref lst, .ref text, .int fed, .int len, .int spot, .int fa, .int fat, .int num, .int frm, .int may] rfl dX7_common_2 rfl (fun h1 a2 f3 => ?_)
    refine v_aload_n (pc' := 6) F dX7_common_5 rfl (j := 0) rfl rfl ?_
    refine v_aload_n (pc' := 7) F dX7_common_6 rfl (j := 0) rfl rfl ?_
    refine v_iload_n (pc' := 8) F dX7_common_7 rfl (j := 1) rfl rfl ?_
    have hv9x : ¬ (nI 0 ≤ x ∧ x ≤ nI (D.1 - 1)) := fun z => hxx ((bR_iff h1n (by omega)).mp z)
    have g4 := f3 _ _ (gnc (Ne.symm (g_neA hm hrows)) gn0) hrows
    refine v_callV (pc' := 11) (rt := (some .boolean)) (mcc := 0) (msc := 0) (As := [.int x]) (st := [.ref m]) F (fun l => c_X7_isVersion G z0 l x a2 g4 hnow hS.1 h1n hn64) gX7_common_X7_isVersion rfl hv_X7_isVersion (by decide) (by decide) a2 rfl rfl rfl (Nat.le_of_ble_eq_true rfl) (by omega) (by omega) dX7_common_8 rfl (fun v5 h1 hqv => ?_)
    rw [if_neg hv9x] at hqv; obtain ⟨rfl, rfl⟩ := hqv
    refine w_if_eq (tgt := 26) (pc' := 14) F (by omega) dX7_common_11 (by decide) rfl (fun _ => ?_) (fun c0 => absurd c0 (by omega))
    refine v_iconst (pc' := 27) (v := nI 0) F dX7_common_26 (by decide) rfl ?_
    refine v_iconst (pc' := 28) (v := nI 1) F dX7_common_27 (by decide) rfl ?_
    refine v_callV (pc' := 31) (rt := (some .boolean)) (mcc := 0) (msc := 0) (As := [.int (nI 0), .int (nI 1)]) (st := []) F (fun l => c_X7_right0 G z0 l (th := nI 0) (nI 1) (by decide) a2) gX7_common_X7_right rfl hv_X7_right (by decide) (by decide) a2 rfl rfl rfl (Nat.le_of_ble_eq_true rfl) (by omega) (by omega) dX7_common_28 rfl (fun v7 h6 hqr => ?_)
    obtain ⟨rfl, hmR, frR⟩ := hqr
    refine w_if_ne (tgt := 36) (pc' := 34) F (by omega) dX7_common_31 (by decide) rfl (fun c0 => absurd c0 (by omega)) (fun _ => ?_)
    refine v_iconst (pc' := 35) (v := nI 0) F dX7_common_34 (by decide) rfl ?_
    have fr8 : gfr [m, vals, many, way, told, oth, lst] h h6 := (gfr.t (gfr.mono f3 (by intro q9 z9 m9; apply z9; simp only [List.mem_cons, List.not_mem_nil, or_false] at m9 ⊢; omega)) (gfr.mono frR (by intro q9 z9 m9; apply z9; simp only [List.mem_cons, List.not_mem_nil, or_false] at m9 ⊢; omega)))
    have g9 := frR _ _ (gnc (Ne.symm (g_neA a2 g4)) gn0) g4
    have g10 := f3 _ _ (gnc (Ne.symm (g_neA hm hvals)) gn0) hvals
    have g11 := frR _ _ (gnc (Ne.symm (g_neA a2 g10)) gn0) g10
    have g12 := f3 _ _ (gnc (Ne.symm (g_neA hm hmany)) gn0) hmany
    have g13 := frR _ _ (gnc (Ne.symm (g_neA a2 g12)) gn0) g12
    have g14 := f3 _ _ (gnc (Ne.symm (g_neA hm hway)) gn0) hway
    have g15 := frR _ _ (gnc (Ne.symm (g_neA a2 g14)) gn0) g14
    have g16 := f3 _ _ (gnc (Ne.symm (g_neA hm htold)) gn0) htold
    have g17 := frR _ _ (gnc (Ne.symm (g_neA a2 g16)) gn0) g16
    have g18 := f3 _ _ (gnc (Ne.symm (g_neA hm hoth)) gn0) hoth
    have g19 := frR _ _ (gnc (Ne.symm (g_neA a2 g18)) gn0) g18
    have g20 := f3 _ _ (gnc (Ne.symm (g_neA hm hlst)) gn0) hlst
    have g21 := frR _ _ (gnc (Ne.symm (g_neA a2 g20)) gn0) g20
    exact v_iret F E (by omega) (by omega)  dX7_common_35 ⟨⟨_, rfl⟩, ⟨_, _, _, _, _, _, hmR, g9, ⟨_, g11⟩, ⟨_, g13⟩, ⟨_, g15⟩, ⟨_, g17⟩, ⟨_, g19⟩, ⟨_, g21⟩, htw, how, hto⟩, fr8⟩
