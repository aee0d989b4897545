theorem m_X7_idleIn_f79 : Cond.fieldLink RX7 79 "SteadyQueuesModel" "kind" "I" ∈ wsX7_idleIn := by decide +kernel
theorem qJ.small9 {b : Nat} {xs : List Int32} {q : mQ} (h : qJ b xs q) (hb : b < 900) : q.2.2.2.2.1 < 4 ∧ q.2.2.2.2.2.1 < 1000 := by
  obtain ⟨f, r, fl, rl, T⟩ := q
  exact h.1.small hb
theorem mL.ne {G : gG} {h : gH} {m rows asd vals many way told oth lst text now : Nat} {th und fed len spot fa fat num frm may : Int32} {R : Nat → Int32} {q : mQ × Nat} (h9 : mL G h m rows asd vals many way told oth lst text th now und fed len spot fa fat num frm may R q) : told ≠ way ∧ oth ≠ way ∧ told ≠ oth := by
  obtain ⟨wm, hm, hrows, -, hway, htold, hoth, hlst, hn⟩ := h9
  exact hn
set_option maxHeartbeats 4000000 in
set_option maxRecDepth 100000 in
theorem lp_X7_idleIn {G : gG} {z0 : Nat} {X : gX} {l : Launch} {post : Option Value → gH → Prop} {mc ms cells slots r k N v b : Nat} {h : gH} {m rows asd vals many way told oth lst text now : Nat} {th und fed len spot fa fat num frm may : Int32} {R : Nat → Int32} {D : Dt} {os : List mO} (F : gF G z0 X cX7_idleIn 4 RX7 wsX7_idleIn (some .int) "idleIn" 5 112 mc ms) (E : gE G z0 X post mc ms) (hcc : cells ≤ mc) (hss : slots ≤ ms) (hnow : now < 9) (w9 : wfD D) (hS : slD R (330 * now) D) (hb : b < 64) (hN : N < 64) (hML : mL G h m rows asd vals many way told oth lst text th now und fed len spot fa fat num frm may R (qOf os)) (hJ : qJ b (wVals os) (qOf os).1) (hQV : qV (qOf os).1) (hlr : (wVals os).length = r) (hkr : k + r = N) (hp : ∀ h' : gH, mS G h' m rows asd vals many way told oth lst text th now und fed len spot fa fat num frm may R → gfr [m, vals, many, way, told, oth, lst] h h' → post (some (.int (if (qOf os).1.2.2.2.2.1 = 0 then nI k else idF D.2.1 os r (k + 1)))) h') : gV G z0 X cells slots h 33 [(3, .int (nI k)), (2, .int (nI N)), (1, .int (nI v)), (0, .ref m)] [] := by
  induction r generalizing k os h with
  | zero =>
    have hML0 := hML
    have hsm := hJ.small9 (by omega)
    obtain ⟨wm3, hm3, hrows3, hq3, ⟨W3, hway3⟩, ⟨f3, htold3⟩, ⟨g3, hoth3⟩, ⟨ll3, hlst3⟩, -, -, -⟩ := hML
    have hq3b := hq3
    obtain ⟨V3, M3, ls3, hvals3, hmany3, hls3, hT3⟩ := hq3b
    refine v_aload_n (pc' := 34) F dX7_idleIn_33 rfl (j := 3) rfl rfl ?_
    refine v_getf (pc' := 37) (v := .int (nI ((qOf os).1.2.2.2.2.1))) F k_X7_idleIn_7 hm3 9 (by decide) m_X7_idleIn_f79 rfl dX7_idleIn_34 rfl ?_
    refine w_if_eq (tgt := 60) (pc' := 40) F (by omega) dX7_idleIn_37 (by decide) rfl (fun k0 => ?_) (fun k0 => ?_)
    · rw [if_pos k0] at hp
      refine v_aload_n (pc' := 61) F dX7_idleIn_60 rfl (j := 3) rfl rfl ?_
      refine v_getf (pc' := 64) (v := .int (nI ((qOf os).1.2.2.2.2.1))) F k_X7_idleIn_7 hm3 9 (by decide) m_X7_idleIn_f79 rfl dX7_idleIn_61 rfl ?_
      refine w_if_ne (tgt := 71) (pc' := 67) F (by omega) dX7_idleIn_64 (by decide) rfl (fun c0 => absurd k0 c0) (fun _ => ?_)
      refine v_iload_n (pc' := 68) F dX7_idleIn_67 rfl (j := 0) rfl rfl ?_
      refine v_goto (tgt := 72) F dX7_idleIn_68 (by decide) ?_
      exact v_iret F E (by omega) (by omega)  dX7_idleIn_72 (hp h hML0.s gfr.rf)
    · rw [if_neg k0] at hp
      refine v_iload_n (pc' := 41) F dX7_idleIn_40 rfl (j := 0) rfl rfl ?_
      refine v_iload_n (pc' := 42) F dX7_idleIn_41 rfl (j := 1) rfl rfl ?_
      refine w_icmp_ge (tgt := 60) (pc' := 45) F (by omega) (by omega) dX7_idleIn_42 (by decide) rfl (fun _ => ?_) (fun c0 => absurd c0 (by omega))
      refine v_aload_n (pc' := 61) F dX7_idleIn_60 rfl (j := 3) rfl rfl ?_
      refine v_getf (pc' := 64) (v := .int (nI ((qOf os).1.2.2.2.2.1))) F k_X7_idleIn_7 hm3 9 (by decide) m_X7_idleIn_f79 rfl dX7_idleIn_61 rfl ?_
      refine w_if_ne (tgt := 71) (pc' := 67) F (by omega) dX7_idleIn_64 (by decide) rfl (fun _ => ?_) (fun c0 => absurd c0 k0)
      refine v_iconst (pc' := 72) (v := (-1)) F dX7_idleIn_71 (by decide) rfl ?_
      exact v_iret F E (by omega) (by omega)  dX7_idleIn_72 (hp h hML0.s gfr.rf)
  | succ r ih =>
    have hML0 := hML
    have hsm := hJ.small9 (by omega)
    obtain ⟨wm3, hm3, hrows3, hq3, ⟨W3, hway3⟩, ⟨f3, htold3⟩, ⟨g3, hoth3⟩, ⟨ll3, hlst3⟩, -, -, -⟩ := hML
    have hq3b := hq3
    obtain ⟨V3, M3, ls3, hvals3, hmany3, hls3, hT3⟩ := hq3b
    refine v_aload_n (pc' := 34) F dX7_idleIn_33 rfl (j := 3) rfl rfl ?_
    refine v_getf (pc' := 37) (v := .int (nI ((qOf os).1.2.2.2.2.1))) F k_X7_idleIn_7 hm3 9 (by decide) m_X7_idleIn_f79 rfl dX7_idleIn_34 rfl ?_
    refine w_if_eq (tgt := 60) (pc' := 40) F (by omega) dX7_idleIn_37 (by decide) rfl (fun k0 => ?_) (fun k0 => ?_)
    · rw [if_pos k0] at hp
      refine v_aload_n (pc' := 61) F dX7_idleIn_60 rfl (j := 3) rfl rfl ?_
      refine v_getf (pc' := 64) (v := .int (nI ((qOf os).1.2.2.2.2.1))) F k_X7_idleIn_7 hm3 9 (by decide) m_X7_idleIn_f79 rfl dX7_idleIn_61 rfl ?_
      refine w_if_ne (tgt := 71) (pc' := 67) F (by omega) dX7_idleIn_64 (by decide) rfl (fun c0 => absurd k0 c0) (fun _ => ?_)
      refine v_iload_n (pc' := 68) F dX7_idleIn_67 rfl (j := 0) rfl rfl ?_
      refine v_goto (tgt := 72) F dX7_idleIn_68 (by decide) ?_
      exact v_iret F E (by omega) (by omega)  dX7_idleIn_72 (hp h hML0.s gfr.rf)
    · rw [if_neg k0] at hp
      refine v_iload_n (pc' := 41) F dX7_idleIn_40 rfl (j := 0) rfl rfl ?_
      refine v_iload_n (pc' := 42) F dX7_idleIn_41 rfl (j := 1) rfl rfl ?_
      refine w_icmp_ge (tgt := 60) (pc' := 45) F (by omega) (by omega) dX7_idleIn_42 (by decide) rfl (fun c0 => absurd c0 (by omega)) (fun _ => ?_)
      refine v_aload_n (pc' := 46) F dX7_idleIn_45 rfl (j := 3) rfl rfl ?_
      refine v_aload_n (pc' := 47) F dX7_idleIn_46 rfl (j := 3) rfl rfl ?_
      refine v_iconst (pc' := 48) (v := nI 1) F dX7_idleIn_47 (by decide) rfl ?_
      have hpcR : R (330 * now + 1) = nI D.2.1 := hS.2.1
      have hpc1 := w9.2.2.1
      have hpc2 := w9.2.2.2.1
      refine v_callV (pc' := 51) (rt := (some .int)) (mcc := 0) (msc := 0) (As := [.int (nI 1)]) (st := [.ref m]) F (fun l => c_X7_get G z0 l (k := 1) hm3 hrows3 hnow (by omega)) gX7_idleIn_X7_get rfl hv_X7_get (by decide) (by decide) hm3 rfl rfl rfl (Nat.le_of_ble_eq_true rfl) (by omega) (by omega) dX7_idleIn_48 rfl (fun v1 h hqg => ?_)
      rw [hpcR] at hqg; obtain ⟨rfl, rfl⟩ := hqg
      obtain ⟨y9, ys9, hxy⟩ : ∃ y9 ys9, wVals os = y9 :: ys9 := by cases hc : wVals os with | nil => rw [hc] at hlr; exact absurd hlr (by simp) | cons y9 ys9 => exact ⟨y9, ys9, rfl⟩
      have hJ0 := hJ
      rw [hxy] at hJ0 hlr
      rw [List.length_cons] at hlr
      refine v_callV (pc' := 54) (rt := none) (mcc := 0) (msc := 0) (As := [.int (nI D.2.1)]) (st := []) F (fun l => c_X7_pops G z0 l (by omega) (by omega) hb hm3 hq3 hJ0 hQV) gX7_idleIn_X7_pops rfl hv_X7_pops (by decide) (by decide) hm3 rfl rfl rfl (Nat.le_of_ble_eq_true rfl) (by omega) (by omega) dX7_idleIn_51 rfl (fun v3 h2 hqc => ?_)
      obtain ⟨rfl, hmZ, hqZ, frZ⟩ := hqc
      have eq9 : qOf ((-1, D.2.1) :: os) = qSettle D.2.1 (qTake (qOf os).1) := by show qOp _ _ = _; unfold qOp; rw [if_pos rfl]
      rw [← eq9] at hmZ hqZ
      have ew9 : wVals ((-1, D.2.1) :: os) = ys9 := by show (if (-1 : Int32) = -1 then (wVals os).tail else _) = ys9; rw [if_pos rfl, hxy]; rfl
      have hJZ : qJ b (wVals ((-1, D.2.1) :: os)) (qOf ((-1, D.2.1) :: os)).1 := by rw [ew9, eq9]; exact qSettle_J (qTake_pre hpc1 hJ0)
      have hQZ : qV (qOf ((-1, D.2.1) :: os)).1 := by rw [eq9]; exact hQV.take.settle
      refine v_iinc (pc' := 57) (j := 0) (x := nI k) (v := nI (k + 1)) (L' := [(3, .int (nI (k + 1))), (2, .int (nI N)), (1, .int (nI v)), (0, .ref m)]) F dX7_idleIn_54 rfl (nI_add k 1) (by decide) rfl rfl ?_
      refine v_goto (tgt := 33) F dX7_idleIn_57 (by decide) ?_
      refine v_sub (L' := [(3, .int (nI (k + 1))), (2, .int (nI N)), (1, .int (nI v)), (0, .ref m)]) [0, 1, 2, 3] rfl ?_
      have fr4 : gfr [m, vals, many, way, told, oth, lst] h h2 := (gfr.mono frZ (by intro q9 z9 m9; apply z9; simp only [List.mem_cons, List.not_mem_nil, or_false] at m9 ⊢; omega))
      have g5 := frZ _ _ (gnc (Ne.symm (g_neA hm3 hrows3)) (gnc (g_neL hrows3 hvals3 (by decide)) (gnc (g_neL hrows3 hmany3 (by decide)) gn0))) hrows3
      have g6 := frZ _ _ (gnc (Ne.symm (g_neA hm3 hway3)) (gnc (g_neL hway3 hvals3 (by decide)) (gnc (g_neL hway3 hmany3 (by decide)) gn0))) hway3
      have g7 := frZ _ _ (gnc (Ne.symm (g_neA hm3 htold3)) (gnc (g_neL htold3 hvals3 (by decide)) (gnc (g_neL htold3 hmany3 (by decide)) gn0))) htold3
      have g8 := frZ _ _ (gnc (Ne.symm (g_neA hm3 hoth3)) (gnc (g_neL hoth3 hvals3 (by decide)) (gnc (g_neL hoth3 hmany3 (by decide)) gn0))) hoth3
      have g9 := frZ _ _ (gnc (Ne.symm (g_neA hm3 hlst3)) (gnc (g_neL hlst3 hvals3 (by decide)) (gnc (g_neL hlst3 hmany3 (by decide)) gn0))) hlst3
      exact ih (k := k + 1) (os := (-1, D.2.1) :: os) ⟨_, hmZ, g5, hqZ, ⟨_, g6⟩, ⟨_, g7⟩, ⟨_, g8⟩, ⟨_, g9⟩, hML0.ne⟩ hJZ hQZ (by rw [ew9]; omega) (by omega) (fun hA a1 a2 => hp hA a1 (gfr.t fr4 a2))
set_option maxHeartbeats 4000000 in
set_option maxRecDepth 100000 in
theorem c_X7_idleIn (G : gG) (z0 : Nat) (l : Launch) {h : gH} {m rows asd vals many way told oth lst text now : Nat} {th und fed len spot fa fat num frm may : Int32} {R : Nat → Int32} {D : Dt} {j : Nat} (hMS : mS G h m rows asd vals many way told oth lst text th now und fed len spot fa fat num frm may R) (hnow : now < 9) (w9 : wfD D) (hS : slD R (330 * now) D) (hj : j < D.1) : gC G z0 l yX7_idleIn wsX7_idleIn 5 112 [.ref m, .int (nI j)] h (fun o h' => o = some (.int (idN D.2.1 (D.2.2.2.2 j))) ∧ mS G h' m rows asd vals many way told oth lst text (nI 0) now und fed len spot fa fat num frm may R ∧ gfr [m, vals, many, way, told, oth, lst] h h') 0 0 := by
  have h1n := w9.1
  have hn64 := w9.2.1
  have hMS0 := hMS
  obtain ⟨fl, rl, kd, ok, st, wm, hm, hrows, ⟨V, hvals⟩, ⟨M, hmany⟩, ⟨W, hway⟩, ⟨f, htold⟩, ⟨g, hoth⟩, ⟨ll, hlst⟩, htw, how, hto⟩ := hMS
  have hwl := wVals_lt w9 hj
  have hOv := w9.os hj
  refine gC_of (cc := cX7_idleIn) (nL := 4) (ret := (some .int)) (by decide) rfl (Nat.le_of_ble_eq_true rfl) ?_
  intro X F E _
  change gF G z0 X cX7_idleIn 4 RX7 wsX7_idleIn (some .int) "idleIn" 5 112 _ _ at F
  show gV G z0 X 0 0 h 0 [(0, .ref m), (1, .int (nI j))] []
  refine v_aload_n (pc' := 1) F dX7_idleIn_0 rfl (j := 0) rfl rfl ?_
  refine v_iconst (pc' := 2) (v := nI 0) F dX7_idleIn_1 (by decide) rfl ?_
  refine w_putf (pc' := 5) F k_X7_idleIn_7 tyX7_ok nmX7 hm 0 (by decide) m_X7_idleIn_f44 rfl  rfl rfl (show 0 < 26 by decide) [.int (nI 0), .ref rows, .ref asd, .int (nI now), .int und, .ref vals, .ref many, .int fl, .int rl, .int kd, .int ok, .int st, .ref way, .int wm, .ref told, .ref oth, .ref lst, .ref text, .int fed, .int len, .int spot, .int fa, .int fat, .int num, .int frm, .int may] rfl dX7_idleIn_2 rfl (fun h1 a2 f3 => ?_)
  refine v_aload_n (pc' := 6) F dX7_idleIn_5 rfl (j := 0) rfl rfl ?_
  refine v_aload_n (pc' := 7) F dX7_idleIn_6 rfl (j := 0) rfl rfl ?_
  refine v_iload_n (pc' := 8) F dX7_idleIn_7 rfl (j := 1) rfl rfl ?_
  have hv9j : nI 0 ≤ nI j ∧ nI j ≤ nI (D.1 - 1) := (bR_iff h1n (by omega)).mpr ⟨j, hj, rfl⟩
  have g4 := f3 _ _ (gnc (Ne.symm (g_neA hm hrows)) gn0) hrows
  refine v_callV (pc' := 11) (rt := (some .boolean)) (mcc := 0) (msc := 0) (As := [.int (nI j)]) (st := [.ref m]) F (fun l => c_X7_isVersion G z0 l (nI j) a2 g4 hnow hS.1 h1n hn64) gX7_idleIn_X7_isVersion rfl hv_X7_isVersion (by decide) (by decide) a2 rfl rfl rfl (Nat.le_of_ble_eq_true rfl) (by omega) (by omega) dX7_idleIn_8 rfl (fun v5 h1 hqv => ?_)
  rw [if_pos hv9j] at hqv; obtain ⟨rfl, rfl⟩ := hqv
  refine v_iconst (pc' := 12) (v := nI 1) F dX7_idleIn_11 (by decide) rfl ?_
  refine v_callV (pc' := 15) (rt := (some .boolean)) (mcc := 0) (msc := 0) (As := [.int (nI 1), .int (nI 1)]) (st := []) F (fun l => c_X7_right1 G z0 l (th := nI 0) (nI 1) (by decide) a2) gX7_idleIn_X7_right rfl hv_X7_right (by decide) (by decide) a2 rfl rfl rfl (Nat.le_of_ble_eq_true rfl) (by omega) (by omega) dX7_idleIn_12 rfl (fun v6 h1 hqr => ?_)
  obtain ⟨rfl, rfl⟩ := hqr
  refine w_if_ne (tgt := 20) (pc' := 18) F (by omega) dX7_idleIn_15 (by decide) rfl (fun _ => ?_) (fun c0 => absurd c0 (by omega))
  refine v_aload_n (pc' := 21) F dX7_idleIn_20 rfl (j := 0) rfl rfl ?_
  refine v_iload_n (pc' := 22) F dX7_idleIn_21 rfl (j := 1) rfl rfl ?_
  have g7 := f3 _ _ (gnc (Ne.symm (g_neA hm hvals)) gn0) hvals
  have g8 := f3 _ _ (gnc (Ne.symm (g_neA hm hmany)) gn0) hmany
  have g9 := f3 _ _ (gnc (Ne.symm (g_neA hm hway)) gn0) hway
  have g10 := f3 _ _ (gnc (Ne.symm (g_neA hm htold)) gn0) htold
  have g11 := f3 _ _ (gnc (Ne.symm (g_neA hm hoth)) gn0) hoth
  have g12 := f3 _ _ (gnc (Ne.symm (g_neA hm hlst)) gn0) hlst
  refine v_callV (pc' := 25) (rt := (some .int)) (mcc := 0) (msc := 0) (As := [.int (nI j)]) (st := []) F (fun l => s_X7_length G z0 l ⟨_, _, _, _, _, _, a2, g4, ⟨_, g7⟩, ⟨_, g8⟩, ⟨_, g9⟩, ⟨_, g10⟩, ⟨_, g11⟩, ⟨_, g12⟩, htw, how, hto⟩ hnow w9 hS hj) gX7_idleIn_X7_length rfl hv_X7_length (by decide) (by decide) a2 rfl rfl rfl (Nat.le_of_ble_eq_true rfl) (by omega) (by omega) dX7_idleIn_22 rfl (fun v14 h13 hqc => ?_)
  obtain ⟨rfl, hMA, -, frA⟩ := hqc
  have hMA0 := hMA
  obtain ⟨fl2, rl2, kd2, ok2, st2, wm2, hm2, hrows2, ⟨V2, hvals2⟩, ⟨M2, hmany2⟩, ⟨W2, hway2⟩, ⟨f2, htold2⟩, ⟨g2, hoth2⟩, ⟨ll2, hlst2⟩, -, -, -⟩ := hMA0
  refine v_istore_n (pc' := 26) (i := 2) (L' := [(2, .int (nI ((wVals (D.2.2.2.2 j)).length))), (0, .ref m), (1, .int (nI j))]) F dX7_idleIn_25 rfl (by decide) rfl rfl ?_
  refine v_aload_n (pc' := 27) F dX7_idleIn_26 rfl (j := 1) rfl rfl ?_
  refine v_iload_n (pc' := 28) F dX7_idleIn_27 rfl (j := 2) rfl rfl ?_
  refine v_callV (pc' := 31) (rt := none) (mcc := 0) (msc := 0) (As := [.int (nI j)]) (st := []) F (fun l => s_X7_lays G z0 l hMA hnow w9 hS hj) gX7_idleIn_X7_lays rfl hv_X7_lays (by decide) (by decide) hm2 rfl rfl rfl (Nat.le_of_ble_eq_true rfl) (by omega) (by omega) dX7_idleIn_28 rfl (fun v16 h15 hqc => ?_)
  obtain ⟨rfl, hLB, frB⟩ := hqc
  refine v_iconst (pc' := 32) (v := nI 0) F dX7_idleIn_31 (by decide) rfl ?_
  refine v_istore_n (pc' := 33) (i := 3) (L' := [(3, .int (nI 0)), (2, .int (nI ((wVals (D.2.2.2.2 j)).length))), (0, .ref m), (1, .int (nI j))]) F dX7_idleIn_32 rfl (by decide) rfl rfl ?_
  refine v_sub (L' := [(3, .int (nI 0)), (2, .int (nI ((wVals (D.2.2.2.2 j)).length))), (1, .int (nI j)), (0, .ref m)]) [0, 1, 3, 2] rfl ?_
  have fr17 : gfr [m, vals, many, way, told, oth, lst] h h15 := (gfr.t (gfr.mono f3 (by intro q9 z9 m9; apply z9; simp only [List.mem_cons, List.not_mem_nil, or_false] at m9 ⊢; omega)) (gfr.t frA frB))
  refine lp_X7_idleIn (l := l) (k := 0) (r := (wVals (D.2.2.2.2 j)).length) (os := (D.2.2.2.2 j)) F E (by omega) (by omega) hnow w9 hS hOv.2 hwl hLB (qOf_J hOv.1) (qOf_V hOv.1) rfl (by omega) (fun hA a1 a2 => ⟨?_, a1, gfr.t fr17 a2⟩)
  rw [Nat.zero_add]; rfl
