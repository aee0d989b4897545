theorem hv_X7_change : yX7_change.cls = RX7 ∧ yX7_change.cls ≠ "java/lang/invoke/MethodHandle" ∧ yX7_change.cls ≠ "java/lang/invoke/VarHandle" ∧ (parseMethodDescriptor yX7_change.desc).map (fun d => d.parameters.length) = some 0 := by decide +kernel
theorem hv_X7_makes : yX7_makes.cls = RX7 ∧ yX7_makes.cls ≠ "java/lang/invoke/MethodHandle" ∧ yX7_makes.cls ≠ "java/lang/invoke/VarHandle" ∧ (parseMethodDescriptor yX7_makes.desc).map (fun d => d.parameters.length) = some 2 := by decide +kernel
set_option maxHeartbeats 4000000 in
set_option maxRecDepth 100000 in
theorem c_X7_push (G : gG) (z0 : Nat) (l : Launch) {h : gH} {m rows asd vals many way told oth lst text now : Nat} {th fed len spot fa fat num frm may : Int32} {R : Nat → Int32} {D : Dt} {ud : Nat} {j k : Nat} (hMS : mS G h m rows asd vals many way told oth lst text th now (nI ud) fed len spot fa fat num frm may R) (hnow : now < 9) (w9 : wfD D) (hS : slD R (330 * now) D) (hud : ud ≤ 8) (hj : j < D.1) (hk : k < 100) (hn9 : D.1 < 64) : gC G z0 l yX7_push wsX7_push 6 131 [.ref m, .int (nI j), .int (nI k)] h (fun o h' => o = some (.int (nI D.1)) ∧ ∃ R' : Nat → Int32, mS G h' m rows asd vals many way told oth lst text (nI 0) ((now + 1) % 9) (nI (min 8 (ud + 1))) fed len spot fa fat num frm may R' ∧ slD R' (330 * ((now + 1) % 9)) (dAdd D j (nI k)) ∧ (∀ q, (q < 330 * ((now + 1) % 9) ∨ 330 * ((now + 1) % 9) + 330 ≤ q) → R' q = R q) ∧ gfr [rows, m, vals, many, way, told, oth, lst] h h') 0 0 := by
  have h1n := w9.1
  have hn64 := w9.2.1
  have hMS0 := hMS
  obtain ⟨fl, rl, kd, ok, st, wm, hm, hrows, ⟨V, hvals⟩, ⟨M, hmany⟩, ⟨W, hway⟩, ⟨f, htold⟩, ⟨g, hoth⟩, ⟨ll, hlst⟩, htw, how, hto⟩ := hMS
  have hj64 : j < 64 := by omega
  refine gC_of (cc := cX7_push) (nL := 3) (ret := (some .int)) (by decide) rfl (Nat.le_of_ble_eq_true rfl) ?_
  intro X F E _
  change gF G z0 X cX7_push 3 RX7 wsX7_push (some .int) "push" 6 131 _ _ at F
  show gV G z0 X 0 0 h 0 [(0, .ref m), (1, .int (nI j)), (2, .int (nI k))] []
  refine v_aload_n (pc' := 1) F dX7_push_0 rfl (j := 0) rfl rfl ?_
  refine v_iconst (pc' := 2) (v := nI 0) F dX7_push_1 (by decide) rfl ?_
  refine w_putf (pc' := 5) F k_X7_push_7 tyX7_ok nmX7 hm 0 (by decide) m_X7_push_f44 rfl  rfl rfl (show 0 < 26 by decide) [.int (nI 0), .ref rows, .ref asd, .int (nI now), .int (nI ud), .ref vals, .ref many, .int fl, .int rl, .int kd, .int ok, .int st, .ref way, .int wm, .ref told, .ref oth, .ref lst, .ref text, .int fed, .int len, .int spot, .int fa, .int fat, .int num, .int frm, .int may] rfl dX7_push_2 rfl (fun h1 a2 f3 => ?_)
  refine v_aload_n (pc' := 6) F dX7_push_5 rfl (j := 0) rfl rfl ?_
  refine v_aload_n (pc' := 7) F dX7_push_6 rfl (j := 0) rfl rfl ?_
  refine v_iload_n (pc' := 8) F dX7_push_7 rfl (j := 1) rfl rfl ?_
  have hv9j : nI 0 ≤ nI j ∧ nI j ≤ nI (D.1 - 1) := (bR_iff h1n (by omega)).mpr ⟨j, hj, rfl⟩
  have g4 := f3 _ _ (gnc (Ne.symm (g_neA hm hrows)) gn0) hrows
  refine v_callV (pc' := 11) (rt := (some .boolean)) (mcc := 0) (msc := 0) (As := [.int (nI j)]) (st := [.ref m]) F (fun l => c_X7_isVersion G z0 l (nI j) a2 g4 hnow hS.1 h1n hn64) gX7_push_X7_isVersion rfl hv_X7_isVersion (by decide) (by decide) a2 rfl rfl rfl (Nat.le_of_ble_eq_true rfl) (by omega) (by omega) dX7_push_8 rfl (fun v5 h1 hqv => ?_)
  rw [if_pos hv9j] at hqv; obtain ⟨rfl, rfl⟩ := hqv
  refine v_iconst (pc' := 12) (v := nI 1) F dX7_push_11 (by decide) rfl ?_
  refine v_callV (pc' := 15) (rt := (some .boolean)) (mcc := 0) (msc := 0) (As := [.int (nI 1), .int (nI 1)]) (st := []) F (fun l => c_X7_right1 G z0 l (th := nI 0) (nI 1) (by decide) a2) gX7_push_X7_right rfl hv_X7_right (by decide) (by decide) a2 rfl rfl rfl (Nat.le_of_ble_eq_true rfl) (by omega) (by omega) dX7_push_12 rfl (fun v6 h1 hqr => ?_)
  obtain ⟨rfl, rfl⟩ := hqr
  refine w_if_eq (tgt := 55) (pc' := 18) F (by omega) dX7_push_15 (by decide) rfl (fun c0 => absurd c0 (by omega)) (fun _ => ?_)
  refine v_aload_n (pc' := 19) F dX7_push_18 rfl (j := 0) rfl rfl ?_
  refine v_iload_n (pc' := 20) F dX7_push_19 rfl (j := 2) rfl rfl ?_
  refine v_iconst (pc' := 21) (v := nI 0) F dX7_push_20 (by decide) rfl ?_
  refine v_bipush (pc' := 23) (v := nI 99) F dX7_push_21 (by decide) rfl ?_
  have hi9k : nI 0 ≤ nI k ∧ nI k ≤ nI 99 := (bR_iff (n := 100) (by omega) (by omega)).mpr ⟨k, hk, rfl⟩
  refine v_callS (pc' := 26) (rt := (some .boolean)) (mcc := 0) (msc := 0) (As := [.int (nI k), .int (nI 0), .int (nI 99)]) (st := [.ref m]) F (fun l => c_X7_isIn G z0 l (nI k) (nI 0) (nI 99)) gX7_push_X7_isIn rfl hd_X7_isIn (by decide) (by decide) rfl rfl (Nat.le_of_ble_eq_true rfl) (by omega) (by omega) dX7_push_23 rfl (fun v7 h1 hqi => ?_)
  rw [if_pos hi9k] at hqi; obtain ⟨rfl, rfl⟩ := hqi
  refine v_iconst (pc' := 27) (v := nI 2) F dX7_push_26 (by decide) rfl ?_
  refine v_callV (pc' := 30) (rt := (some .boolean)) (mcc := 0) (msc := 0) (As := [.int (nI 1), .int (nI 2)]) (st := []) F (fun l => c_X7_right1 G z0 l (th := nI 0) (nI 2) (by decide) a2) gX7_push_X7_right rfl hv_X7_right (by decide) (by decide) a2 rfl rfl rfl (Nat.le_of_ble_eq_true rfl) (by omega) (by omega) dX7_push_27 rfl (fun v8 h1 hqr => ?_)
  obtain ⟨rfl, rfl⟩ := hqr
  refine w_if_eq (tgt := 55) (pc' := 33) F (by omega) dX7_push_30 (by decide) rfl (fun c0 => absurd c0 (by omega)) (fun _ => ?_)
  refine v_aload_n (pc' := 34) F dX7_push_33 rfl (j := 0) rfl rfl ?_
  refine v_aload_n (pc' := 35) F dX7_push_34 rfl (j := 0) rfl rfl ?_
  refine v_callV (pc' := 38) (rt := (some .int)) (mcc := 0) (msc := 0) (As := []) (st := [.ref m]) F (fun l => c_X7_versions G z0 l a2 g4 hnow hS.1) gX7_push_X7_versions rfl hv_X7_versions (by decide) (by decide) a2 rfl rfl rfl (Nat.le_of_ble_eq_true rfl) (by omega) (by omega) dX7_push_35 rfl (fun v9 h1 hqv => ?_)
  obtain ⟨rfl, rfl⟩ := hqv
  refine v_bipush (pc' := 40) (v := nI 64) F dX7_push_38 (by decide) rfl ?_
  refine w_icmp_ge (tgt := 47) (pc' := 43) F (by omega) (by omega) dX7_push_40 (by decide) rfl (fun c0 => absurd c0 (by omega)) (fun _ => ?_)
  refine v_iconst (pc' := 44) (v := nI 1) F dX7_push_43 (by decide) rfl ?_
  refine v_goto (tgt := 48) F dX7_push_44 (by decide) ?_
  refine v_iconst (pc' := 49) (v := nI 3) F dX7_push_48 (by decide) rfl ?_
  refine v_callV (pc' := 52) (rt := (some .boolean)) (mcc := 0) (msc := 0) (As := [.int (nI 1), .int (nI 3)]) (st := []) F (fun l => c_X7_right1 G z0 l (th := nI 0) (nI 3) (by decide) a2) gX7_push_X7_right rfl hv_X7_right (by decide) (by decide) a2 rfl rfl rfl (Nat.le_of_ble_eq_true rfl) (by omega) (by omega) dX7_push_49 rfl (fun v10 h1 hqr => ?_)
  obtain ⟨rfl, rfl⟩ := hqr
  refine w_if_ne (tgt := 57) (pc' := 55) F (by omega) dX7_push_52 (by decide) rfl (fun _ => ?_) (fun c0 => absurd c0 (by omega))
  refine v_aload_n (pc' := 58) F dX7_push_57 rfl (j := 0) rfl rfl ?_
  refine v_callV (pc' := 61) (rt := none) (mcc := 0) (msc := 0) (As := []) (st := []) F (fun l => c_X7_change G z0 l a2 g4 hnow hud) gX7_push_X7_change rfl hv_X7_change (by decide) (by decide) a2 rfl rfl rfl (Nat.le_of_ble_eq_true rfl) (by omega) (by omega) dX7_push_58 rfl (fun v12 h11 hqc => ?_)
  obtain ⟨rfl, RC, hmC, hrC, hoC, hcC, frC⟩ := hqc
  have hnx : ((now + 1) % 9) < 9 := Nat.mod_lt _ (by omega)
  have hSC : slD RC (330 * ((now + 1) % 9)) D := slD.copy w9 hS hcC
  have hwk : wOk ((nI k, D.2.1) :: D.2.2.2.2 j) := ⟨(w9.os hj).1, w9.2.2.1, w9.2.2.2.1, fun z => absurd z (nI_m1 hk), fun _ => ⟨k, hk, rfl⟩⟩
  have g13 := f3 _ _ (gnc (Ne.symm (g_neA hm hvals)) gn0) hvals
  have g14 := frC _ _ (gnc (Ne.symm (g_neA a2 g13)) (gnc (g_neL g13 g4 (by decide)) gn0)) g13
  have g15 := f3 _ _ (gnc (Ne.symm (g_neA hm hmany)) gn0) hmany
  have g16 := frC _ _ (gnc (Ne.symm (g_neA a2 g15)) (gnc (g_neL g15 g4 (by decide)) gn0)) g15
  have g17 := f3 _ _ (gnc (Ne.symm (g_neA hm hway)) gn0) hway
  have g18 := frC _ _ (gnc (Ne.symm (g_neA a2 g17)) (gnc (g_neL g17 g4 (by decide)) gn0)) g17
  have g19 := f3 _ _ (gnc (Ne.symm (g_neA hm htold)) gn0) htold
  have g20 := frC _ _ (gnc (Ne.symm (g_neA a2 g19)) (gnc (g_neL g19 g4 (by decide)) gn0)) g19
  have g21 := f3 _ _ (gnc (Ne.symm (g_neA hm hoth)) gn0) hoth
  have g22 := frC _ _ (gnc (Ne.symm (g_neA a2 g21)) (gnc (g_neL g21 g4 (by decide)) gn0)) g21
  have g23 := f3 _ _ (gnc (Ne.symm (g_neA hm hlst)) gn0) hlst
  have g24 := frC _ _ (gnc (Ne.symm (g_neA a2 g23)) (gnc (g_neL g23 g4 (by decide)) gn0)) g23
  refine v_aload_n (pc' := 62) F dX7_push_61 rfl (j := 0) rfl rfl ?_
  refine v_iload_n (pc' := 63) F dX7_push_62 rfl (j := 1) rfl rfl ?_
  refine v_iload_n (pc' := 64) F dX7_push_63 rfl (j := 2) rfl rfl ?_
  refine v_callV (pc' := 67) (rt := (some .int)) (mcc := 0) (msc := 0) (As := [.int (nI j), .int (nI k)]) (st := []) F (fun l => c_X7_makes G z0 l (nI k) ⟨_, _, _, _, _, _, hmC, hrC, ⟨_, g14⟩, ⟨_, g16⟩, ⟨_, g18⟩, ⟨_, g20⟩, ⟨_, g22⟩, ⟨_, g24⟩, htw, how, hto⟩ hnx w9 hSC hn9 hj hwk) gX7_push_X7_makes rfl hv_X7_makes (by decide) (by decide) hmC rfl rfl rfl (Nat.le_of_ble_eq_true rfl) (by omega) (by omega) dX7_push_64 rfl (fun v26 h25 hqc => ?_)
  obtain ⟨rfl, RD, hMD, hSD, hoD, frD⟩ := hqc
  have fr27 : gfr [rows, m, vals, many, way, told, oth, lst] h h25 := (gfr.t (gfr.mono f3 (by intro q9 z9 m9; apply z9; simp only [List.mem_cons, List.not_mem_nil, or_false] at m9 ⊢; omega)) (gfr.t (gfr.mono frC (by intro q9 z9 m9; apply z9; simp only [List.mem_cons, List.not_mem_nil, or_false] at m9 ⊢; omega)) frD))
  exact v_iret F E (by omega) (by omega)  dX7_push_67 ⟨rfl, RD, hMD, hSD, fun q hq => by rw [hoD q hq, hoC q hq], fr27⟩
set_option maxHeartbeats 4000000 in
set_option maxRecDepth 100000 in
theorem o3_X7_push (G : gG) (z0 : Nat) (l : Launch) {h : gH} {m rows asd vals many way told oth lst text now : Nat} {th und fed len spot fa fat num frm may : Int32} {R : Nat → Int32} {D : Dt} {j k : Nat} (hMS : mS G h m rows asd vals many way told oth lst text th now und fed len spot fa fat num frm may R) (hnow : now < 9) (w9 : wfD D) (hS : slD R (330 * now) D) (hj : j < D.1) (hk : k < 100) (hn9 : ¬ D.1 < 64) : gC G z0 l yX7_push wsX7_push 6 131 [.ref m, .int (nI j), .int (nI k)] h (fun o h' => (∃ y9, o = some (.int y9)) ∧ mS G h' m rows asd vals many way told oth lst text (nI 3) now und fed len spot fa fat num frm may R ∧ gfr [m, vals, many, way, told, oth, lst] h h') 0 0 := by
  have h1n := w9.1
  have hn64 := w9.2.1
  have hMS0 := hMS
  obtain ⟨fl, rl, kd, ok, st, wm, hm, hrows, ⟨V, hvals⟩, ⟨M, hmany⟩, ⟨W, hway⟩, ⟨f, htold⟩, ⟨g, hoth⟩, ⟨ll, hlst⟩, htw, how, hto⟩ := hMS
  have hj64 : j < 64 := by omega
  refine gC_of (cc := cX7_push) (nL := 3) (ret := (some .int)) (by decide) rfl (Nat.le_of_ble_eq_true rfl) ?_
  intro X F E _
  change gF G z0 X cX7_push 3 RX7 wsX7_push (some .int) "push" 6 131 _ _ at F
  show gV G z0 X 0 0 h 0 [(0, .ref m), (1, .int (nI j)), (2, .int (nI k))] []
  refine v_aload_n (pc' := 1) F dX7_push_0 rfl (j := 0) rfl rfl ?_
  refine v_iconst (pc' := 2) (v := nI 0) F dX7_push_1 (by decide) rfl ?_
  refine w_putf (pc' := 5) F k_X7_push_7 tyX7_ok nmX7 hm 0 (by decide) m_X7_push_f44 rfl  rfl rfl (show 0 < 26 by decide) [.int (nI 0), .ref rows, .ref asd, .int (nI now), .int und, .ref vals, .ref many, .int fl, .int rl, .int kd, .int ok, .int st, .ref way, .int wm, .ref told, .ref oth, .ref lst, .ref text, .int fed, .int len, .int spot, .int fa, .int fat, .int num, .int frm, .int may] rfl dX7_push_2 rfl (fun h1 a2 f3 => ?_)
  refine v_aload_n (pc' := 6) F dX7_push_5 rfl (j := 0) rfl rfl ?_
  refine v_aload_n (pc' := 7) F dX7_push_6 rfl (j := 0) rfl rfl ?_
  refine v_iload_n (pc' := 8) F dX7_push_7 rfl (j := 1) rfl rfl ?_
  have hv9j : nI 0 ≤ nI j ∧ nI j ≤ nI (D.1 - 1) := (bR_iff h1n (by omega)).mpr ⟨j, hj, rfl⟩
  have g4 := f3 _ _ (gnc (Ne.symm (g_neA hm hrows)) gn0) hrows
  refine v_callV (pc' := 11) (rt := (some .boolean)) (mcc := 0) (msc := 0) (As := [.int (nI j)]) (st := [.ref m]) F (fun l => c_X7_isVersion G z0 l (nI j) a2 g4 hnow hS.1 h1n hn64) gX7_push_X7_isVersion rfl hv_X7_isVersion (by decide) (by decide) a2 rfl rfl rfl (Nat.le_of_ble_eq_true rfl) (by omega) (by omega) dX7_push_8 rfl (fun v5 h1 hqv => ?_)
  rw [if_pos hv9j] at hqv; obtain ⟨rfl, rfl⟩ := hqv
  refine v_iconst (pc' := 12) (v := nI 1) F dX7_push_11 (by decide) rfl ?_
  refine v_callV (pc' := 15) (rt := (some .boolean)) (mcc := 0) (msc := 0) (As := [.int (nI 1), .int (nI 1)]) (st := []) F (fun l => c_X7_right1 G z0 l (th := nI 0) (nI 1) (by decide) a2) gX7_push_X7_right rfl hv_X7_right (by decide) (by decide) a2 rfl rfl rfl (Nat.le_of_ble_eq_true rfl) (by omega) (by omega) dX7_push_12 rfl (fun v6 h1 hqr => ?_)
  obtain ⟨rfl, rfl⟩ := hqr
  refine w_if_eq (tgt := 55) (pc' := 18) F (by omega) dX7_push_15 (by decide) rfl (fun c0 => absurd c0 (by omega)) (fun _ => ?_)
  refine v_aload_n (pc' := 19) F dX7_push_18 rfl (j := 0) rfl rfl ?_
  refine v_iload_n (pc' := 20) F dX7_push_19 rfl (j := 2) rfl rfl ?_
  refine v_iconst (pc' := 21) (v := nI 0) F dX7_push_20 (by decide) rfl ?_
  refine v_bipush (pc' := 23) (v := nI 99) F dX7_push_21 (by decide) rfl ?_
  have hi9k : nI 0 ≤ nI k ∧ nI k ≤ nI 99 := (bR_iff (n := 100) (by omega) (by omega)).mpr ⟨k, hk, rfl⟩
  refine v_callS (pc' := 26) (rt := (some .boolean)) (mcc := 0) (msc := 0) (As := [.int (nI k), .int (nI 0), .int (nI 99)]) (st := [.ref m]) F (fun l => c_X7_isIn G z0 l (nI k) (nI 0) (nI 99)) gX7_push_X7_isIn rfl hd_X7_isIn (by decide) (by decide) rfl rfl (Nat.le_of_ble_eq_true rfl) (by omega) (by omega) dX7_push_23 rfl (fun v7 h1 hqi => ?_)
  rw [if_pos hi9k] at hqi; obtain ⟨rfl, rfl⟩ := hqi
  refine v_iconst (pc' := 27) (v := nI 2) F dX7_push_26 (by decide) rfl ?_
  refine v_callV (pc' := 30) (rt := (some .boolean)) (mcc := 0) (msc := 0) (As := [.int (nI 1), .int (nI 2)]) (st := []) F (fun l => c_X7_right1 G z0 l (th := nI 0) (nI 2) (by decide) a2) gX7_push_X7_right rfl hv_X7_right (by decide) (by decide) a2 rfl rfl rfl (Nat.le_of_ble_eq_true rfl) (by omega) (by omega) dX7_push_27 rfl (fun v8 h1 hqr => ?_)
  obtain ⟨rfl, rfl⟩ := hqr
  refine w_if_eq (tgt := 55) (pc' := 33) F (by omega) dX7_push_30 (by decide) rfl (fun c0 => absurd c0 (by omega)) (fun _ => ?_)
  refine v_aload_n (pc' := 34) F dX7_push_33 rfl (j := 0) rfl rfl ?_
  refine v_aload_n (pc' := 35) F dX7_push_34 rfl (j := 0) rfl rfl ?_
  refine v_callV (pc' := 38) (rt := (some .int)) (mcc := 0) (msc := 0) (As := []) (st := [.ref m]) F (fun l => c_X7_versions G z0 l a2 g4 hnow hS.1) gX7_push_X7_versions rfl hv_X7_versions (by decide) (by decide) a2 rfl rfl rfl (Nat.le_of_ble_eq_true rfl) (by omega) (by omega) dX7_push_35 rfl (fun v9 h1 hqv => ?_)
  obtain ⟨rfl, rfl⟩ := hqv
  refine v_bipush (pc' := 40) (v := nI 64) F dX7_push_38 (by decide) rfl ?_
  refine w_icmp_ge (tgt := 47) (pc' := 43) F (by omega) (by omega) dX7_push_40 (by decide) rfl (fun _ => ?_) (fun c0 => absurd c0 (by omega))
  refine v_iconst (pc' := 48) (v := nI 0) F dX7_push_47 (by decide) rfl ?_
  refine v_iconst (pc' := 49) (v := nI 3) F dX7_push_48 (by decide) rfl ?_
  refine v_callV (pc' := 52) (rt := (some .boolean)) (mcc := 0) (msc := 0) (As := [.int (nI 0), .int (nI 3)]) (st := []) F (fun l => c_X7_right0 G z0 l (th := nI 0) (nI 3) (by decide) a2) gX7_push_X7_right rfl hv_X7_right (by decide) (by decide) a2 rfl rfl rfl (Nat.le_of_ble_eq_true rfl) (by omega) (by omega) dX7_push_49 rfl (fun v11 h10 hqr => ?_)
  obtain ⟨rfl, hmR, frR⟩ := hqr
  refine w_if_ne (tgt := 57) (pc' := 55) F (by omega) dX7_push_52 (by decide) rfl (fun c0 => absurd c0 (by omega)) (fun _ => ?_)
  refine v_iconst (pc' := 56) (v := nI 0) F dX7_push_55 (by decide) rfl ?_
  have fr12 : gfr [m, vals, many, way, told, oth, lst] h h10 := (gfr.t (gfr.mono f3 (by intro q9 z9 m9; apply z9; simp only [List.mem_cons, List.not_mem_nil, or_false] at m9 ⊢; omega)) (gfr.mono frR (by intro q9 z9 m9; apply z9; simp only [List.mem_cons, List.not_mem_nil, or_false] at m9 ⊢; omega)))
  have g13 := frR _ _ (gnc (Ne.symm (g_neA a2 g4)) gn0) g4
  have g14 := f3 _ _ (gnc (Ne.symm (g_neA hm hvals)) gn0) hvals
  have g15 := frR _ _ (gnc (Ne.symm (g_neA a2 g14)) gn0) g14
  have g16 := f3 _ _ (gnc (Ne.symm (g_neA hm hmany)) gn0) hmany
  have g17 := frR _ _ (gnc (Ne.symm (g_neA a2 g16)) gn0) g16
  have g18 := f3 _ _ (gnc (Ne.symm (g_neA hm hway)) gn0) hway
  have g19 := frR _ _ (gnc (Ne.symm (g_neA a2 g18)) gn0) g18
  have g20 := f3 _ _ (gnc (Ne.symm (g_neA hm htold)) gn0) htold
  have g21 := frR _ _ (gnc (Ne.symm (g_neA a2 g20)) gn0) g20
  have g22 := f3 _ _ (gnc (Ne.symm (g_neA hm hoth)) gn0) hoth
  have g23 := frR _ _ (gnc (Ne.symm (g_neA a2 g22)) gn0) g22
  have g24 := f3 _ _ (gnc (Ne.symm (g_neA hm hlst)) gn0) hlst
  have g25 := frR _ _ (gnc (Ne.symm (g_neA a2 g24)) gn0) g24
  exact v_iret F E (by omega) (by omega)  dX7_push_56 ⟨⟨_, rfl⟩, ⟨_, _, _, _, _, _, hmR, g13, ⟨_, g15⟩, ⟨_, g17⟩, ⟨_, g19⟩, ⟨_, g21⟩, ⟨_, g23⟩, ⟨_, g25⟩, htw, how, hto⟩, fr12⟩
set_option maxHeartbeats 4000000 in
set_option maxRecDepth 100000 in
theorem c_X7_pop (G : gG) (z0 : Nat) (l : Launch) {h : gH} {m rows asd vals many way told oth lst text now : Nat} {th fed len spot fa fat num frm may : Int32} {R : Nat → Int32} {D : Dt} {ud : Nat} {j : Nat} (hMS : mS G h m rows asd vals many way told oth lst text th now (nI ud) fed len spot fa fat num frm may R) (hnow : now < 9) (w9 : wfD D) (hS : slD R (330 * now) D) (hud : ud ≤ 8) (hj : j < D.1) (hne : (wVals (D.2.2.2.2 j)) ≠ []) (hn9 : D.1 < 64) : gC G z0 l yX7_pop wsX7_pop 6 131 [.ref m, .int (nI j)] h (fun o h' => o = some (.int (nI D.1)) ∧ ∃ R' : Nat → Int32, mS G h' m rows asd vals many way told oth lst text (nI 0) ((now + 1) % 9) (nI (min 8 (ud + 1))) fed len spot fa fat num frm may R' ∧ slD R' (330 * ((now + 1) % 9)) (dAdd D j (-1)) ∧ (∀ q, (q < 330 * ((now + 1) % 9) ∨ 330 * ((now + 1) % 9) + 330 ≤ q) → R' q = R q) ∧ gfr [rows, m, vals, many, way, told, oth, lst] h h') 0 0 := by
  have h1n := w9.1
  have hn64 := w9.2.1
  have hMS0 := hMS
  obtain ⟨fl, rl, kd, ok, st, wm, hm, hrows, ⟨V, hvals⟩, ⟨M, hmany⟩, ⟨W, hway⟩, ⟨f, htold⟩, ⟨g, hoth⟩, ⟨ll, hlst⟩, htw, how, hto⟩ := hMS
  have hj64 : j < 64 := by omega
  have hwl := wVals_lt w9 hj
  refine gC_of (cc := cX7_pop) (nL := 2) (ret := (some .int)) (by decide) rfl (Nat.le_of_ble_eq_true rfl) ?_
  intro X F E _
  change gF G z0 X cX7_pop 2 RX7 wsX7_pop (some .int) "pop" 6 131 _ _ at F
  show gV G z0 X 0 0 h 0 [(0, .ref m), (1, .int (nI j))] []
  refine v_aload_n (pc' := 1) F dX7_pop_0 rfl (j := 0) rfl rfl ?_
  refine v_iconst (pc' := 2) (v := nI 0) F dX7_pop_1 (by decide) rfl ?_
  refine w_putf (pc' := 5) F k_X7_pop_7 tyX7_ok nmX7 hm 0 (by decide) m_X7_pop_f44 rfl  rfl rfl (show 0 < 26 by decide) [.int (nI 0), .ref rows, .ref asd, .int (nI now), .int (nI ud), .ref vals, .ref many, .int fl, .int rl, .int kd, .int ok, .int st, .ref way, .int wm, .ref told, .ref oth, .ref lst, .ref text, .int fed, .int len, .int spot, .int fa, .int fat, .int num, .int frm, .int may] rfl dX7_pop_2 rfl (fun h1 a2 f3 => ?_)
  refine v_aload_n (pc' := 6) F dX7_pop_5 rfl (j := 0) rfl rfl ?_
  refine v_aload_n (pc' := 7) F dX7_pop_6 rfl (j := 0) rfl rfl ?_
  refine v_iload_n (pc' := 8) F dX7_pop_7 rfl (j := 1) rfl rfl ?_
  have hv9j : nI 0 ≤ nI j ∧ nI j ≤ nI (D.1 - 1) := (bR_iff h1n (by omega)).mpr ⟨j, hj, rfl⟩
  have g4 := f3 _ _ (gnc (Ne.symm (g_neA hm hrows)) gn0) hrows
  refine v_callV (pc' := 11) (rt := (some .boolean)) (mcc := 0) (msc := 0) (As := [.int (nI j)]) (st := [.ref m]) F (fun l => c_X7_isVersion G z0 l (nI j) a2 g4 hnow hS.1 h1n hn64) gX7_pop_X7_isVersion rfl hv_X7_isVersion (by decide) (by decide) a2 rfl rfl rfl (Nat.le_of_ble_eq_true rfl) (by omega) (by omega) dX7_pop_8 rfl (fun v5 h1 hqv => ?_)
  rw [if_pos hv9j] at hqv; obtain ⟨rfl, rfl⟩ := hqv
  refine v_iconst (pc' := 12) (v := nI 1) F dX7_pop_11 (by decide) rfl ?_
  refine v_callV (pc' := 15) (rt := (some .boolean)) (mcc := 0) (msc := 0) (As := [.int (nI 1), .int (nI 1)]) (st := []) F (fun l => c_X7_right1 G z0 l (th := nI 0) (nI 1) (by decide) a2) gX7_pop_X7_right rfl hv_X7_right (by decide) (by decide) a2 rfl rfl rfl (Nat.le_of_ble_eq_true rfl) (by omega) (by omega) dX7_pop_12 rfl (fun v6 h1 hqr => ?_)
  obtain ⟨rfl, rfl⟩ := hqr
  refine w_if_eq (tgt := 48) (pc' := 18) F (by omega) dX7_pop_15 (by decide) rfl (fun c0 => absurd c0 (by omega)) (fun _ => ?_)
  refine v_aload_n (pc' := 19) F dX7_pop_18 rfl (j := 0) rfl rfl ?_
  refine v_aload_n (pc' := 20) F dX7_pop_19 rfl (j := 0) rfl rfl ?_
  refine v_iload_n (pc' := 21) F dX7_pop_20 rfl (j := 1) rfl rfl ?_
  have g7 := f3 _ _ (gnc (Ne.symm (g_neA hm hvals)) gn0) hvals
  have g8 := f3 _ _ (gnc (Ne.symm (g_neA hm hmany)) gn0) hmany
  have g9 := f3 _ _ (gnc (Ne.symm (g_neA hm hway)) gn0) hway
  have g10 := f3 _ _ (gnc (Ne.symm (g_neA hm htold)) gn0) htold
  have g11 := f3 _ _ (gnc (Ne.symm (g_neA hm hoth)) gn0) hoth
  have g12 := f3 _ _ (gnc (Ne.symm (g_neA hm hlst)) gn0) hlst
  refine v_callV (pc' := 24) (rt := (some .int)) (mcc := 0) (msc := 0) (As := [.int (nI j)]) (st := [.ref m]) F (fun l => s_X7_length G z0 l ⟨_, _, _, _, _, _, a2, g4, ⟨_, g7⟩, ⟨_, g8⟩, ⟨_, g9⟩, ⟨_, g10⟩, ⟨_, g11⟩, ⟨_, g12⟩, htw, how, hto⟩ hnow w9 hS hj) gX7_pop_X7_length rfl hv_X7_length (by decide) (by decide) a2 rfl rfl rfl (Nat.le_of_ble_eq_true rfl) (by omega) (by omega) dX7_pop_21 rfl (fun v14 h13 hqc => ?_)
  obtain ⟨rfl, hMA, -, frA⟩ := hqc
  obtain ⟨fl2, rl2, kd2, ok2, st2, wm2, hm2, hrows2, ⟨V2, hvals2⟩, ⟨M2, hmany2⟩, ⟨W2, hway2⟩, ⟨f2, htold2⟩, ⟨g2, hoth2⟩, ⟨ll2, hlst2⟩, -, -, -⟩ := hMA
  have hpos : 0 < (wVals (D.2.2.2.2 j)).length := List.length_pos_iff.mpr hne
  refine w_if_le (tgt := 40) (pc' := 27) F (by omega) dX7_pop_24 (by decide) rfl (fun c0 => absurd c0 (by omega)) (fun _ => ?_)
  refine v_aload_n (pc' := 28) F dX7_pop_27 rfl (j := 0) rfl rfl ?_
  refine v_callV (pc' := 31) (rt := (some .int)) (mcc := 0) (msc := 0) (As := []) (st := [.ref m]) F (fun l => c_X7_versions G z0 l hm2 hrows2 hnow hS.1) gX7_pop_X7_versions rfl hv_X7_versions (by decide) (by decide) hm2 rfl rfl rfl (Nat.le_of_ble_eq_true rfl) (by omega) (by omega) dX7_pop_28 rfl (fun v15 h13 hqv => ?_)
  obtain ⟨rfl, rfl⟩ := hqv
  refine v_bipush (pc' := 33) (v := nI 64) F dX7_pop_31 (by decide) rfl ?_
  refine w_icmp_ge (tgt := 40) (pc' := 36) F (by omega) (by omega) dX7_pop_33 (by decide) rfl (fun c0 => absurd c0 (by omega)) (fun _ => ?_)
  refine v_iconst (pc' := 37) (v := nI 1) F dX7_pop_36 (by decide) rfl ?_
  refine v_goto (tgt := 41) F dX7_pop_37 (by decide) ?_
  refine v_iconst (pc' := 42) (v := nI 2) F dX7_pop_41 (by decide) rfl ?_
  refine v_callV (pc' := 45) (rt := (some .boolean)) (mcc := 0) (msc := 0) (As := [.int (nI 1), .int (nI 2)]) (st := []) F (fun l => c_X7_right1 G z0 l (th := nI 0) (nI 2) (by decide) hm2) gX7_pop_X7_right rfl hv_X7_right (by decide) (by decide) hm2 rfl rfl rfl (Nat.le_of_ble_eq_true rfl) (by omega) (by omega) dX7_pop_42 rfl (fun v16 h13 hqr => ?_)
  obtain ⟨rfl, rfl⟩ := hqr
  refine w_if_ne (tgt := 50) (pc' := 48) F (by omega) dX7_pop_45 (by decide) rfl (fun _ => ?_) (fun c0 => absurd c0 (by omega))
  refine v_aload_n (pc' := 51) F dX7_pop_50 rfl (j := 0) rfl rfl ?_
  refine v_callV (pc' := 54) (rt := none) (mcc := 0) (msc := 0) (As := []) (st := []) F (fun l => c_X7_change G z0 l hm2 hrows2 hnow hud) gX7_pop_X7_change rfl hv_X7_change (by decide) (by decide) hm2 rfl rfl rfl (Nat.le_of_ble_eq_true rfl) (by omega) (by omega) dX7_pop_51 rfl (fun v18 h17 hqc => ?_)
  obtain ⟨rfl, RC, hmC, hrC, hoC, hcC, frC⟩ := hqc
  have hnx : ((now + 1) % 9) < 9 := Nat.mod_lt _ (by omega)
  have hSC : slD RC (330 * ((now + 1) % 9)) D := slD.copy w9 hS hcC
  have hwk : wOk ((-1, D.2.1) :: D.2.2.2.2 j) := ⟨(w9.os hj).1, w9.2.2.1, w9.2.2.2.1, fun _ => hne, fun z => absurd rfl z⟩
  have g19 := frC _ _ (gnc (Ne.symm (g_neA hm2 hvals2)) (gnc (g_neL hvals2 hrows2 (by decide)) gn0)) hvals2
  have g20 := frC _ _ (gnc (Ne.symm (g_neA hm2 hmany2)) (gnc (g_neL hmany2 hrows2 (by decide)) gn0)) hmany2
  have g21 := frC _ _ (gnc (Ne.symm (g_neA hm2 hway2)) (gnc (g_neL hway2 hrows2 (by decide)) gn0)) hway2
  have g22 := frC _ _ (gnc (Ne.symm (g_neA hm2 htold2)) (gnc (g_neL htold2 hrows2 (by decide)) gn0)) htold2
  have g23 := frC _ _ (gnc (Ne.symm (g_neA hm2 hoth2)) (gnc (g_neL hoth2 hrows2 (by decide)) gn0)) hoth2
  have g24 := frC _ _ (gnc (Ne.symm (g_neA hm2 hlst2)) (gnc (g_neL hlst2 hrows2 (by decide)) gn0)) hlst2
  refine v_aload_n (pc' := 55) F dX7_pop_54 rfl (j := 0) rfl rfl ?_
  refine v_iload_n (pc' := 56) F dX7_pop_55 rfl (j := 1) rfl rfl ?_
  refine v_iconst (pc' := 57) (v := (-1)) F dX7_pop_56 (by decide) rfl ?_
  refine v_callV (pc' := 60) (rt := (some .int)) (mcc := 0) (msc := 0) (As := [.int (nI j), .int (-1)]) (st := []) F (fun l => c_X7_makes G z0 l (-1) ⟨_, _, _, _, _, _, hmC, hrC, ⟨_, g19⟩, ⟨_, g20⟩, ⟨_, g21⟩, ⟨_, g22⟩, ⟨_, g23⟩, ⟨_, g24⟩, htw, how, hto⟩ hnx w9 hSC hn9 hj hwk) gX7_pop_X7_makes rfl hv_X7_makes (by decide) (by decide) hmC rfl rfl rfl (Nat.le_of_ble_eq_true rfl) (by omega) (by omega) dX7_pop_57 rfl (fun v26 h25 hqc => ?_)
  obtain ⟨rfl, RD, hMD, hSD, hoD, frD⟩ := hqc
  have fr27 : gfr [rows, m, vals, many, way, told, oth, lst] h h25 := (gfr.t (gfr.mono f3 (by intro q9 z9 m9; apply z9; simp only [List.mem_cons, List.not_mem_nil, or_false] at m9 ⊢; omega)) (gfr.t (gfr.mono frA (by intro q9 z9 m9; apply z9; simp only [List.mem_cons, List.not_mem_nil, or_false] at m9 ⊢; omega)) (gfr.t (gfr.mono frC (by intro q9 z9 m9; apply z9; simp only [List.mem_cons, List.not_mem_nil, or_false] at m9 ⊢; omega)) frD)))
  exact v_iret F E (by omega) (by omega)  dX7_pop_60 ⟨rfl, RD, hMD, hSD, fun q hq => by rw [hoD q hq, hoC q hq], fr27⟩
set_option maxHeartbeats 4000000 in
set_option maxRecDepth 100000 in
theorem o2_X7_pop (G : gG) (z0 : Nat) (l : Launch) {h : gH} {m rows asd vals many way told oth lst text now : Nat} {th und fed len spot fa fat num frm may : Int32} {R : Nat → Int32} {D : Dt} {j : Nat} (hMS : mS G h m rows asd vals many way told oth lst text th now und fed len spot fa fat num frm may R) (hnow : now < 9) (w9 : wfD D) (hS : slD R (330 * now) D) (hj : j < D.1) (hno : ¬ ((wVals (D.2.2.2.2 j)) ≠ [] ∧ D.1 < 64)) : gC G z0 l yX7_pop wsX7_pop 6 131 [.ref m, .int (nI j)] h (fun o h' => (∃ y9, o = some (.int y9)) ∧ mS G h' m rows asd vals many way told oth lst text (nI 2) now und fed len spot fa fat num frm may R ∧ gfr [m, vals, many, way, told, oth, lst] h h') 0 0 := by
  have h1n := w9.1
  have hn64 := w9.2.1
  have hMS0 := hMS
  obtain ⟨fl, rl, kd, ok, st, wm, hm, hrows, ⟨V, hvals⟩, ⟨M, hmany⟩, ⟨W, hway⟩, ⟨f, htold⟩, ⟨g, hoth⟩, ⟨ll, hlst⟩, htw, how, hto⟩ := hMS
  have hj64 : j < 64 := by omega
  have hwl := wVals_lt w9 hj
  refine gC_of (cc := cX7_pop) (nL := 2) (ret := (some .int)) (by decide) rfl (Nat.le_of_ble_eq_true rfl) ?_
  intro X F E _
  change gF G z0 X cX7_pop 2 RX7 wsX7_pop (some .int) "pop" 6 131 _ _ at F
  show gV G z0 X 0 0 h 0 [(0, .ref m), (1, .int (nI j))] []
  refine v_aload_n (pc' := 1) F dX7_pop_0 rfl (j := 0) rfl rfl ?_
  refine v_iconst (pc' := 2) (v := nI 0) F dX7_pop_1 (by decide) rfl ?_
  refine w_putf (pc' := 5) F k_X7_pop_7 tyX7_ok nmX7 hm 0 (by decide) m_X7_pop_f44 rfl  rfl rfl (show 0 < 26 by decide) [.int (nI 0), .ref rows, .ref asd, .int (nI now), .int und, .ref vals, .ref many, .int fl, .int rl, .int kd, .int ok, .int st, .ref way, .int wm, .ref told, .ref oth, .ref lst, .ref text, .int fed, .int len, .int spot, .int fa, .int fat, .int num, .int frm, .int may] rfl dX7_pop_2 rfl (fun h1 a2 f3 => ?_)
  refine v_aload_n (pc' := 6) F dX7_pop_5 rfl (j := 0) rfl rfl ?_
  refine v_aload_n (pc' := 7) F dX7_pop_6 rfl (j := 0) rfl rfl ?_
  refine v_iload_n (pc' := 8) F dX7_pop_7 rfl (j := 1) rfl rfl ?_
  have hv9j : nI 0 ≤ nI j ∧ nI j ≤ nI (D.1 - 1) := (bR_iff h1n (by omega)).mpr ⟨j, hj, rfl⟩
  have g4 := f3 _ _ (gnc (Ne.symm (g_neA hm hrows)) gn0) hrows
  refine v_callV (pc' := 11) (rt := (some .boolean)) (mcc := 0) (msc := 0) (As := [.int (nI j)]) (st := [.ref m]) F (fun l => c_X7_isVersion G z0 l (nI j) a2 g4 hnow hS.1 h1n hn64) gX7_pop_X7_isVersion rfl hv_X7_isVersion (by decide) (by decide) a2 rfl rfl rfl (Nat.le_of_ble_eq_true rfl) (by omega) (by omega) dX7_pop_8 rfl (fun v5 h1 hqv => ?_)
  rw [if_pos hv9j] at hqv; obtain ⟨rfl, rfl⟩ := hqv
  refine v_iconst (pc' := 12) (v := nI 1) F dX7_pop_11 (by decide) rfl ?_
  refine v_callV (pc' := 15) (rt := (some .boolean)) (mcc := 0) (msc := 0) (As := [.int (nI 1), .int (nI 1)]) (st := []) F (fun l => c_X7_right1 G z0 l (th := nI 0) (nI 1) (by decide) a2) gX7_pop_X7_right rfl hv_X7_right (by decide) (by decide) a2 rfl rfl rfl (Nat.le_of_ble_eq_true rfl) (by omega) (by omega) dX7_pop_12 rfl (fun v6 h1 hqr => ?_)
  obtain ⟨rfl, rfl⟩ := hqr
  refine w_if_eq (tgt := 48) (pc' := 18) F (by omega) dX7_pop_15 (by decide) rfl (fun c0 => absurd c0 (by omega)) (fun _ => ?_)
  refine v_aload_n (pc' := 19) F dX7_pop_18 rfl (j := 0) rfl rfl ?_
  refine v_aload_n (pc' := 20) F dX7_pop_19 rfl (j := 0) rfl rfl ?_
  refine v_iload_n (pc' := 21) F dX7_pop_20 rfl (j := 1) rfl rfl ?_
  have g7 := f3 _ _ (gnc (Ne.symm (g_neA hm hvals)) gn0) hvals
  have g8 := f3 _ _ (gnc (Ne.symm (g_neA hm hmany)) gn0) hmany
  have g9 := f3 _ _ (gnc (Ne.symm (g_neA hm hway)) gn0) hway
  have g10 := f3 _ _ (gnc (Ne.symm (g_neA hm htold)) gn0) htold
  have g11 := f3 _ _ (gnc (Ne.symm (g_neA hm hoth)) gn0) hoth
  have g12 := f3 _ _ (gnc (Ne.symm (g_neA hm hlst)) gn0) hlst
  refine v_callV (pc' := 24) (rt := (some .int)) (mcc := 0) (msc := 0) (As := [.int (nI j)]) (st := [.ref m]) F (fun l => s_X7_length G z0 l ⟨_, _, _, _, _, _, a2, g4, ⟨_, g7⟩, ⟨_, g8⟩, ⟨_, g9⟩, ⟨_, g10⟩, ⟨_, g11⟩, ⟨_, g12⟩, htw, how, hto⟩ hnow w9 hS hj) gX7_pop_X7_length rfl hv_X7_length (by decide) (by decide) a2 rfl rfl rfl (Nat.le_of_ble_eq_true rfl) (by omega) (by omega) dX7_pop_21 rfl (fun v14 h13 hqc => ?_)
  obtain ⟨rfl, hMA, -, frA⟩ := hqc
  obtain ⟨fl2, rl2, kd2, ok2, st2, wm2, hm2, hrows2, ⟨V2, hvals2⟩, ⟨M2, hmany2⟩, ⟨W2, hway2⟩, ⟨f2, htold2⟩, ⟨g2, hoth2⟩, ⟨ll2, hlst2⟩, -, -, -⟩ := hMA
  refine w_if_le (tgt := 40) (pc' := 27) F (by omega) dX7_pop_24 (by decide) rfl (fun k0 => ?_) (fun k0 => ?_)
  · refine v_iconst (pc' := 41) (v := nI 0) F dX7_pop_40 (by decide) rfl ?_
    refine v_iconst (pc' := 42) (v := nI 2) F dX7_pop_41 (by decide) rfl ?_
    refine v_callV (pc' := 45) (rt := (some .boolean)) (mcc := 0) (msc := 0) (As := [.int (nI 0), .int (nI 2)]) (st := []) F (fun l => c_X7_right0 G z0 l (th := nI 0) (nI 2) (by decide) hm2) gX7_pop_X7_right rfl hv_X7_right (by decide) (by decide) hm2 rfl rfl rfl (Nat.le_of_ble_eq_true rfl) (by omega) (by omega) dX7_pop_42 rfl (fun v16 h15 hqr => ?_)
    obtain ⟨rfl, hmR, frR⟩ := hqr
    refine w_if_ne (tgt := 50) (pc' := 48) F (by omega) dX7_pop_45 (by decide) rfl (fun c0 => absurd c0 (by omega)) (fun _ => ?_)
    refine v_iconst (pc' := 49) (v := nI 0) F dX7_pop_48 (by decide) rfl ?_
    have fr17 : gfr [m, vals, many, way, told, oth, lst] h h15 := (gfr.t (gfr.mono f3 (by intro q9 z9 m9; apply z9; simp only [List.mem_cons, List.not_mem_nil, or_false] at m9 ⊢; omega)) (gfr.t frA (gfr.mono frR (by intro q9 z9 m9; apply z9; simp only [List.mem_cons, List.not_mem_nil, or_false] at m9 ⊢; omega))))
    have g18 := frR _ _ (gnc (Ne.symm (g_neA hm2 hrows2)) gn0) hrows2
    have g19 := frR _ _ (gnc (Ne.symm (g_neA hm2 hvals2)) gn0) hvals2
    have g20 := frR _ _ (gnc (Ne.symm (g_neA hm2 hmany2)) gn0) hmany2
    have g21 := frR _ _ (gnc (Ne.symm (g_neA hm2 hway2)) gn0) hway2
    have g22 := frR _ _ (gnc (Ne.symm (g_neA hm2 htold2)) gn0) htold2
    have g23 := frR _ _ (gnc (Ne.symm (g_neA hm2 hoth2)) gn0) hoth2
    have g24 := frR _ _ (gnc (Ne.symm (g_neA hm2 hlst2)) gn0) hlst2
    exact v_iret F E (by omega) (by omega)  dX7_pop_49 ⟨⟨_, rfl⟩, ⟨_, _, _, _, _, _, hmR, g18, ⟨_, g19⟩, ⟨_, g20⟩, ⟨_, g21⟩, ⟨_, g22⟩, ⟨_, g23⟩, ⟨_, g24⟩, htw, how, hto⟩, fr17⟩
  · refine v_aload_n (pc' := 28) F dX7_pop_27 rfl (j := 0) rfl rfl ?_
    refine v_callV (pc' := 31) (rt := (some .int)) (mcc := 0) (msc := 0) (As := []) (st := [.ref m]) F (fun l => c_X7_versions G z0 l hm2 hrows2 hnow hS.1) gX7_pop_X7_versions rfl hv_X7_versions (by decide) (by decide) hm2 rfl rfl rfl (Nat.le_of_ble_eq_true rfl) (by omega) (by omega) dX7_pop_28 rfl (fun v25 h13 hqv => ?_)
    obtain ⟨rfl, rfl⟩ := hqv
    refine v_bipush (pc' := 33) (v := nI 64) F dX7_pop_31 (by decide) rfl ?_
    refine w_icmp_ge (tgt := 40) (pc' := 36) F (by omega) (by omega) dX7_pop_33 (by decide) rfl (fun _ => ?_) (fun c0 => absurd (show D.1 < 64 by omega) (fun zi => hno ⟨fun ze => by rw [ze] at k0; exact absurd k0 (by simp), zi⟩))
    refine v_iconst (pc' := 41) (v := nI 0) F dX7_pop_40 (by decide) rfl ?_
    refine v_iconst (pc' := 42) (v := nI 2) F dX7_pop_41 (by decide) rfl ?_
    refine v_callV (pc' := 45) (rt := (some .boolean)) (mcc := 0) (msc := 0) (As := [.int (nI 0), .int (nI 2)]) (st := []) F (fun l => c_X7_right0 G z0 l (th := nI 0) (nI 2) (by decide) hm2) gX7_pop_X7_right rfl hv_X7_right (by decide) (by decide) hm2 rfl rfl rfl (Nat.le_of_ble_eq_true rfl) (by omega) (by omega) dX7_pop_42 rfl (fun v27 h26 hqr => ?_)
    obtain ⟨rfl, hmR, frR⟩ := hqr
    refine w_if_ne (tgt := 50) (pc' := 48) F (by omega) dX7_pop_45 (by decide) rfl (fun c0 => absurd c0 (by omega)) (fun _ => ?_)
    refine v_iconst (pc' := 49) (v := nI 0) F dX7_pop_48 (by decide) rfl ?_
    have fr28 : gfr [m, vals, many, way, told, oth, lst] h h26 := (gfr.t (gfr.mono f3 (by intro q9 z9 m9; apply z9; simp only [List.mem_cons, List.not_mem_nil, or_false] at m9 ⊢; omega)) (gfr.t frA (gfr.mono frR (by intro q9 z9 m9; apply z9; simp only [List.mem_cons, List.not_mem_nil, or_false] at m9 ⊢; omega))))
    have g29 := frR _ _ (gnc (Ne.symm (g_neA hm2 hrows2)) gn0) hrows2
    have g30 := frR _ _ (gnc (Ne.symm (g_neA hm2 hvals2)) gn0) hvals2
    have g31 := frR _ _ (gnc (Ne.symm (g_neA hm2 hmany2)) gn0) hmany2
    have g32 := frR _ _ (gnc (Ne.symm (g_neA hm2 hway2)) gn0) hway2
    have g33 := frR _ _ (gnc (Ne.symm (g_neA hm2 htold2)) gn0) htold2
    have g34 := frR _ _ (gnc (Ne.symm (g_neA hm2 hoth2)) gn0) hoth2
    have g35 := frR _ _ (gnc (Ne.symm (g_neA hm2 hlst2)) gn0) hlst2
    exact v_iret F E (by omega) (by omega)  dX7_pop_49 ⟨⟨_, rfl⟩, ⟨_, _, _, _, _, _, hmR, g29, ⟨_, g30⟩, ⟨_, g31⟩, ⟨_, g32⟩, ⟨_, g33⟩, ⟨_, g34⟩, ⟨_, g35⟩, htw, how, hto⟩, fr28⟩
theorem slD.pace {R R2 : Nat → Int32} {b k : Nat} {D : Dt} (h : slD R b D) (g : R2 (b + 1) = nI k) (e : ∀ q, q ≠ b + 1 → R2 q = R q) : slD R2 b (dPace D k) := by
  obtain ⟨a1, a2, a3, a4⟩ := h
  refine ⟨by rw [e _ (by omega)]; exact a1, g, by rw [e _ (by omega)]; exact a3, fun v hv => ?_⟩
  obtain ⟨c0, c1, c2, c3, c4⟩ := a4 v hv
  exact ⟨by rw [e _ (by omega)]; exact c0, by rw [e _ (by omega)]; exact c1, by rw [e _ (by omega)]; exact c2, by rw [e _ (by omega)]; exact c3, by rw [e _ (by omega)]; exact c4⟩
theorem in24 {x : Int32} : (nI 2 ≤ x ∧ x ≤ nI 4) ↔ ∃ k, 2 ≤ k ∧ k ≤ 4 ∧ x = nI k := by
  constructor
  · intro ⟨a, b⟩
    have h0 : nI 0 ≤ x := Int32.le_trans (nI_le (Nat.zero_le 2) (by omega)) a
    obtain ⟨j, hj, e⟩ := (bR_iff (x := x) (n := 5) (by omega) (by omega)).mp ⟨h0, b⟩
    refine ⟨j, ?_, by omega, e⟩
    rcases Nat.lt_or_ge j 2 with z | z
    · rw [e] at a
      exact absurd (nI_lt z (by omega)) (Int32.not_lt.mpr a)
    · exact z
  · rintro ⟨k, h1, h2, rfl⟩
    exact ⟨nI_le h1 (by omega), nI_le h2 (by omega)⟩
theorem k_X7_rule_7 : gCl wsX7_rule 7 RX7 TX7 26 := ⟨by decide +kernel, rfl⟩
theorem m_X7_rule_f44 : Cond.fieldLink RX7 44 "SteadyQueuesModel" "thrown" "I" ∈ wsX7_rule := by decide +kernel
set_option maxHeartbeats 4000000 in
set_option maxRecDepth 100000 in
theorem c_X7_rule (G : gG) (z0 : Nat) (l : Launch) {h : gH} {m rows asd vals many way told oth lst text now : Nat} {th fed len spot fa fat num frm may : Int32} {R : Nat → Int32} {D : Dt} {ud : Nat} {k : Nat} (hMS : mS G h m rows asd vals many way told oth lst text th now (nI ud) fed len spot fa fat num frm may R) (hnow : now < 9) (w9 : wfD D) (hS : slD R (330 * now) D) (hud : ud ≤ 8) (hk2 : 2 ≤ k) (hk4 : k ≤ 4) : gC G z0 l yX7_rule wsX7_rule 2 43 [.ref m, .int (nI k)] h (fun o h' => o = some (.int (nI D.2.1)) ∧ ∃ R' : Nat → Int32, mS G h' m rows asd vals many way told oth lst text (nI 0) ((now + 1) % 9) (nI (min 8 (ud + 1))) fed len spot fa fat num frm may R' ∧ slD R' (330 * ((now + 1) % 9)) (dPace D k) ∧ (∀ q, (q < 330 * ((now + 1) % 9) ∨ 330 * ((now + 1) % 9) + 330 ≤ q) → R' q = R q) ∧ gfr [rows, m, vals, many, way, told, oth, lst] h h') 0 0 := by
  have h1n := w9.1
  have hn64 := w9.2.1
  have hMS0 := hMS
  obtain ⟨fl, rl, kd, ok, st, wm, hm, hrows, ⟨V, hvals⟩, ⟨M, hmany⟩, ⟨W, hway⟩, ⟨f, htold⟩, ⟨g, hoth⟩, ⟨ll, hlst⟩, htw, how, hto⟩ := hMS
  refine gC_of (cc := cX7_rule) (nL := 3) (ret := (some .int)) (by decide) rfl (Nat.le_of_ble_eq_true rfl) ?_
  intro X F E _
  change gF G z0 X cX7_rule 3 RX7 wsX7_rule (some .int) "rule" 2 43 _ _ at F
  show gV G z0 X 0 0 h 0 [(0, .ref m), (1, .int (nI k))] []
  refine v_aload_n (pc' := 1) F dX7_rule_0 rfl (j := 0) rfl rfl ?_
  refine v_iconst (pc' := 2) (v := nI 0) F dX7_rule_1 (by decide) rfl ?_
  refine w_putf (pc' := 5) F k_X7_rule_7 tyX7_ok nmX7 hm 0 (by decide) m_X7_rule_f44 rfl  rfl rfl (show 0 < 26 by decide) [.int (nI 0), .ref rows, .ref asd, .int (nI now), .int (nI ud), .ref vals, .ref many, .int fl, .int rl, .int kd, .int ok, .int st, .ref way, .int wm, .ref told, .ref oth, .ref lst, .ref text, .int fed, .int len, .int spot, .int fa, .int fat, .int num, .int frm, .int may] rfl dX7_rule_2 rfl (fun h1 a2 f3 => ?_)
  refine v_aload_n (pc' := 6) F dX7_rule_5 rfl (j := 0) rfl rfl ?_
  refine v_iload_n (pc' := 7) F dX7_rule_6 rfl (j := 1) rfl rfl ?_
  refine v_iconst (pc' := 8) (v := nI 2) F dX7_rule_7 (by decide) rfl ?_
  refine v_iconst (pc' := 9) (v := nI 4) F dX7_rule_8 (by decide) rfl ?_
  have hi9 : (nI 2 ≤ (nI k) ∧ (nI k) ≤ nI 4) := in24.mpr ⟨k, hk2, hk4, rfl⟩
  refine v_callS (pc' := 12) (rt := (some .boolean)) (mcc := 0) (msc := 0) (As := [.int (nI k), .int (nI 2), .int (nI 4)]) (st := [.ref m]) F (fun l => c_X7_isIn G z0 l (nI k) (nI 2) (nI 4)) gX7_rule_X7_isIn rfl hd_X7_isIn (by decide) (by decide) rfl rfl (Nat.le_of_ble_eq_true rfl) (by omega) (by omega) dX7_rule_9 rfl (fun v4 h1 hqi => ?_)
  rw [if_pos hi9] at hqi; obtain ⟨rfl, rfl⟩ := hqi
  refine v_iconst (pc' := 13) (v := nI 1) F dX7_rule_12 (by decide) rfl ?_
  refine v_callV (pc' := 16) (rt := (some .boolean)) (mcc := 0) (msc := 0) (As := [.int (nI 1), .int (nI 1)]) (st := []) F (fun l => c_X7_right1 G z0 l (th := nI 0) (nI 1) (by decide) a2) gX7_rule_X7_right rfl hv_X7_right (by decide) (by decide) a2 rfl rfl rfl (Nat.le_of_ble_eq_true rfl) (by omega) (by omega) dX7_rule_13 rfl (fun v5 h1 hqr => ?_)
  obtain ⟨rfl, rfl⟩ := hqr
  refine w_if_ne (tgt := 21) (pc' := 19) F (by omega) dX7_rule_16 (by decide) rfl (fun _ => ?_) (fun c0 => absurd c0 (by omega))
  refine v_aload_n (pc' := 22) F dX7_rule_21 rfl (j := 0) rfl rfl ?_
  have g6 := f3 _ _ (gnc (Ne.symm (g_neA hm hrows)) gn0) hrows
  refine v_callV (pc' := 25) (rt := none) (mcc := 0) (msc := 0) (As := []) (st := []) F (fun l => c_X7_change G z0 l a2 g6 hnow hud) gX7_rule_X7_change rfl hv_X7_change (by decide) (by decide) a2 rfl rfl rfl (Nat.le_of_ble_eq_true rfl) (by omega) (by omega) dX7_rule_22 rfl (fun v8 h7 hqc => ?_)
  obtain ⟨rfl, RC, hmC, hrC, hoC, hcC, frC⟩ := hqc
  have hnx : ((now + 1) % 9) < 9 := Nat.mod_lt _ (by omega)
  have hSC : slD RC (330 * ((now + 1) % 9)) D := slD.copy w9 hS hcC
  refine v_aload_n (pc' := 26) F dX7_rule_25 rfl (j := 0) rfl rfl ?_
  refine v_iconst (pc' := 27) (v := nI 1) F dX7_rule_26 (by decide) rfl ?_
  have hgC : RC (330 * ((now + 1) % 9) + 1) = nI D.2.1 := hSC.2.1
  refine v_callV (pc' := 30) (rt := (some .int)) (mcc := 0) (msc := 0) (As := [.int (nI 1)]) (st := []) F (fun l => c_X7_get G z0 l (k := 1) hmC hrC hnx (by omega)) gX7_rule_X7_get rfl hv_X7_get (by decide) (by decide) hmC rfl rfl rfl (Nat.le_of_ble_eq_true rfl) (by omega) (by omega) dX7_rule_27 rfl (fun v9 h7 hqg => ?_)
  rw [hgC] at hqg; obtain ⟨rfl, rfl⟩ := hqg
  refine v_istore_n (pc' := 31) (i := 2) (L' := [(2, .int (nI D.2.1)), (0, .ref m), (1, .int (nI k))]) F dX7_rule_30 rfl (by decide) rfl rfl ?_
  refine v_aload_n (pc' := 32) F dX7_rule_31 rfl (j := 1) rfl rfl ?_
  refine v_iconst (pc' := 33) (v := nI 1) F dX7_rule_32 (by decide) rfl ?_
  refine v_iload_n (pc' := 34) F dX7_rule_33 rfl (j := 2) rfl rfl ?_
  refine v_callV (pc' := 37) (rt := none) (mcc := 0) (msc := 0) (As := [.int (nI 1), .int (nI k)]) (st := []) F (fun l => c_X7_put G z0 l (k := 1) (nI k) hmC hrC hnx (by omega)) gX7_rule_X7_put rfl hv_X7_put (by decide) (by decide) hmC rfl rfl rfl (Nat.le_of_ble_eq_true rfl) (by omega) (by omega) dX7_rule_34 rfl (fun v11 h10 hqw => ?_)
  obtain ⟨rfl, hrP, frP⟩ := hqw
  refine v_iload_n (pc' := 38) F dX7_rule_37 rfl (j := 0) rfl rfl ?_
  have fr12 : gfr [rows, m, vals, many, way, told, oth, lst] h h10 := (gfr.t (gfr.mono f3 (by intro q9 z9 m9; apply z9; simp only [List.mem_cons, List.not_mem_nil, or_false] at m9 ⊢; omega)) (gfr.t (gfr.mono frC (by intro q9 z9 m9; apply z9; simp only [List.mem_cons, List.not_mem_nil, or_false] at m9 ⊢; omega)) (gfr.mono frP (by intro q9 z9 m9; apply z9; simp only [List.mem_cons, List.not_mem_nil, or_false] at m9 ⊢; omega))))
  have g13 := frP _ _ (gnc (g_neA hmC hrC) gn0) hmC
  have g14 := f3 _ _ (gnc (Ne.symm (g_neA hm hvals)) gn0) hvals
  have g15 := frC _ _ (gnc (Ne.symm (g_neA a2 g14)) (gnc (g_neL g14 g6 (by decide)) gn0)) g14
  have g16 := frP _ _ (gnc (g_neL g15 hrC (by decide)) gn0) g15
  have g17 := f3 _ _ (gnc (Ne.symm (g_neA hm hmany)) gn0) hmany
  have g18 := frC _ _ (gnc (Ne.symm (g_neA a2 g17)) (gnc (g_neL g17 g6 (by decide)) gn0)) g17
  have g19 := frP _ _ (gnc (g_neL g18 hrC (by decide)) gn0) g18
  have g20 := f3 _ _ (gnc (Ne.symm (g_neA hm hway)) gn0) hway
  have g21 := frC _ _ (gnc (Ne.symm (g_neA a2 g20)) (gnc (g_neL g20 g6 (by decide)) gn0)) g20
  have g22 := frP _ _ (gnc (g_neL g21 hrC (by decide)) gn0) g21
  have g23 := f3 _ _ (gnc (Ne.symm (g_neA hm htold)) gn0) htold
  have g24 := frC _ _ (gnc (Ne.symm (g_neA a2 g23)) (gnc (g_neL g23 g6 (by decide)) gn0)) g23
  have g25 := frP _ _ (gnc (g_neL g24 hrC (by decide)) gn0) g24
  have g26 := f3 _ _ (gnc (Ne.symm (g_neA hm hoth)) gn0) hoth
  have g27 := frC _ _ (gnc (Ne.symm (g_neA a2 g26)) (gnc (g_neL g26 g6 (by decide)) gn0)) g26
  have g28 := frP _ _ (gnc (g_neL g27 hrC (by decide)) gn0) g27
  have g29 := f3 _ _ (gnc (Ne.symm (g_neA hm hlst)) gn0) hlst
  have g30 := frC _ _ (gnc (Ne.symm (g_neA a2 g29)) (gnc (g_neL g29 g6 (by decide)) gn0)) g29
  have g31 := frP _ _ (gnc (g_neL g30 hrC (by decide)) gn0) g30
  exact v_iret F E (by omega) (by omega)  dX7_rule_38 ⟨rfl, _, ⟨_, _, _, _, _, _, g13, hrP, ⟨_, g16⟩, ⟨_, g19⟩, ⟨_, g22⟩, ⟨_, g25⟩, ⟨_, g28⟩, ⟨_, g31⟩, htw, how, hto⟩, slD.pace hSC (upd_eq _ _ _) (fun q hq => upd_ne hq), fun q hq => by rw [upd_ne (by omega), hoC q hq], fr12⟩
set_option maxHeartbeats 4000000 in
set_option maxRecDepth 100000 in
theorem o1_X7_rule (G : gG) (z0 : Nat) (l : Launch) {h : gH} {m rows asd vals many way told oth lst text now : Nat} {th und fed len spot fa fat num frm may : Int32} {R : Nat → Int32} {D : Dt} (hMS : mS G h m rows asd vals many way told oth lst text th now und fed len spot fa fat num frm may R) (hnow : now < 9) (w9 : wfD D) (hS : slD R (330 * now) D) (x : Int32) (hxx : ¬ ∃ k, 2 ≤ k ∧ k ≤ 4 ∧ x = nI k) : gC G z0 l yX7_rule wsX7_rule 2 43 [.ref m, .int x] h (fun o h' => (∃ y9, o = some (.int y9)) ∧ mS G h' m rows asd vals many way told oth lst text (nI 1) now und fed len spot fa fat num frm may R ∧ gfr [m, vals, many, way, told, oth, lst] h h') 0 0 := by
  have h1n := w9.1
  have hn64 := w9.2.1
  have hMS0 := hMS
  obtain ⟨fl, rl, kd, ok, st, wm, hm, hrows, ⟨V, hvals⟩, ⟨M, hmany⟩, ⟨W, hway⟩, ⟨f, htold⟩, ⟨g, hoth⟩, ⟨ll, hlst⟩, htw, how, hto⟩ := hMS
  refine gC_of (cc := cX7_rule) (nL := 3) (ret := (some .int)) (by decide) rfl (Nat.le_of_ble_eq_true rfl) ?_
  intro X F E _
  change gF G z0 X cX7_rule 3 RX7 wsX7_rule (some .int) "rule" 2 43 _ _ at F
  show gV G z0 X 0 0 h 0 [(0, .ref m), (1, .int x)] []
  refine v_aload_n (pc' := 1) F dX7_rule_0 rfl (j := 0) rfl rfl ?_
  refine v_iconst (pc' := 2) (v := nI 0) F dX7_rule_1 (by decide) rfl ?_
  refine w_putf (pc' := 5) F k_X7_rule_7 tyX7_ok nmX7 hm 0 (by decide) m_X7_rule_f44 rfl  rfl rfl (show 0 < 26 by decide) [.int (nI 0), .ref rows, .ref asd, .int (nI now), .int und, .ref vals, .ref many, .int fl, .int rl, .int kd, .int ok, .int st, .ref way, .int wm, .ref told, .ref oth, .ref lst, .ref text, .int fed, .int len, .int spot, .int fa, .int fat, .int num, .int frm, .int may] rfl dX7_rule_2 rfl (fun h1 a2 f3 => ?_)
  refine v_aload_n (pc' := 6) F dX7_rule_5 rfl (j := 0) rfl rfl ?_
  refine v_iload_n (pc' := 7) F dX7_rule_6 rfl (j := 1) rfl rfl ?_
  refine v_iconst (pc' := 8) (v := nI 2) F dX7_rule_7 (by decide) rfl ?_
  refine v_iconst (pc' := 9) (v := nI 4) F dX7_rule_8 (by decide) rfl ?_
  have hi9 : ¬ (nI 2 ≤ x ∧ x ≤ nI 4) := fun z => hxx (in24.mp z)
  refine v_callS (pc' := 12) (rt := (some .boolean)) (mcc := 0) (msc := 0) (As := [.int x, .int (nI 2), .int (nI 4)]) (st := [.ref m]) F (fun l => c_X7_isIn G z0 l x (nI 2) (nI 4)) gX7_rule_X7_isIn rfl hd_X7_isIn (by decide) (by decide) rfl rfl (Nat.le_of_ble_eq_true rfl) (by omega) (by omega) dX7_rule_9 rfl (fun v4 h1 hqi => ?_)
  rw [if_neg hi9] at hqi; obtain ⟨rfl, rfl⟩ := hqi
  refine v_iconst (pc' := 13) (v := nI 1) F dX7_rule_12 (by decide) rfl ?_
  refine v_callV (pc' := 16) (rt := (some .boolean)) (mcc := 0) (msc := 0) (As := [.int (nI 0), .int (nI 1)]) (st := []) F (fun l => c_X7_right0 G z0 l (th := nI 0) (nI 1) (by decide) a2) gX7_rule_X7_right rfl hv_X7_right (by decide) (by decide) a2 rfl rfl rfl (Nat.le_of_ble_eq_true rfl) (by omega) (by omega) dX7_rule_13 rfl (fun v6 h5 hqr => ?_)
  obtain ⟨rfl, hmR, frR⟩ := hqr
  refine w_if_ne (tgt := 21) (pc' := 19) F (by omega) dX7_rule_16 (by decide) rfl (fun c0 => absurd c0 (by omega)) (fun _ => ?_)
  refine v_iconst (pc' := 20) (v := nI 0) F dX7_rule_19 (by decide) rfl ?_
  have fr7 : gfr [m, vals, many, way, told, oth, lst] h h5 := (gfr.t (gfr.mono f3 (by intro q9 z9 m9; apply z9; simp only [List.mem_cons, List.not_mem_nil, or_false] at m9 ⊢; omega)) (gfr.mono frR (by intro q9 z9 m9; apply z9; simp only [List.mem_cons, List.not_mem_nil, or_false] at m9 ⊢; omega)))
  have g8 := f3 _ _ (gnc (Ne.symm (g_neA hm hrows)) gn0) hrows
  have g9 := frR _ _ (gnc (Ne.symm (g_neA a2 g8)) gn0) g8
  have g10 := f3 _ _ (gnc (Ne.symm (g_neA hm hvals)) gn0) hvals
  have g11 := frR _ _ (gnc (Ne.symm (g_neA a2 g10)) gn0) g10
  have g12 := f3 _ _ (gnc (Ne.symm (g_neA hm hmany)) gn0) hmany
  have g13 := frR _ _ (gnc (Ne.symm (g_neA a2 g12)) gn0) g12
  have g14 := f3 _ _ (gnc (Ne.symm (g_neA hm hway)) gn0) hway
  have g15 := frR _ _ (gnc (Ne.symm (g_neA a2 g14)) gn0) g14
  have g16 := f3 _ _ (gnc (Ne.symm (g_neA hm htold)) gn0) htold
  have g17 := frR _ _ (gnc (Ne.symm (g_neA a2 g16)) gn0) g16
  have g18 := f3 _ _ (gnc (Ne.symm (g_neA hm hoth)) gn0) hoth
  have g19 := frR _ _ (gnc (Ne.symm (g_neA a2 g18)) gn0) g18
  have g20 := f3 _ _ (gnc (Ne.symm (g_neA hm hlst)) gn0) hlst
  have g21 := frR _ _ (gnc (Ne.symm (g_neA a2 g20)) gn0) g20
  exact v_iret F E (by omega) (by omega)  dX7_rule_20 ⟨⟨_, rfl⟩, ⟨_, _, _, _, _, _, hmR, g9, ⟨_, g11⟩, ⟨_, g13⟩, ⟨_, g15⟩, ⟨_, g17⟩, ⟨_, g19⟩, ⟨_, g21⟩, htw, how, hto⟩, fr7⟩
theorem k_X7_undo_7 : gCl wsX7_undo 7 RX7 TX7 26 := ⟨by decide +kernel, rfl⟩
theorem m_X7_undo_f44 : Cond.fieldLink RX7 44 "SteadyQueuesModel" "thrown" "I" ∈ wsX7_undo := by decide +kernel
theorem m_X7_undo_f58 : Cond.fieldLink RX7 58 "SteadyQueuesModel" "undoable" "I" ∈ wsX7_undo := by decide +kernel
set_option maxHeartbeats 4000000 in
set_option maxRecDepth 100000 in
theorem c0_X7_undo (G : gG) (z0 : Nat) (l : Launch) {h : gH} {m rows asd vals many way told oth lst text now : Nat} {th fed len spot fa fat num frm may : Int32} {R : Nat → Int32} {ud : Nat} (hMS : mS G h m rows asd vals many way told oth lst text th now (nI ud) fed len spot fa fat num frm may R) (hz : ud = 0) : gC G z0 l yX7_undo wsX7_undo 0 0 [.ref m] h (fun o h' => o = some (.int (-1)) ∧ mS G h' m rows asd vals many way told oth lst text (nI 0) now (nI ud) fed len spot fa fat num frm may R ∧ gfr [m, vals, many, way, told, oth, lst] h h') 0 0 := by
  have hMS0 := hMS
  obtain ⟨fl, rl, kd, ok, st, wm, hm, hrows, ⟨V, hvals⟩, ⟨M, hmany⟩, ⟨W, hway⟩, ⟨f, htold⟩, ⟨g, hoth⟩, ⟨ll, hlst⟩, htw, how, hto⟩ := hMS
  subst hz
  refine gC_of (cc := cX7_undo) (nL := 1) (ret := (some .int)) (by decide) rfl (Nat.le_of_ble_eq_true rfl) ?_
  intro X F E _
  change gF G z0 X cX7_undo 1 RX7 wsX7_undo (some .int) "undo" 0 0 _ _ at F
  show gV G z0 X 0 0 h 0 [(0, .ref m)] []
  refine v_aload_n (pc' := 1) F dX7_undo_0 rfl (j := 0) rfl rfl ?_
  refine v_iconst (pc' := 2) (v := nI 0) F dX7_undo_1 (by decide) rfl ?_
  refine w_putf (pc' := 5) F k_X7_undo_7 tyX7_ok nmX7 hm 0 (by decide) m_X7_undo_f44 rfl  rfl rfl (show 0 < 26 by decide) [.int (nI 0), .ref rows, .ref asd, .int (nI now), .int (nI 0), .ref vals, .ref many, .int fl, .int rl, .int kd, .int ok, .int st, .ref way, .int wm, .ref told, .ref oth, .ref lst, .ref text, .int fed, .int len, .int spot, .int fa, .int fat, .int num, .int frm, .int may] rfl dX7_undo_2 rfl (fun h1 a2 f3 => ?_)
  refine v_aload_n (pc' := 6) F dX7_undo_5 rfl (j := 0) rfl rfl ?_
  refine v_getf (pc' := 9) (v := .int (nI 0)) F k_X7_undo_7 a2 4 (by decide) m_X7_undo_f58 rfl dX7_undo_6 rfl ?_
  refine w_if_ne (tgt := 14) (pc' := 12) F (by omega) dX7_undo_9 (by decide) rfl (fun c0 => absurd c0 (by omega)) (fun _ => ?_)
  refine v_iconst (pc' := 13) (v := (-1)) F dX7_undo_12 (by decide) rfl ?_
  have fr4 : gfr [m, vals, many, way, told, oth, lst] h h1 := (gfr.mono f3 (by intro q9 z9 m9; apply z9; simp only [List.mem_cons, List.not_mem_nil, or_false] at m9 ⊢; omega))
  have g5 := f3 _ _ (gnc (Ne.symm (g_neA hm hrows)) gn0) hrows
  have g6 := f3 _ _ (gnc (Ne.symm (g_neA hm hvals)) gn0) hvals
  have g7 := f3 _ _ (gnc (Ne.symm (g_neA hm hmany)) gn0) hmany
  have g8 := f3 _ _ (gnc (Ne.symm (g_neA hm hway)) gn0) hway
  have g9 := f3 _ _ (gnc (Ne.symm (g_neA hm htold)) gn0) htold
  have g10 := f3 _ _ (gnc (Ne.symm (g_neA hm hoth)) gn0) hoth
  have g11 := f3 _ _ (gnc (Ne.symm (g_neA hm hlst)) gn0) hlst
  exact v_iret F E (by omega) (by omega)  dX7_undo_13 ⟨rfl, ⟨_, _, _, _, _, _, a2, g5, ⟨_, g6⟩, ⟨_, g7⟩, ⟨_, g8⟩, ⟨_, g9⟩, ⟨_, g10⟩, ⟨_, g11⟩, htw, how, hto⟩, fr4⟩
theorem m_X7_undo_f47 : Cond.fieldLink RX7 47 "SteadyQueuesModel" "now" "I" ∈ wsX7_undo := by decide +kernel
set_option maxHeartbeats 4000000 in
set_option maxRecDepth 100000 in
theorem c_X7_undo (G : gG) (z0 : Nat) (l : Launch) {h : gH} {m rows asd vals many way told oth lst text now : Nat} {th fed len spot fa fat num frm may : Int32} {R : Nat → Int32} {ud : Nat} (hMS : mS G h m rows asd vals many way told oth lst text th now (nI ud) fed len spot fa fat num frm may R) (hnow : now < 9) (hud : ud ≤ 8) (hz : 0 < ud) : gC G z0 l yX7_undo wsX7_undo 0 0 [.ref m] h (fun o h' => o = some (.int (nI (ud - 1))) ∧ mS G h' m rows asd vals many way told oth lst text (nI 0) ((now + 8) % 9) (nI (ud - 1)) fed len spot fa fat num frm may R ∧ gfr [m, vals, many, way, told, oth, lst] h h') 0 0 := by
  have hMS0 := hMS
  obtain ⟨fl, rl, kd, ok, st, wm, hm, hrows, ⟨V, hvals⟩, ⟨M, hmany⟩, ⟨W, hway⟩, ⟨f, htold⟩, ⟨g, hoth⟩, ⟨ll, hlst⟩, htw, how, hto⟩ := hMS
  refine gC_of (cc := cX7_undo) (nL := 1) (ret := (some .int)) (by decide) rfl (Nat.le_of_ble_eq_true rfl) ?_
  intro X F E _
  change gF G z0 X cX7_undo 1 RX7 wsX7_undo (some .int) "undo" 0 0 _ _ at F
  show gV G z0 X 0 0 h 0 [(0, .ref m)] []
  refine v_aload_n (pc' := 1) F dX7_undo_0 rfl (j := 0) rfl rfl ?_
  refine v_iconst (pc' := 2) (v := nI 0) F dX7_undo_1 (by decide) rfl ?_
  refine w_putf (pc' := 5) F k_X7_undo_7 tyX7_ok nmX7 hm 0 (by decide) m_X7_undo_f44 rfl  rfl rfl (show 0 < 26 by decide) [.int (nI 0), .ref rows, .ref asd, .int (nI now), .int (nI ud), .ref vals, .ref many, .int fl, .int rl, .int kd, .int ok, .int st, .ref way, .int wm, .ref told, .ref oth, .ref lst, .ref text, .int fed, .int len, .int spot, .int fa, .int fat, .int num, .int frm, .int may] rfl dX7_undo_2 rfl (fun h1 a2 f3 => ?_)
  refine v_aload_n (pc' := 6) F dX7_undo_5 rfl (j := 0) rfl rfl ?_
  refine v_getf (pc' := 9) (v := .int (nI ud)) F k_X7_undo_7 a2 4 (by decide) m_X7_undo_f58 rfl dX7_undo_6 rfl ?_
  refine w_if_ne (tgt := 14) (pc' := 12) F (by omega) dX7_undo_9 (by decide) rfl (fun _ => ?_) (fun c0 => absurd c0 (by omega))
  refine v_aload_n (pc' := 15) F dX7_undo_14 rfl (j := 0) rfl rfl ?_
  refine v_dup (pc' := 16) F dX7_undo_15 rfl rfl ?_
  refine v_getf (pc' := 19) (v := .int (nI ud)) F k_X7_undo_7 a2 4 (by decide) m_X7_undo_f58 rfl dX7_undo_16 rfl ?_
  refine v_iconst (pc' := 20) (v := nI 1) F dX7_undo_19 (by decide) rfl ?_
  refine v_isub (pc' := 21) (v := nI (ud - 1)) F dX7_undo_20 (g_subn (by omega) (by omega)) rfl ?_
  refine w_putf (pc' := 24) F k_X7_undo_7 tyX7_ok nmX7 a2 4 (by decide) m_X7_undo_f58 rfl  rfl rfl (show 4 < 26 by decide) [.int (nI 0), .ref rows, .ref asd, .int (nI now), .int (nI (ud - 1)), .ref vals, .ref many, .int fl, .int rl, .int kd, .int ok, .int st, .ref way, .int wm, .ref told, .ref oth, .ref lst, .ref text, .int fed, .int len, .int spot, .int fa, .int fat, .int num, .int frm, .int may] rfl dX7_undo_21 rfl (fun h4 a5 f6 => ?_)
  refine v_aload_n (pc' := 25) F dX7_undo_24 rfl (j := 0) rfl rfl ?_
  refine v_aload_n (pc' := 26) F dX7_undo_25 rfl (j := 0) rfl rfl ?_
  refine v_getf (pc' := 29) (v := .int (nI now)) F k_X7_undo_7 a5 3 (by decide) m_X7_undo_f47 rfl dX7_undo_26 rfl ?_
  refine v_bipush (pc' := 31) (v := nI 9) F dX7_undo_29 (by decide) rfl ?_
  refine v_iadd (pc' := 32) (v := nI (now + 9)) F dX7_undo_31 (nI_add now 9) rfl ?_
  refine v_iconst (pc' := 33) (v := nI 1) F dX7_undo_32 (by decide) rfl ?_
  refine v_isub (pc' := 34) (v := nI (now + 8)) F dX7_undo_33 (g_subn (by omega) (by omega)) rfl ?_
  refine v_bipush (pc' := 36) (v := nI 9) F dX7_undo_34 (by decide) rfl ?_
  refine v_irem (pc' := 37) (v := nI ((now + 8) % 9)) F dX7_undo_36 (nI_ne0 (by omega) (by omega)) (pk_rem (by omega) (by omega) (by omega)) rfl ?_
  refine w_putf (pc' := 40) F k_X7_undo_7 tyX7_ok nmX7 a5 3 (by decide) m_X7_undo_f47 rfl  rfl rfl (show 3 < 26 by decide) [.int (nI 0), .ref rows, .ref asd, .int (nI ((now + 8) % 9)), .int (nI (ud - 1)), .ref vals, .ref many, .int fl, .int rl, .int kd, .int ok, .int st, .ref way, .int wm, .ref told, .ref oth, .ref lst, .ref text, .int fed, .int len, .int spot, .int fa, .int fat, .int num, .int frm, .int may] rfl dX7_undo_37 rfl (fun h7 a8 f9 => ?_)
  refine v_aload_n (pc' := 41) F dX7_undo_40 rfl (j := 0) rfl rfl ?_
  refine v_getf (pc' := 44) (v := .int (nI (ud - 1))) F k_X7_undo_7 a8 4 (by decide) m_X7_undo_f58 rfl dX7_undo_41 rfl ?_
  have fr10 : gfr [m, vals, many, way, told, oth, lst] h h7 := (gfr.t (gfr.mono f3 (by intro q9 z9 m9; apply z9; simp only [List.mem_cons, List.not_mem_nil, or_false] at m9 ⊢; omega)) (gfr.t (gfr.mono f6 (by intro q9 z9 m9; apply z9; simp only [List.mem_cons, List.not_mem_nil, or_false] at m9 ⊢; omega)) (gfr.mono f9 (by intro q9 z9 m9; apply z9; simp only [List.mem_cons, List.not_mem_nil, or_false] at m9 ⊢; omega))))
  have g11 := f3 _ _ (gnc (Ne.symm (g_neA hm hrows)) gn0) hrows
  have g12 := f6 _ _ (gnc (Ne.symm (g_neA a2 g11)) gn0) g11
  have g13 := f9 _ _ (gnc (Ne.symm (g_neA a5 g12)) gn0) g12
  have g14 := f3 _ _ (gnc (Ne.symm (g_neA hm hvals)) gn0) hvals
  have g15 := f6 _ _ (gnc (Ne.symm (g_neA a2 g14)) gn0) g14
  have g16 := f9 _ _ (gnc (Ne.symm (g_neA a5 g15)) gn0) g15
  have g17 := f3 _ _ (gnc (Ne.symm (g_neA hm hmany)) gn0) hmany
  have g18 := f6 _ _ (gnc (Ne.symm (g_neA a2 g17)) gn0) g17
  have g19 := f9 _ _ (gnc (Ne.symm (g_neA a5 g18)) gn0) g18
  have g20 := f3 _ _ (gnc (Ne.symm (g_neA hm hway)) gn0) hway
  have g21 := f6 _ _ (gnc (Ne.symm (g_neA a2 g20)) gn0) g20
  have g22 := f9 _ _ (gnc (Ne.symm (g_neA a5 g21)) gn0) g21
  have g23 := f3 _ _ (gnc (Ne.symm (g_neA hm htold)) gn0) htold
  have g24 := f6 _ _ (gnc (Ne.symm (g_neA a2 g23)) gn0) g23
  have g25 := f9 _ _ (gnc (Ne.symm (g_neA a5 g24)) gn0) g24
  have g26 := f3 _ _ (gnc (Ne.symm (g_neA hm hoth)) gn0) hoth
  have g27 := f6 _ _ (gnc (Ne.symm (g_neA a2 g26)) gn0) g26
  have g28 := f9 _ _ (gnc (Ne.symm (g_neA a5 g27)) gn0) g27
  have g29 := f3 _ _ (gnc (Ne.symm (g_neA hm hlst)) gn0) hlst
  have g30 := f6 _ _ (gnc (Ne.symm (g_neA a2 g29)) gn0) g29
  have g31 := f9 _ _ (gnc (Ne.symm (g_neA a5 g30)) gn0) g30
  exact v_iret F E (by omega) (by omega)  dX7_undo_44 ⟨rfl, ⟨_, _, _, _, _, _, a8, g13, ⟨_, g16⟩, ⟨_, g19⟩, ⟨_, g22⟩, ⟨_, g25⟩, ⟨_, g28⟩, ⟨_, g31⟩, htw, how, hto⟩, fr10⟩
