theorem k_X7_state_7 : gCl wsX7_state 7 RX7 TX7 26 := ⟨by decide +kernel, rfl⟩
theorem m_X7_state_f44 : Cond.fieldLink RX7 44 "SteadyQueuesModel" "thrown" "I" ∈ wsX7_state := by decide +kernel
theorem hv_X7_right : yX7_right.cls = RX7 ∧ yX7_right.cls ≠ "java/lang/invoke/MethodHandle" ∧ yX7_right.cls ≠ "java/lang/invoke/VarHandle" ∧ (parseMethodDescriptor yX7_right.desc).map (fun d => d.parameters.length) = some 2 := by decide +kernel
theorem hv_X7_toldOf : yX7_toldOf.cls = RX7 ∧ yX7_toldOf.cls ≠ "java/lang/invoke/MethodHandle" ∧ yX7_toldOf.cls ≠ "java/lang/invoke/VarHandle" ∧ (parseMethodDescriptor yX7_toldOf.desc).map (fun d => d.parameters.length) = some 1 := by decide +kernel
set_option maxHeartbeats 4000000 in
set_option maxRecDepth 100000 in
theorem c_X7_state (G : gG) (z0 : Nat) (l : Launch) {h : gH} {m rows asd vals many way told oth lst text now : Nat} {th und fed len spot fa fat num frm may : Int32} {R : Nat → Int32} {D : Dt} {k : Nat} (hMS : mS G h m rows asd vals many way told oth lst text th now und fed len spot fa fat num frm may R) (hnow : now < 9) (w9 : wfD D) (hS : slD R (330 * now) D) (hk9 : k < 10 ∧ k ≠ 8) : gC G z0 l yX7_state wsX7_state 7 157 [.ref m, .int (nI k)] h (fun o h' => o = some (.int (nI (nAll D.1 D.2.1 D.2.2.1 id (fun i => (asD D i).head?) D.2.2.2.2 k))) ∧ mS G h' m rows asd vals many way told oth lst text (nI 0) now und fed len spot fa fat num frm may R ∧ gfr [m, vals, many, way, told, oth, lst] h h') 0 0 := by
  have h1n := w9.1
  have hn64 := w9.2.1
  have hMS0 := hMS
  obtain ⟨fl, rl, kd, ok, st, wm, hm, hrows, ⟨V, hvals⟩, ⟨M, hmany⟩, ⟨W, hway⟩, ⟨f, htold⟩, ⟨g, hoth⟩, ⟨ll, hlst⟩, htw, how, hto⟩ := hMS
  have hk : k < 10 := hk9.1
  refine gC_of (cc := cX7_state) (nL := 2) (ret := (some .int)) (by decide) rfl (Nat.le_of_ble_eq_true rfl) ?_
  intro X F E _
  change gF G z0 X cX7_state 2 RX7 wsX7_state (some .int) "state" 7 157 _ _ at F
  show gV G z0 X 0 0 h 0 [(0, .ref m), (1, .int (nI k))] []
  refine v_aload_n (pc' := 1) F dX7_state_0 rfl (j := 0) rfl rfl ?_
  refine v_iconst (pc' := 2) (v := nI 0) F dX7_state_1 (by decide) rfl ?_
  refine w_putf (pc' := 5) F k_X7_state_7 tyX7_ok nmX7 hm 0 (by decide) m_X7_state_f44 rfl  rfl rfl (show 0 < 26 by decide) [.int (nI 0), .ref rows, .ref asd, .int (nI now), .int und, .ref vals, .ref many, .int fl, .int rl, .int kd, .int ok, .int st, .ref way, .int wm, .ref told, .ref oth, .ref lst, .ref text, .int fed, .int len, .int spot, .int fa, .int fat, .int num, .int frm, .int may] rfl dX7_state_2 rfl (fun h1 a2 f3 => ?_)
  refine v_aload_n (pc' := 6) F dX7_state_5 rfl (j := 0) rfl rfl ?_
  refine v_iload_n (pc' := 7) F dX7_state_6 rfl (j := 1) rfl rfl ?_
  refine v_iconst (pc' := 8) (v := nI 0) F dX7_state_7 (by decide) rfl ?_
  refine v_bipush (pc' := 10) (v := nI 9) F dX7_state_8 (by decide) rfl ?_
  have hi9k : nI 0 ≤ nI k ∧ nI k ≤ nI 9 := (bR_iff (n := 10) (by omega) (by omega)).mpr ⟨k, hk, rfl⟩
  refine v_callS (pc' := 13) (rt := (some .boolean)) (mcc := 0) (msc := 0) (As := [.int (nI k), .int (nI 0), .int (nI 9)]) (st := [.ref m]) F (fun l => c_X7_isIn G z0 l (nI k) (nI 0) (nI 9)) gX7_state_X7_isIn rfl hd_X7_isIn (by decide) (by decide) rfl rfl (Nat.le_of_ble_eq_true rfl) (by omega) (by omega) dX7_state_10 rfl (fun v4 h1 hqi => ?_)
  rw [if_pos hi9k] at hqi; obtain ⟨rfl, rfl⟩ := hqi
  refine v_iconst (pc' := 14) (v := nI 1) F dX7_state_13 (by decide) rfl ?_
  refine v_callV (pc' := 17) (rt := (some .boolean)) (mcc := 0) (msc := 0) (As := [.int (nI 1), .int (nI 1)]) (st := []) F (fun l => c_X7_right1 G z0 l (th := nI 0) (nI 1) (by decide) a2) gX7_state_X7_right rfl hv_X7_right (by decide) (by decide) a2 rfl rfl rfl (Nat.le_of_ble_eq_true rfl) (by omega) (by omega) dX7_state_14 rfl (fun v5 h1 hqr => ?_)
  obtain ⟨rfl, rfl⟩ := hqr
  refine w_if_eq (tgt := 28) (pc' := 20) F (by omega) dX7_state_17 (by decide) rfl (fun c0 => absurd c0 (by omega)) (fun _ => ?_)
  refine v_aload_n (pc' := 21) F dX7_state_20 rfl (j := 0) rfl rfl ?_
  refine v_iload_n (pc' := 22) F dX7_state_21 rfl (j := 1) rfl rfl ?_
  have g6 := f3 _ _ (gnc (Ne.symm (g_neA hm hrows)) gn0) hrows
  have g7 := f3 _ _ (gnc (Ne.symm (g_neA hm hvals)) gn0) hvals
  have g8 := f3 _ _ (gnc (Ne.symm (g_neA hm hmany)) gn0) hmany
  have g9 := f3 _ _ (gnc (Ne.symm (g_neA hm hway)) gn0) hway
  have g10 := f3 _ _ (gnc (Ne.symm (g_neA hm htold)) gn0) htold
  have g11 := f3 _ _ (gnc (Ne.symm (g_neA hm hoth)) gn0) hoth
  have g12 := f3 _ _ (gnc (Ne.symm (g_neA hm hlst)) gn0) hlst
  refine v_callV (pc' := 25) (rt := (some .int)) (mcc := 0) (msc := 0) (As := [.int (nI k)]) (st := []) F (fun l => c_X7_toldOf G z0 l ⟨_, _, _, _, _, _, a2, g6, ⟨_, g7⟩, ⟨_, g8⟩, ⟨_, g9⟩, ⟨_, g10⟩, ⟨_, g11⟩, ⟨_, g12⟩, htw, how, hto⟩ hnow w9 hS hk9) gX7_state_X7_toldOf rfl hv_X7_toldOf (by decide) (by decide) a2 rfl rfl rfl (Nat.le_of_ble_eq_true rfl) (by omega) (by omega) dX7_state_22 rfl (fun v14 h13 hqc => ?_)
  obtain ⟨rfl, hMA, frA⟩ := hqc
  refine v_goto (tgt := 29) F dX7_state_25 (by decide) ?_
  have fr15 : gfr [m, vals, many, way, told, oth, lst] h h13 := (gfr.t (gfr.mono f3 (by intro q9 z9 m9; apply z9; simp only [List.mem_cons, List.not_mem_nil, or_false] at m9 ⊢; omega)) frA)
  exact v_iret F E (by omega) (by omega)  dX7_state_29 ⟨rfl, hMA, fr15⟩
set_option maxHeartbeats 4000000 in
set_option maxRecDepth 100000 in
theorem c8_X7_state (G : gG) (z0 : Nat) (l : Launch) {h : gH} {m rows asd vals many way told oth lst text now : Nat} {th und fed len spot fa fat num frm may : Int32} {R : Nat → Int32} {D : Dt} (hMS : mS G h m rows asd vals many way told oth lst text th now und fed len spot fa fat num frm may R) (hnow : now < 9) (w9 : wfD D) (hS : slD R (330 * now) D) : gC G z0 l yX7_state wsX7_state 7 157 [.ref m, .int (nI 8)] h (fun o h' => o = some (.int und) ∧ mS G h' m rows asd vals many way told oth lst text (nI 0) now und fed len spot fa fat num frm may R ∧ gfr [m, vals, many, way, told, oth, lst] h h') 0 0 := by
  have h1n := w9.1
  have hn64 := w9.2.1
  have hMS0 := hMS
  obtain ⟨fl, rl, kd, ok, st, wm, hm, hrows, ⟨V, hvals⟩, ⟨M, hmany⟩, ⟨W, hway⟩, ⟨f, htold⟩, ⟨g, hoth⟩, ⟨ll, hlst⟩, htw, how, hto⟩ := hMS
  have hk : 8 < 10 := by omega
  refine gC_of (cc := cX7_state) (nL := 2) (ret := (some .int)) (by decide) rfl (Nat.le_of_ble_eq_true rfl) ?_
  intro X F E _
  change gF G z0 X cX7_state 2 RX7 wsX7_state (some .int) "state" 7 157 _ _ at F
  show gV G z0 X 0 0 h 0 [(0, .ref m), (1, .int (nI 8))] []
  refine v_aload_n (pc' := 1) F dX7_state_0 rfl (j := 0) rfl rfl ?_
  refine v_iconst (pc' := 2) (v := nI 0) F dX7_state_1 (by decide) rfl ?_
  refine w_putf (pc' := 5) F k_X7_state_7 tyX7_ok nmX7 hm 0 (by decide) m_X7_state_f44 rfl  rfl rfl (show 0 < 26 by decide) [.int (nI 0), .ref rows, .ref asd, .int (nI now), .int und, .ref vals, .ref many, .int fl, .int rl, .int kd, .int ok, .int st, .ref way, .int wm, .ref told, .ref oth, .ref lst, .ref text, .int fed, .int len, .int spot, .int fa, .int fat, .int num, .int frm, .int may] rfl dX7_state_2 rfl (fun h1 a2 f3 => ?_)
  refine v_aload_n (pc' := 6) F dX7_state_5 rfl (j := 0) rfl rfl ?_
  refine v_iload_n (pc' := 7) F dX7_state_6 rfl (j := 1) rfl rfl ?_
  refine v_iconst (pc' := 8) (v := nI 0) F dX7_state_7 (by decide) rfl ?_
  refine v_bipush (pc' := 10) (v := nI 9) F dX7_state_8 (by decide) rfl ?_
  have hi9k : nI 0 ≤ nI 8 ∧ nI 8 ≤ nI 9 := by decide
  refine v_callS (pc' := 13) (rt := (some .boolean)) (mcc := 0) (msc := 0) (As := [.int (nI 8), .int (nI 0), .int (nI 9)]) (st := [.ref m]) F (fun l => c_X7_isIn G z0 l (nI 8) (nI 0) (nI 9)) gX7_state_X7_isIn rfl hd_X7_isIn (by decide) (by decide) rfl rfl (Nat.le_of_ble_eq_true rfl) (by omega) (by omega) dX7_state_10 rfl (fun v4 h1 hqi => ?_)
  rw [if_pos hi9k] at hqi; obtain ⟨rfl, rfl⟩ := hqi
  refine v_iconst (pc' := 14) (v := nI 1) F dX7_state_13 (by decide) rfl ?_
  refine v_callV (pc' := 17) (rt := (some .boolean)) (mcc := 0) (msc := 0) (As := [.int (nI 1), .int (nI 1)]) (st := []) F (fun l => c_X7_right1 G z0 l (th := nI 0) (nI 1) (by decide) a2) gX7_state_X7_right rfl hv_X7_right (by decide) (by decide) a2 rfl rfl rfl (Nat.le_of_ble_eq_true rfl) (by omega) (by omega) dX7_state_14 rfl (fun v5 h1 hqr => ?_)
  obtain ⟨rfl, rfl⟩ := hqr
  refine w_if_eq (tgt := 28) (pc' := 20) F (by omega) dX7_state_17 (by decide) rfl (fun c0 => absurd c0 (by omega)) (fun _ => ?_)
  refine v_aload_n (pc' := 21) F dX7_state_20 rfl (j := 0) rfl rfl ?_
  refine v_iload_n (pc' := 22) F dX7_state_21 rfl (j := 1) rfl rfl ?_
  have g6 := f3 _ _ (gnc (Ne.symm (g_neA hm hrows)) gn0) hrows
  have g7 := f3 _ _ (gnc (Ne.symm (g_neA hm hvals)) gn0) hvals
  have g8 := f3 _ _ (gnc (Ne.symm (g_neA hm hmany)) gn0) hmany
  have g9 := f3 _ _ (gnc (Ne.symm (g_neA hm hway)) gn0) hway
  have g10 := f3 _ _ (gnc (Ne.symm (g_neA hm htold)) gn0) htold
  have g11 := f3 _ _ (gnc (Ne.symm (g_neA hm hoth)) gn0) hoth
  have g12 := f3 _ _ (gnc (Ne.symm (g_neA hm hlst)) gn0) hlst
  refine v_callV (pc' := 25) (rt := (some .int)) (mcc := 0) (msc := 0) (As := [.int (nI 8)]) (st := []) F (fun l => c8_X7_toldOf G z0 l ⟨_, _, _, _, _, _, a2, g6, ⟨_, g7⟩, ⟨_, g8⟩, ⟨_, g9⟩, ⟨_, g10⟩, ⟨_, g11⟩, ⟨_, g12⟩, htw, how, hto⟩) gX7_state_X7_toldOf rfl hv_X7_toldOf (by decide) (by decide) a2 rfl rfl rfl (Nat.le_of_ble_eq_true rfl) (by omega) (by omega) dX7_state_22 rfl (fun v14 h13 hqc => ?_)
  obtain ⟨rfl, hMA, frA⟩ := hqc
  refine v_goto (tgt := 29) F dX7_state_25 (by decide) ?_
  have fr15 : gfr [m, vals, many, way, told, oth, lst] h h13 := (gfr.t (gfr.mono f3 (by intro q9 z9 m9; apply z9; simp only [List.mem_cons, List.not_mem_nil, or_false] at m9 ⊢; omega)) frA)
  exact v_iret F E (by omega) (by omega)  dX7_state_29 ⟨rfl, hMA, fr15⟩
set_option maxHeartbeats 4000000 in
set_option maxRecDepth 100000 in
theorem o1_X7_state (G : gG) (z0 : Nat) (l : Launch) {h : gH} {m rows asd vals many way told oth lst text now : Nat} {th und fed len spot fa fat num frm may : Int32} {R : Nat → Int32} {D : Dt} (hMS : mS G h m rows asd vals many way told oth lst text th now und fed len spot fa fat num frm may R) (hnow : now < 9) (w9 : wfD D) (hS : slD R (330 * now) D) (x : Int32) (hxx : ¬ iR x 10) : gC G z0 l yX7_state wsX7_state 7 157 [.ref m, .int x] h (fun o h' => (∃ y9, o = some (.int y9)) ∧ mS G h' m rows asd vals many way told oth lst text (nI 1) now und fed len spot fa fat num frm may R ∧ gfr [m, vals, many, way, told, oth, lst] h h') 0 0 := by
  have h1n := w9.1
  have hn64 := w9.2.1
  have hMS0 := hMS
  obtain ⟨fl, rl, kd, ok, st, wm, hm, hrows, ⟨V, hvals⟩, ⟨M, hmany⟩, ⟨W, hway⟩, ⟨f, htold⟩, ⟨g, hoth⟩, ⟨ll, hlst⟩, htw, how, hto⟩ := hMS
  refine gC_of (cc := cX7_state) (nL := 2) (ret := (some .int)) (by decide) rfl (Nat.le_of_ble_eq_true rfl) ?_
  intro X F E _
  change gF G z0 X cX7_state 2 RX7 wsX7_state (some .int) "state" 7 157 _ _ at F
  show gV G z0 X 0 0 h 0 [(0, .ref m), (1, .int x)] []
  refine v_aload_n (pc' := 1) F dX7_state_0 rfl (j := 0) rfl rfl ?_
  refine v_iconst (pc' := 2) (v := nI 0) F dX7_state_1 (by decide) rfl ?_
  refine w_putf (pc' := 5) F k_X7_state_7 tyX7_ok nmX7 hm 0 (by decide) m_X7_state_f44 rfl  rfl rfl (show 0 < 26 by decide) [.int (nI 0), .ref rows, .ref asd, .int (nI now), .int und, .ref vals, .ref many, .int fl, .int rl, .int kd, .int ok, .int st, .ref way, .int wm, .ref told, .ref oth, .ref lst, .ref text, .int fed, .int len, .int spot, .int fa, .int fat, .int num, .int frm, .int may] rfl dX7_state_2 rfl (fun h1 a2 f3 => ?_)
  refine v_aload_n (pc' := 6) F dX7_state_5 rfl (j := 0) rfl rfl ?_
  refine v_iload_n (pc' := 7) F dX7_state_6 rfl (j := 1) rfl rfl ?_
  refine v_iconst (pc' := 8) (v := nI 0) F dX7_state_7 (by decide) rfl ?_
  refine v_bipush (pc' := 10) (v := nI 9) F dX7_state_8 (by decide) rfl ?_
  have hi9x : ¬ (nI 0 ≤ x ∧ x ≤ nI 9) := fun z => hxx ((bR_iff (n := 10) (by omega) (by omega)).mp z)
  refine v_callS (pc' := 13) (rt := (some .boolean)) (mcc := 0) (msc := 0) (As := [.int x, .int (nI 0), .int (nI 9)]) (st := [.ref m]) F (fun l => c_X7_isIn G z0 l x (nI 0) (nI 9)) gX7_state_X7_isIn rfl hd_X7_isIn (by decide) (by decide) rfl rfl (Nat.le_of_ble_eq_true rfl) (by omega) (by omega) dX7_state_10 rfl (fun v4 h1 hqi => ?_)
  rw [if_neg hi9x] at hqi; obtain ⟨rfl, rfl⟩ := hqi
  refine v_iconst (pc' := 14) (v := nI 1) F dX7_state_13 (by decide) rfl ?_
  refine v_callV (pc' := 17) (rt := (some .boolean)) (mcc := 0) (msc := 0) (As := [.int (nI 0), .int (nI 1)]) (st := []) F (fun l => c_X7_right0 G z0 l (th := nI 0) (nI 1) (by decide) a2) gX7_state_X7_right rfl hv_X7_right (by decide) (by decide) a2 rfl rfl rfl (Nat.le_of_ble_eq_true rfl) (by omega) (by omega) dX7_state_14 rfl (fun v6 h5 hqr => ?_)
  obtain ⟨rfl, hmR, frR⟩ := hqr
  refine w_if_eq (tgt := 28) (pc' := 20) F (by omega) dX7_state_17 (by decide) rfl (fun _ => ?_) (fun c0 => absurd c0 (by omega))
  refine v_iconst (pc' := 29) (v := nI 0) F dX7_state_28 (by decide) rfl ?_
  have fr7 : gfr [m, vals, many, way, told, oth, lst] h h5 := (gfr.t (gfr.mono f3 (by intro q9 z9 m9; apply z9; simp only [List.mem_cons, List.not_mem_nil, or_false] at m9 ⊢; omega)) (gfr.mono frR (by intro q9 z9 m9; apply z9; simp only [List.mem_cons, List.not_mem_nil, or_false] at m9 ⊢; omega)))
  have g8 := f3 _ _ (gnc (Ne.symm (g_neA hm hrows)) gn0) hrows
  have g9 := frR _ _ (gnc (Ne.symm (g_neA a2 g8)) gn0) g8
  have g10 := f3 _ _ (gnc (Ne.symm (g_neA hm hvals)) gn0) hvals
  have g11 := frR _ _ (gnc (Ne.symm (g_neA a2 g10)) gn0) g10
  have g12 := f3 _ _ (gnc (Ne.symm (g_neA hm hmany)) gn0) hmany
  have g13 := frR _ _ (gnc (Ne.symm (g_neA a2 g12)) gn0) g12
  have g14 := f3 _ _ (gnc (Ne.symm (g_neA hm hway)) gn0) hway
  have g15 := frR _ _ (gnc (Ne.symm (g_neA a2 g14)) gn0) g14
  have g16 := f3 _ _ (gnc (Ne.symm (g_neA hm htold)) gn0) htold
  have g17 := frR _ _ (gnc (Ne.symm (g_neA a2 g16)) gn0) g16
  have g18 := f3 _ _ (gnc (Ne.symm (g_neA hm hoth)) gn0) hoth
  have g19 := frR _ _ (gnc (Ne.symm (g_neA a2 g18)) gn0) g18
  have g20 := f3 _ _ (gnc (Ne.symm (g_neA hm hlst)) gn0) hlst
  have g21 := frR _ _ (gnc (Ne.symm (g_neA a2 g20)) gn0) g20
  exact v_iret F E (by omega) (by omega)  dX7_state_29 ⟨⟨_, rfl⟩, ⟨_, _, _, _, _, _, hmR, g9, ⟨_, g11⟩, ⟨_, g13⟩, ⟨_, g15⟩, ⟨_, g17⟩, ⟨_, g19⟩, ⟨_, g21⟩, htw, how, hto⟩, fr7⟩
theorem k_X7_toldOfVersion_7 : gCl wsX7_toldOfVersion 7 RX7 TX7 26 := ⟨by decide +kernel, rfl⟩
theorem m_X7_toldOfVersion_f73 : Cond.fieldLink RX7 73 "SteadyQueuesModel" "frontLong" "I" ∈ wsX7_toldOfVersion := by decide +kernel
theorem m_X7_toldOfVersion_f76 : Cond.fieldLink RX7 76 "SteadyQueuesModel" "rearLong" "I" ∈ wsX7_toldOfVersion := by decide +kernel
theorem m_X7_toldOfVersion_f79 : Cond.fieldLink RX7 79 "SteadyQueuesModel" "kind" "I" ∈ wsX7_toldOfVersion := by decide +kernel
theorem m_X7_toldOfVersion_f82 : Cond.fieldLink RX7 82 "SteadyQueuesModel" "ok" "I" ∈ wsX7_toldOfVersion := by decide +kernel
theorem m_X7_toldOfVersion_f19 : Cond.fieldLink RX7 19 "SteadyQueuesModel" "many" "[I" ∈ wsX7_toldOfVersion := by decide +kernel
set_option maxHeartbeats 4000000 in
set_option maxRecDepth 100000 in
theorem c_X7_toldOfVersion (G : gG) (z0 : Nat) (l : Launch) {h : gH} {m rows asd vals many way told oth lst text now : Nat} {th und fed len spot fa fat num frm may : Int32} {R : Nat → Int32} {D : Dt} {v k : Nat} (hMS : mS G h m rows asd vals many way told oth lst text th now und fed len spot fa fat num frm may R) (hnow : now < 9) (w9 : wfD D) (hS : slD R (330 * now) D) (hv : v < D.1) (hk : k < 11) : gC G z0 l yX7_toldOfVersion wsX7_toldOfVersion 5 108 [.ref m, .int (nI v), .int (nI k)] h (fun o h' => o = some (.int (nOne D.1 id (fun i => (asD D i).head?) (D.2.2.2.2 v) (asD D v).head? v k)) ∧ mS G h' m rows asd vals many way told oth lst text th now und fed len spot fa fat num frm may R ∧ gfr [m, vals, many, way, told, oth, lst] h h') 0 0 := by
  have h1n := w9.1
  have hn64 := w9.2.1
  have hMS0 := hMS
  obtain ⟨fl, rl, kd, ok, st, wm, hm, hrows, ⟨V, hvals⟩, ⟨M, hmany⟩, ⟨W, hway⟩, ⟨f, htold⟩, ⟨g, hoth⟩, ⟨ll, hlst⟩, htw, how, hto⟩ := hMS
  have hOv := w9.os hv
  have hkd := kd_lt hOv.1 hOv.2
  have hJ := qOf_J hOv.1
  obtain ⟨hr0, hr1, hr2, hr3, hr4⟩ := hS.2.2.2 v hv
  have hpf := paD_fidx w9 hv
  rcases (show k = 0 ∨ k = 1 ∨ k = 2 ∨ k = 3 ∨ k = 4 ∨ k = 5 ∨ k = 6 ∨ k = 7 ∨ k = 8 ∨ k = 9 ∨ k = 10 by omega) with rfl | rfl | rfl | rfl | rfl | rfl | rfl | rfl | rfl | rfl | rfl
  · refine gC_of (cc := cX7_toldOfVersion) (nL := 3) (ret := (some .int)) (by decide) rfl (Nat.le_of_ble_eq_true rfl) ?_
    intro X F E _
    change gF G z0 X cX7_toldOfVersion 3 RX7 wsX7_toldOfVersion (some .int) "toldOfVersion" 5 108 _ _ at F
    show gV G z0 X 0 0 h 0 [(0, .ref m), (1, .int (nI v)), (2, .int (nI 0))] []
    refine v_aload_n (pc' := 1) F dX7_toldOfVersion_0 rfl (j := 0) rfl rfl ?_
    refine v_iload_n (pc' := 2) F dX7_toldOfVersion_1 rfl (j := 1) rfl rfl ?_
    refine v_callV (pc' := 5) (rt := none) (mcc := 0) (msc := 0) (As := [.int (nI v)]) (st := []) F (fun l => s_X7_lays G z0 l hMS0 hnow w9 hS hv) gX7_toldOfVersion_X7_lays rfl hv_X7_lays (by decide) (by decide) hm rfl rfl rfl (Nat.le_of_ble_eq_true rfl) (by omega) (by omega) dX7_toldOfVersion_2 rfl (fun v2 h1 hqc => ?_)
    obtain ⟨rfl, hLA, frA⟩ := hqc
    have hMA0 := hLA.s
    obtain ⟨wm3, hm3, hrows3, hq3, ⟨W3, hway3⟩, ⟨f3, htold3⟩, ⟨g3, hoth3⟩, ⟨ll3, hlst3⟩, -, -, -⟩ := hLA
    have hq3b := hq3
    obtain ⟨V3, M3, ls3, hvals3, hmany3, hls3, hT3⟩ := hq3b
    refine v_iload_n (pc' := 6) F dX7_toldOfVersion_5 rfl (j := 2) rfl rfl ?_
    refine v_tableIn (tgt := 60) (off := 54) F dX7_toldOfVersion_6 (by decide) (by decide) rfl (by decide) ?_
    refine v_aload_n (pc' := 61) F dX7_toldOfVersion_60 rfl (j := 0) rfl rfl ?_
    refine v_iload_n (pc' := 62) F dX7_toldOfVersion_61 rfl (j := 1) rfl rfl ?_
    refine v_iconst (pc' := 63) (v := nI 0) F dX7_toldOfVersion_62 (by decide) rfl ?_
    have y3 := hr0
    refine v_callV (pc' := 66) (rt := (some .int)) (mcc := 0) (msc := 0) (As := [.int (nI v), .int (nI 0)]) (st := []) F (fun l => c_X7_of G z0 l (v := v) (w := 0) hm3 hrows3 hnow (by omega) (by omega)) gX7_toldOfVersion_X7_of rfl hv_X7_of (by decide) (by decide) hm3 rfl rfl rfl (Nat.le_of_ble_eq_true rfl) (by omega) (by omega) dX7_toldOfVersion_63 rfl (fun v4 h1 hqo => ?_)
    rw [y3] at hqo; obtain ⟨rfl, rfl⟩ := hqo
    have fr5 : gfr [m, vals, many, way, told, oth, lst] h h1 := frA
    exact v_iret F E (by omega) (by omega)  dX7_toldOfVersion_66 ⟨by rw [← hpf]; rfl, hMA0, fr5⟩
  · refine gC_of (cc := cX7_toldOfVersion) (nL := 3) (ret := (some .int)) (by decide) rfl (Nat.le_of_ble_eq_true rfl) ?_
    intro X F E _
    change gF G z0 X cX7_toldOfVersion 3 RX7 wsX7_toldOfVersion (some .int) "toldOfVersion" 5 108 _ _ at F
    show gV G z0 X 0 0 h 0 [(0, .ref m), (1, .int (nI v)), (2, .int (nI 1))] []
    refine v_aload_n (pc' := 1) F dX7_toldOfVersion_0 rfl (j := 0) rfl rfl ?_
    refine v_iload_n (pc' := 2) F dX7_toldOfVersion_1 rfl (j := 1) rfl rfl ?_
    refine v_callV (pc' := 5) (rt := none) (mcc := 0) (msc := 0) (As := [.int (nI v)]) (st := []) F (fun l => s_X7_lays G z0 l hMS0 hnow w9 hS hv) gX7_toldOfVersion_X7_lays rfl hv_X7_lays (by decide) (by decide) hm rfl rfl rfl (Nat.le_of_ble_eq_true rfl) (by omega) (by omega) dX7_toldOfVersion_2 rfl (fun v2 h1 hqc => ?_)
    obtain ⟨rfl, hLA, frA⟩ := hqc
    have hMA0 := hLA.s
    obtain ⟨wm3, hm3, hrows3, hq3, ⟨W3, hway3⟩, ⟨f3, htold3⟩, ⟨g3, hoth3⟩, ⟨ll3, hlst3⟩, -, -, -⟩ := hLA
    have hq3b := hq3
    obtain ⟨V3, M3, ls3, hvals3, hmany3, hls3, hT3⟩ := hq3b
    refine v_iload_n (pc' := 6) F dX7_toldOfVersion_5 rfl (j := 2) rfl rfl ?_
    refine v_tableIn (tgt := 67) (off := 61) F dX7_toldOfVersion_6 (by decide) (by decide) rfl (by decide) ?_
    refine v_aload_n (pc' := 68) F dX7_toldOfVersion_67 rfl (j := 0) rfl rfl ?_
    refine v_iload_n (pc' := 69) F dX7_toldOfVersion_68 rfl (j := 1) rfl rfl ?_
    refine v_iconst (pc' := 70) (v := nI 1) F dX7_toldOfVersion_69 (by decide) rfl ?_
    have y3 := hr1
    refine v_callV (pc' := 73) (rt := (some .int)) (mcc := 0) (msc := 0) (As := [.int (nI v), .int (nI 1)]) (st := []) F (fun l => c_X7_of G z0 l (v := v) (w := 1) hm3 hrows3 hnow (by omega) (by omega)) gX7_toldOfVersion_X7_of rfl hv_X7_of (by decide) (by decide) hm3 rfl rfl rfl (Nat.le_of_ble_eq_true rfl) (by omega) (by omega) dX7_toldOfVersion_70 rfl (fun v4 h1 hqo => ?_)
    rw [y3] at hqo; obtain ⟨rfl, rfl⟩ := hqo
    have fr5 : gfr [m, vals, many, way, told, oth, lst] h h1 := frA
    exact v_iret F E (by omega) (by omega)  dX7_toldOfVersion_73 ⟨rfl, hMA0, fr5⟩
  · refine gC_of (cc := cX7_toldOfVersion) (nL := 3) (ret := (some .int)) (by decide) rfl (Nat.le_of_ble_eq_true rfl) ?_
    intro X F E _
    change gF G z0 X cX7_toldOfVersion 3 RX7 wsX7_toldOfVersion (some .int) "toldOfVersion" 5 108 _ _ at F
    show gV G z0 X 0 0 h 0 [(0, .ref m), (1, .int (nI v)), (2, .int (nI 2))] []
    refine v_aload_n (pc' := 1) F dX7_toldOfVersion_0 rfl (j := 0) rfl rfl ?_
    refine v_iload_n (pc' := 2) F dX7_toldOfVersion_1 rfl (j := 1) rfl rfl ?_
    refine v_callV (pc' := 5) (rt := none) (mcc := 0) (msc := 0) (As := [.int (nI v)]) (st := []) F (fun l => s_X7_lays G z0 l hMS0 hnow w9 hS hv) gX7_toldOfVersion_X7_lays rfl hv_X7_lays (by decide) (by decide) hm rfl rfl rfl (Nat.le_of_ble_eq_true rfl) (by omega) (by omega) dX7_toldOfVersion_2 rfl (fun v2 h1 hqc => ?_)
    obtain ⟨rfl, hLA, frA⟩ := hqc
    have hMA0 := hLA.s
    obtain ⟨wm3, hm3, hrows3, hq3, ⟨W3, hway3⟩, ⟨f3, htold3⟩, ⟨g3, hoth3⟩, ⟨ll3, hlst3⟩, -, -, -⟩ := hLA
    have hq3b := hq3
    obtain ⟨V3, M3, ls3, hvals3, hmany3, hls3, hT3⟩ := hq3b
    refine v_iload_n (pc' := 6) F dX7_toldOfVersion_5 rfl (j := 2) rfl rfl ?_
    refine v_tableIn (tgt := 74) (off := 68) F dX7_toldOfVersion_6 (by decide) (by decide) rfl (by decide) ?_
    refine v_aload_n (pc' := 75) F dX7_toldOfVersion_74 rfl (j := 0) rfl rfl ?_
    refine v_iload_n (pc' := 76) F dX7_toldOfVersion_75 rfl (j := 1) rfl rfl ?_
    refine v_iconst (pc' := 77) (v := nI 3) F dX7_toldOfVersion_76 (by decide) rfl ?_
    have y3 := hr3
    refine v_callV (pc' := 80) (rt := (some .int)) (mcc := 0) (msc := 0) (As := [.int (nI v), .int (nI 3)]) (st := []) F (fun l => c_X7_of G z0 l (v := v) (w := 3) hm3 hrows3 hnow (by omega) (by omega)) gX7_toldOfVersion_X7_of rfl hv_X7_of (by decide) (by decide) hm3 rfl rfl rfl (Nat.le_of_ble_eq_true rfl) (by omega) (by omega) dX7_toldOfVersion_77 rfl (fun v4 h1 hqo => ?_)
    rw [y3] at hqo; obtain ⟨rfl, rfl⟩ := hqo
    have fr5 : gfr [m, vals, many, way, told, oth, lst] h h1 := frA
    exact v_iret F E (by omega) (by omega)  dX7_toldOfVersion_80 ⟨rfl, hMA0, fr5⟩
  · refine gC_of (cc := cX7_toldOfVersion) (nL := 3) (ret := (some .int)) (by decide) rfl (Nat.le_of_ble_eq_true rfl) ?_
    intro X F E _
    change gF G z0 X cX7_toldOfVersion 3 RX7 wsX7_toldOfVersion (some .int) "toldOfVersion" 5 108 _ _ at F
    show gV G z0 X 0 0 h 0 [(0, .ref m), (1, .int (nI v)), (2, .int (nI 3))] []
    refine v_aload_n (pc' := 1) F dX7_toldOfVersion_0 rfl (j := 0) rfl rfl ?_
    refine v_iload_n (pc' := 2) F dX7_toldOfVersion_1 rfl (j := 1) rfl rfl ?_
    refine v_callV (pc' := 5) (rt := none) (mcc := 0) (msc := 0) (As := [.int (nI v)]) (st := []) F (fun l => s_X7_lays G z0 l hMS0 hnow w9 hS hv) gX7_toldOfVersion_X7_lays rfl hv_X7_lays (by decide) (by decide) hm rfl rfl rfl (Nat.le_of_ble_eq_true rfl) (by omega) (by omega) dX7_toldOfVersion_2 rfl (fun v2 h1 hqc => ?_)
    obtain ⟨rfl, hLA, frA⟩ := hqc
    have hMA0 := hLA.s
    obtain ⟨wm3, hm3, hrows3, hq3, ⟨W3, hway3⟩, ⟨f3, htold3⟩, ⟨g3, hoth3⟩, ⟨ll3, hlst3⟩, -, -, -⟩ := hLA
    have hq3b := hq3
    obtain ⟨V3, M3, ls3, hvals3, hmany3, hls3, hT3⟩ := hq3b
    refine v_iload_n (pc' := 6) F dX7_toldOfVersion_5 rfl (j := 2) rfl rfl ?_
    refine v_tableIn (tgt := 81) (off := 75) F dX7_toldOfVersion_6 (by decide) (by decide) rfl (by decide) ?_
    refine v_aload_n (pc' := 82) F dX7_toldOfVersion_81 rfl (j := 0) rfl rfl ?_
    refine v_getf (pc' := 85) (v := .int (nI ((qOf (D.2.2.2.2 v)).1.2.2.1))) F k_X7_toldOfVersion_7 hm3 7 (by decide) m_X7_toldOfVersion_f73 rfl dX7_toldOfVersion_82 rfl ?_
    refine v_aload_n (pc' := 86) F dX7_toldOfVersion_85 rfl (j := 0) rfl rfl ?_
    refine v_getf (pc' := 89) (v := .int (nI ((qOf (D.2.2.2.2 v)).1.2.2.2.1))) F k_X7_toldOfVersion_7 hm3 8 (by decide) m_X7_toldOfVersion_f76 rfl dX7_toldOfVersion_86 rfl ?_
    refine v_iadd (pc' := 90) (v := nI ((qOf (D.2.2.2.2 v)).1.2.2.1 + ((qOf (D.2.2.2.2 v)).1.2.2.2.1))) F dX7_toldOfVersion_89 (nI_add ((qOf (D.2.2.2.2 v)).1.2.2.1) ((qOf (D.2.2.2.2 v)).1.2.2.2.1)) rfl ?_
    have fr3 : gfr [m, vals, many, way, told, oth, lst] h h1 := frA
    exact v_iret F E (by omega) (by omega)  dX7_toldOfVersion_90 ⟨rfl, hMA0, fr3⟩
  · refine gC_of (cc := cX7_toldOfVersion) (nL := 3) (ret := (some .int)) (by decide) rfl (Nat.le_of_ble_eq_true rfl) ?_
    intro X F E _
    change gF G z0 X cX7_toldOfVersion 3 RX7 wsX7_toldOfVersion (some .int) "toldOfVersion" 5 108 _ _ at F
    show gV G z0 X 0 0 h 0 [(0, .ref m), (1, .int (nI v)), (2, .int (nI 4))] []
    refine v_aload_n (pc' := 1) F dX7_toldOfVersion_0 rfl (j := 0) rfl rfl ?_
    refine v_iload_n (pc' := 2) F dX7_toldOfVersion_1 rfl (j := 1) rfl rfl ?_
    refine v_callV (pc' := 5) (rt := none) (mcc := 0) (msc := 0) (As := [.int (nI v)]) (st := []) F (fun l => s_X7_lays G z0 l hMS0 hnow w9 hS hv) gX7_toldOfVersion_X7_lays rfl hv_X7_lays (by decide) (by decide) hm rfl rfl rfl (Nat.le_of_ble_eq_true rfl) (by omega) (by omega) dX7_toldOfVersion_2 rfl (fun v2 h1 hqc => ?_)
    obtain ⟨rfl, hLA, frA⟩ := hqc
    have hMA0 := hLA.s
    obtain ⟨wm3, hm3, hrows3, hq3, ⟨W3, hway3⟩, ⟨f3, htold3⟩, ⟨g3, hoth3⟩, ⟨ll3, hlst3⟩, -, -, -⟩ := hLA
    have hq3b := hq3
    obtain ⟨V3, M3, ls3, hvals3, hmany3, hls3, hT3⟩ := hq3b
    refine v_iload_n (pc' := 6) F dX7_toldOfVersion_5 rfl (j := 2) rfl rfl ?_
    refine v_tableIn (tgt := 91) (off := 85) F dX7_toldOfVersion_6 (by decide) (by decide) rfl (by decide) ?_
    refine v_aload_n (pc' := 92) F dX7_toldOfVersion_91 rfl (j := 0) rfl rfl ?_
    refine v_getf (pc' := 95) (v := .int (nI ((qOf (D.2.2.2.2 v)).1.2.2.1))) F k_X7_toldOfVersion_7 hm3 7 (by decide) m_X7_toldOfVersion_f73 rfl dX7_toldOfVersion_92 rfl ?_
    have fr3 : gfr [m, vals, many, way, told, oth, lst] h h1 := frA
    exact v_iret F E (by omega) (by omega)  dX7_toldOfVersion_95 ⟨rfl, hMA0, fr3⟩
  · refine gC_of (cc := cX7_toldOfVersion) (nL := 3) (ret := (some .int)) (by decide) rfl (Nat.le_of_ble_eq_true rfl) ?_
    intro X F E _
    change gF G z0 X cX7_toldOfVersion 3 RX7 wsX7_toldOfVersion (some .int) "toldOfVersion" 5 108 _ _ at F
    show gV G z0 X 0 0 h 0 [(0, .ref m), (1, .int (nI v)), (2, .int (nI 5))] []
    refine v_aload_n (pc' := 1) F dX7_toldOfVersion_0 rfl (j := 0) rfl rfl ?_
    refine v_iload_n (pc' := 2) F dX7_toldOfVersion_1 rfl (j := 1) rfl rfl ?_
    refine v_callV (pc' := 5) (rt := none) (mcc := 0) (msc := 0) (As := [.int (nI v)]) (st := []) F (fun l => s_X7_lays G z0 l hMS0 hnow w9 hS hv) gX7_toldOfVersion_X7_lays rfl hv_X7_lays (by decide) (by decide) hm rfl rfl rfl (Nat.le_of_ble_eq_true rfl) (by omega) (by omega) dX7_toldOfVersion_2 rfl (fun v2 h1 hqc => ?_)
    obtain ⟨rfl, hLA, frA⟩ := hqc
    have hMA0 := hLA.s
    obtain ⟨wm3, hm3, hrows3, hq3, ⟨W3, hway3⟩, ⟨f3, htold3⟩, ⟨g3, hoth3⟩, ⟨ll3, hlst3⟩, -, -, -⟩ := hLA
    have hq3b := hq3
    obtain ⟨V3, M3, ls3, hvals3, hmany3, hls3, hT3⟩ := hq3b
    refine v_iload_n (pc' := 6) F dX7_toldOfVersion_5 rfl (j := 2) rfl rfl ?_
    refine v_tableIn (tgt := 96) (off := 90) F dX7_toldOfVersion_6 (by decide) (by decide) rfl (by decide) ?_
    refine v_aload_n (pc' := 97) F dX7_toldOfVersion_96 rfl (j := 0) rfl rfl ?_
    refine v_getf (pc' := 100) (v := .int (nI ((qOf (D.2.2.2.2 v)).1.2.2.2.1))) F k_X7_toldOfVersion_7 hm3 8 (by decide) m_X7_toldOfVersion_f76 rfl dX7_toldOfVersion_97 rfl ?_
    have fr3 : gfr [m, vals, many, way, told, oth, lst] h h1 := frA
    exact v_iret F E (by omega) (by omega)  dX7_toldOfVersion_100 ⟨rfl, hMA0, fr3⟩
  · refine gC_of (cc := cX7_toldOfVersion) (nL := 3) (ret := (some .int)) (by decide) rfl (Nat.le_of_ble_eq_true rfl) ?_
    intro X F E _
    change gF G z0 X cX7_toldOfVersion 3 RX7 wsX7_toldOfVersion (some .int) "toldOfVersion" 5 108 _ _ at F
    show gV G z0 X 0 0 h 0 [(0, .ref m), (1, .int (nI v)), (2, .int (nI 6))] []
    refine v_aload_n (pc' := 1) F dX7_toldOfVersion_0 rfl (j := 0) rfl rfl ?_
    refine v_iload_n (pc' := 2) F dX7_toldOfVersion_1 rfl (j := 1) rfl rfl ?_
    refine v_callV (pc' := 5) (rt := none) (mcc := 0) (msc := 0) (As := [.int (nI v)]) (st := []) F (fun l => s_X7_lays G z0 l hMS0 hnow w9 hS hv) gX7_toldOfVersion_X7_lays rfl hv_X7_lays (by decide) (by decide) hm rfl rfl rfl (Nat.le_of_ble_eq_true rfl) (by omega) (by omega) dX7_toldOfVersion_2 rfl (fun v2 h1 hqc => ?_)
    obtain ⟨rfl, hLA, frA⟩ := hqc
    have hMA0 := hLA.s
    obtain ⟨wm3, hm3, hrows3, hq3, ⟨W3, hway3⟩, ⟨f3, htold3⟩, ⟨g3, hoth3⟩, ⟨ll3, hlst3⟩, -, -, -⟩ := hLA
    have hq3b := hq3
    obtain ⟨V3, M3, ls3, hvals3, hmany3, hls3, hT3⟩ := hq3b
    refine v_iload_n (pc' := 6) F dX7_toldOfVersion_5 rfl (j := 2) rfl rfl ?_
    refine v_tableIn (tgt := 101) (off := 95) F dX7_toldOfVersion_6 (by decide) (by decide) rfl (by decide) ?_
    refine v_aload_n (pc' := 102) F dX7_toldOfVersion_101 rfl (j := 0) rfl rfl ?_
    refine v_getf (pc' := 105) (v := .int (nI ((qOf (D.2.2.2.2 v)).1.2.2.2.2.1))) F k_X7_toldOfVersion_7 hm3 9 (by decide) m_X7_toldOfVersion_f79 rfl dX7_toldOfVersion_102 rfl ?_
    have fr3 : gfr [m, vals, many, way, told, oth, lst] h h1 := frA
    exact v_iret F E (by omega) (by omega)  dX7_toldOfVersion_105 ⟨rfl, hMA0, fr3⟩
  · refine gC_of (cc := cX7_toldOfVersion) (nL := 3) (ret := (some .int)) (by decide) rfl (Nat.le_of_ble_eq_true rfl) ?_
    intro X F E _
    change gF G z0 X cX7_toldOfVersion 3 RX7 wsX7_toldOfVersion (some .int) "toldOfVersion" 5 108 _ _ at F
    show gV G z0 X 0 0 h 0 [(0, .ref m), (1, .int (nI v)), (2, .int (nI 7))] []
    refine v_aload_n (pc' := 1) F dX7_toldOfVersion_0 rfl (j := 0) rfl rfl ?_
    refine v_iload_n (pc' := 2) F dX7_toldOfVersion_1 rfl (j := 1) rfl rfl ?_
    refine v_callV (pc' := 5) (rt := none) (mcc := 0) (msc := 0) (As := [.int (nI v)]) (st := []) F (fun l => s_X7_lays G z0 l hMS0 hnow w9 hS hv) gX7_toldOfVersion_X7_lays rfl hv_X7_lays (by decide) (by decide) hm rfl rfl rfl (Nat.le_of_ble_eq_true rfl) (by omega) (by omega) dX7_toldOfVersion_2 rfl (fun v2 h1 hqc => ?_)
    obtain ⟨rfl, hLA, frA⟩ := hqc
    have hMA0 := hLA.s
    obtain ⟨wm3, hm3, hrows3, hq3, ⟨W3, hway3⟩, ⟨f3, htold3⟩, ⟨g3, hoth3⟩, ⟨ll3, hlst3⟩, -, -, -⟩ := hLA
    have hq3b := hq3
    obtain ⟨V3, M3, ls3, hvals3, hmany3, hls3, hT3⟩ := hq3b
    refine v_iload_n (pc' := 6) F dX7_toldOfVersion_5 rfl (j := 2) rfl rfl ?_
    refine v_tableIn (tgt := 106) (off := 100) F dX7_toldOfVersion_6 (by decide) (by decide) rfl (by decide) ?_
    refine v_aload_n (pc' := 107) F dX7_toldOfVersion_106 rfl (j := 0) rfl rfl ?_
    refine v_getf (pc' := 110) (v := .int (nI ((qOf (D.2.2.2.2 v)).1.2.2.2.2.2.1))) F k_X7_toldOfVersion_7 hm3 10 (by decide) m_X7_toldOfVersion_f82 rfl dX7_toldOfVersion_107 rfl ?_
    have fr3 : gfr [m, vals, many, way, told, oth, lst] h h1 := frA
    exact v_iret F E (by omega) (by omega)  dX7_toldOfVersion_110 ⟨rfl, hMA0, fr3⟩
  · refine gC_of (cc := cX7_toldOfVersion) (nL := 3) (ret := (some .int)) (by decide) rfl (Nat.le_of_ble_eq_true rfl) ?_
    intro X F E _
    change gF G z0 X cX7_toldOfVersion 3 RX7 wsX7_toldOfVersion (some .int) "toldOfVersion" 5 108 _ _ at F
    show gV G z0 X 0 0 h 0 [(0, .ref m), (1, .int (nI v)), (2, .int (nI 8))] []
    refine v_aload_n (pc' := 1) F dX7_toldOfVersion_0 rfl (j := 0) rfl rfl ?_
    refine v_iload_n (pc' := 2) F dX7_toldOfVersion_1 rfl (j := 1) rfl rfl ?_
    refine v_callV (pc' := 5) (rt := none) (mcc := 0) (msc := 0) (As := [.int (nI v)]) (st := []) F (fun l => s_X7_lays G z0 l hMS0 hnow w9 hS hv) gX7_toldOfVersion_X7_lays rfl hv_X7_lays (by decide) (by decide) hm rfl rfl rfl (Nat.le_of_ble_eq_true rfl) (by omega) (by omega) dX7_toldOfVersion_2 rfl (fun v2 h1 hqc => ?_)
    obtain ⟨rfl, hLA, frA⟩ := hqc
    have hMA0 := hLA.s
    obtain ⟨wm3, hm3, hrows3, hq3, ⟨W3, hway3⟩, ⟨f3, htold3⟩, ⟨g3, hoth3⟩, ⟨ll3, hlst3⟩, -, -, -⟩ := hLA
    have hq3b := hq3
    obtain ⟨V3, M3, ls3, hvals3, hmany3, hls3, hT3⟩ := hq3b
    refine v_iload_n (pc' := 6) F dX7_toldOfVersion_5 rfl (j := 2) rfl rfl ?_
    refine v_tableIn (tgt := 111) (off := 105) F dX7_toldOfVersion_6 (by decide) (by decide) rfl (by decide) ?_
    refine v_aload_n (pc' := 112) F dX7_toldOfVersion_111 rfl (j := 0) rfl rfl ?_
    refine v_iload_n (pc' := 113) F dX7_toldOfVersion_112 rfl (j := 1) rfl rfl ?_
    refine v_iconst (pc' := 114) (v := nI 4) F dX7_toldOfVersion_113 (by decide) rfl ?_
    have y3 := hr4
    refine v_callV (pc' := 117) (rt := (some .int)) (mcc := 0) (msc := 0) (As := [.int (nI v), .int (nI 4)]) (st := []) F (fun l => c_X7_of G z0 l (v := v) (w := 4) hm3 hrows3 hnow (by omega) (by omega)) gX7_toldOfVersion_X7_of rfl hv_X7_of (by decide) (by decide) hm3 rfl rfl rfl (Nat.le_of_ble_eq_true rfl) (by omega) (by omega) dX7_toldOfVersion_114 rfl (fun v4 h1 hqo => ?_)
    rw [y3] at hqo; obtain ⟨rfl, rfl⟩ := hqo
    have fr5 : gfr [m, vals, many, way, told, oth, lst] h h1 := frA
    exact v_iret F E (by omega) (by omega)  dX7_toldOfVersion_117 ⟨rfl, hMA0, fr5⟩
  · refine gC_of (cc := cX7_toldOfVersion) (nL := 3) (ret := (some .int)) (by decide) rfl (Nat.le_of_ble_eq_true rfl) ?_
    intro X F E _
    change gF G z0 X cX7_toldOfVersion 3 RX7 wsX7_toldOfVersion (some .int) "toldOfVersion" 5 108 _ _ at F
    show gV G z0 X 0 0 h 0 [(0, .ref m), (1, .int (nI v)), (2, .int (nI 9))] []
    refine v_aload_n (pc' := 1) F dX7_toldOfVersion_0 rfl (j := 0) rfl rfl ?_
    refine v_iload_n (pc' := 2) F dX7_toldOfVersion_1 rfl (j := 1) rfl rfl ?_
    refine v_callV (pc' := 5) (rt := none) (mcc := 0) (msc := 0) (As := [.int (nI v)]) (st := []) F (fun l => s_X7_lays G z0 l hMS0 hnow w9 hS hv) gX7_toldOfVersion_X7_lays rfl hv_X7_lays (by decide) (by decide) hm rfl rfl rfl (Nat.le_of_ble_eq_true rfl) (by omega) (by omega) dX7_toldOfVersion_2 rfl (fun v2 h1 hqc => ?_)
    obtain ⟨rfl, hLA, frA⟩ := hqc
    have hMA0 := hLA.s
    obtain ⟨wm3, hm3, hrows3, hq3, ⟨W3, hway3⟩, ⟨f3, htold3⟩, ⟨g3, hoth3⟩, ⟨ll3, hlst3⟩, -, -, -⟩ := hLA
    have hq3b := hq3
    obtain ⟨V3, M3, ls3, hvals3, hmany3, hls3, hT3⟩ := hq3b
    refine v_iload_n (pc' := 6) F dX7_toldOfVersion_5 rfl (j := 2) rfl rfl ?_
    refine v_tableIn (tgt := 118) (off := 112) F dX7_toldOfVersion_6 (by decide) (by decide) rfl (by decide) ?_
    refine v_aload_n (pc' := 119) F dX7_toldOfVersion_118 rfl (j := 0) rfl rfl ?_
    refine v_iload_n (pc' := 120) F dX7_toldOfVersion_119 rfl (j := 1) rfl rfl ?_
    refine v_callV (pc' := 123) (rt := (some .int)) (mcc := 0) (msc := 0) (As := [.int (nI v)]) (st := []) F (fun l => c_X7_children G z0 l hm3 hrows3 hnow w9 hS (v := v) (by omega)) gX7_toldOfVersion_X7_children rfl hv_X7_children (by decide) (by decide) hm3 rfl rfl rfl (Nat.le_of_ble_eq_true rfl) (by omega) (by omega) dX7_toldOfVersion_120 rfl (fun v3 h1 hqch => ?_)
    obtain ⟨rfl, rfl⟩ := hqch
    have fr4 : gfr [m, vals, many, way, told, oth, lst] h h1 := frA
    exact v_iret F E (by omega) (by omega)  dX7_toldOfVersion_123 ⟨rfl, hMA0, fr4⟩
  · refine gC_of (cc := cX7_toldOfVersion) (nL := 3) (ret := (some .int)) (by decide) rfl (Nat.le_of_ble_eq_true rfl) ?_
    intro X F E _
    change gF G z0 X cX7_toldOfVersion 3 RX7 wsX7_toldOfVersion (some .int) "toldOfVersion" 5 108 _ _ at F
    show gV G z0 X 0 0 h 0 [(0, .ref m), (1, .int (nI v)), (2, .int (nI 10))] []
    refine v_aload_n (pc' := 1) F dX7_toldOfVersion_0 rfl (j := 0) rfl rfl ?_
    refine v_iload_n (pc' := 2) F dX7_toldOfVersion_1 rfl (j := 1) rfl rfl ?_
    refine v_callV (pc' := 5) (rt := none) (mcc := 0) (msc := 0) (As := [.int (nI v)]) (st := []) F (fun l => s_X7_lays G z0 l hMS0 hnow w9 hS hv) gX7_toldOfVersion_X7_lays rfl hv_X7_lays (by decide) (by decide) hm rfl rfl rfl (Nat.le_of_ble_eq_true rfl) (by omega) (by omega) dX7_toldOfVersion_2 rfl (fun v2 h1 hqc => ?_)
    obtain ⟨rfl, hLA, frA⟩ := hqc
    have hMA0 := hLA.s
    obtain ⟨wm3, hm3, hrows3, hq3, ⟨W3, hway3⟩, ⟨f3, htold3⟩, ⟨g3, hoth3⟩, ⟨ll3, hlst3⟩, -, -, -⟩ := hLA
    have hq3b := hq3
    obtain ⟨V3, M3, ls3, hvals3, hmany3, hls3, hT3⟩ := hq3b
    refine v_iload_n (pc' := 6) F dX7_toldOfVersion_5 rfl (j := 2) rfl rfl ?_
    refine v_tableOut (tgt := 124) F dX7_toldOfVersion_6 (Or.inr (by decide)) (by decide) ?_
    have hM0 := (hls3 0 (by omega)).1
    rw [hT3.1] at hM0
    refine v_aload_n (pc' := 125) F dX7_toldOfVersion_124 rfl (j := 0) rfl rfl ?_
    refine v_getf (pc' := 128) (v := .ref many) F k_X7_toldOfVersion_7 hm3 6 (by decide) m_X7_toldOfVersion_f19 rfl dX7_toldOfVersion_125 rfl ?_
    refine v_iconst (pc' := 129) (v := nI 0) F dX7_toldOfVersion_128 (by decide) rfl ?_
    refine w_iald (pc' := 130) (v := nI ((qOf (D.2.2.2.2 v)).1.1.length)) F hmany3 (by omega) (by omega) hM0 dX7_toldOfVersion_129 rfl ?_
    have fr3 : gfr [m, vals, many, way, told, oth, lst] h h1 := frA
    exact v_iret F E (by omega) (by omega)  dX7_toldOfVersion_130 ⟨rfl, hMA0, fr3⟩
theorem k_X7_version_7 : gCl wsX7_version 7 RX7 TX7 26 := ⟨by decide +kernel, rfl⟩
theorem m_X7_version_f44 : Cond.fieldLink RX7 44 "SteadyQueuesModel" "thrown" "I" ∈ wsX7_version := by decide +kernel
theorem hv_X7_isVersion : yX7_isVersion.cls = RX7 ∧ yX7_isVersion.cls ≠ "java/lang/invoke/MethodHandle" ∧ yX7_isVersion.cls ≠ "java/lang/invoke/VarHandle" ∧ (parseMethodDescriptor yX7_isVersion.desc).map (fun d => d.parameters.length) = some 1 := by decide +kernel
theorem hv_X7_toldOfVersion : yX7_toldOfVersion.cls = RX7 ∧ yX7_toldOfVersion.cls ≠ "java/lang/invoke/MethodHandle" ∧ yX7_toldOfVersion.cls ≠ "java/lang/invoke/VarHandle" ∧ (parseMethodDescriptor yX7_toldOfVersion.desc).map (fun d => d.parameters.length) = some 2 := by decide +kernel
set_option maxHeartbeats 4000000 in
set_option maxRecDepth 100000 in
theorem c_X7_version (G : gG) (z0 : Nat) (l : Launch) {h : gH} {m rows asd vals many way told oth lst text now : Nat} {th und fed len spot fa fat num frm may : Int32} {R : Nat → Int32} {D : Dt} {j k : Nat} (hMS : mS G h m rows asd vals many way told oth lst text th now und fed len spot fa fat num frm may R) (hnow : now < 9) (w9 : wfD D) (hS : slD R (330 * now) D) (hj : j < D.1) (hk : k < 11) : gC G z0 l yX7_version wsX7_version 6 130 [.ref m, .int (nI j), .int (nI k)] h (fun o h' => o = some (.int (nOne D.1 id (fun i => (asD D i).head?) (D.2.2.2.2 j) (asD D j).head? j k)) ∧ mS G h' m rows asd vals many way told oth lst text (nI 0) now und fed len spot fa fat num frm may R ∧ gfr [m, vals, many, way, told, oth, lst] h h') 0 0 := by
  have h1n := w9.1
  have hn64 := w9.2.1
  have hMS0 := hMS
  obtain ⟨fl, rl, kd, ok, st, wm, hm, hrows, ⟨V, hvals⟩, ⟨M, hmany⟩, ⟨W, hway⟩, ⟨f, htold⟩, ⟨g, hoth⟩, ⟨ll, hlst⟩, htw, how, hto⟩ := hMS
  have hj64 : j < 64 := by omega
  refine gC_of (cc := cX7_version) (nL := 3) (ret := (some .int)) (by decide) rfl (Nat.le_of_ble_eq_true rfl) ?_
  intro X F E _
  change gF G z0 X cX7_version 3 RX7 wsX7_version (some .int) "version" 6 130 _ _ at F
  show gV G z0 X 0 0 h 0 [(0, .ref m), (1, .int (nI j)), (2, .int (nI k))] []
  refine v_aload_n (pc' := 1) F dX7_version_0 rfl (j := 0) rfl rfl ?_
  refine v_iconst (pc' := 2) (v := nI 0) F dX7_version_1 (by decide) rfl ?_
  refine w_putf (pc' := 5) F k_X7_version_7 tyX7_ok nmX7 hm 0 (by decide) m_X7_version_f44 rfl  rfl rfl (show 0 < 26 by decide) [.int (nI 0), .ref rows, .ref asd, .int (nI now), .int und, .ref vals, .ref many, .int fl, .int rl, .int kd, .int ok, .int st, .ref way, .int wm, .ref told, .ref oth, .ref lst, .ref text, .int fed, .int len, .int spot, .int fa, .int fat, .int num, .int frm, .int may] rfl dX7_version_2 rfl (fun h1 a2 f3 => ?_)
  refine v_aload_n (pc' := 6) F dX7_version_5 rfl (j := 0) rfl rfl ?_
  refine v_aload_n (pc' := 7) F dX7_version_6 rfl (j := 0) rfl rfl ?_
  refine v_iload_n (pc' := 8) F dX7_version_7 rfl (j := 1) rfl rfl ?_
  have hv9j : nI 0 ≤ nI j ∧ nI j ≤ nI (D.1 - 1) := (bR_iff h1n (by omega)).mpr ⟨j, hj, rfl⟩
  have g4 := f3 _ _ (gnc (Ne.symm (g_neA hm hrows)) gn0) hrows
  refine v_callV (pc' := 11) (rt := (some .boolean)) (mcc := 0) (msc := 0) (As := [.int (nI j)]) (st := [.ref m]) F (fun l => c_X7_isVersion G z0 l (nI j) a2 g4 hnow hS.1 h1n hn64) gX7_version_X7_isVersion rfl hv_X7_isVersion (by decide) (by decide) a2 rfl rfl rfl (Nat.le_of_ble_eq_true rfl) (by omega) (by omega) dX7_version_8 rfl (fun v5 h1 hqv => ?_)
  rw [if_pos hv9j] at hqv; obtain ⟨rfl, rfl⟩ := hqv
  refine v_iconst (pc' := 12) (v := nI 1) F dX7_version_11 (by decide) rfl ?_
  refine v_callV (pc' := 15) (rt := (some .boolean)) (mcc := 0) (msc := 0) (As := [.int (nI 1), .int (nI 1)]) (st := []) F (fun l => c_X7_right1 G z0 l (th := nI 0) (nI 1) (by decide) a2) gX7_version_X7_right rfl hv_X7_right (by decide) (by decide) a2 rfl rfl rfl (Nat.le_of_ble_eq_true rfl) (by omega) (by omega) dX7_version_12 rfl (fun v6 h1 hqr => ?_)
  obtain ⟨rfl, rfl⟩ := hqr
  refine w_if_eq (tgt := 42) (pc' := 18) F (by omega) dX7_version_15 (by decide) rfl (fun c0 => absurd c0 (by omega)) (fun _ => ?_)
  refine v_aload_n (pc' := 19) F dX7_version_18 rfl (j := 0) rfl rfl ?_
  refine v_iload_n (pc' := 20) F dX7_version_19 rfl (j := 2) rfl rfl ?_
  refine v_iconst (pc' := 21) (v := nI 0) F dX7_version_20 (by decide) rfl ?_
  refine v_bipush (pc' := 23) (v := nI 10) F dX7_version_21 (by decide) rfl ?_
  have hi9k : nI 0 ≤ nI k ∧ nI k ≤ nI 10 := (bR_iff (n := 11) (by omega) (by omega)).mpr ⟨k, hk, rfl⟩
  refine v_callS (pc' := 26) (rt := (some .boolean)) (mcc := 0) (msc := 0) (As := [.int (nI k), .int (nI 0), .int (nI 10)]) (st := [.ref m]) F (fun l => c_X7_isIn G z0 l (nI k) (nI 0) (nI 10)) gX7_version_X7_isIn rfl hd_X7_isIn (by decide) (by decide) rfl rfl (Nat.le_of_ble_eq_true rfl) (by omega) (by omega) dX7_version_23 rfl (fun v7 h1 hqi => ?_)
  rw [if_pos hi9k] at hqi; obtain ⟨rfl, rfl⟩ := hqi
  refine v_iconst (pc' := 27) (v := nI 2) F dX7_version_26 (by decide) rfl ?_
  refine v_callV (pc' := 30) (rt := (some .boolean)) (mcc := 0) (msc := 0) (As := [.int (nI 1), .int (nI 2)]) (st := []) F (fun l => c_X7_right1 G z0 l (th := nI 0) (nI 2) (by decide) a2) gX7_version_X7_right rfl hv_X7_right (by decide) (by decide) a2 rfl rfl rfl (Nat.le_of_ble_eq_true rfl) (by omega) (by omega) dX7_version_27 rfl (fun v8 h1 hqr => ?_)
  obtain ⟨rfl, rfl⟩ := hqr
  refine w_if_eq (tgt := 42) (pc' := 33) F (by omega) dX7_version_30 (by decide) rfl (fun c0 => absurd c0 (by omega)) (fun _ => ?_)
  refine v_aload_n (pc' := 34) F dX7_version_33 rfl (j := 0) rfl rfl ?_
  refine v_iload_n (pc' := 35) F dX7_version_34 rfl (j := 1) rfl rfl ?_
  refine v_iload_n (pc' := 36) F dX7_version_35 rfl (j := 2) rfl rfl ?_
  have g9 := f3 _ _ (gnc (Ne.symm (g_neA hm hvals)) gn0) hvals
  have g10 := f3 _ _ (gnc (Ne.symm (g_neA hm hmany)) gn0) hmany
  have g11 := f3 _ _ (gnc (Ne.symm (g_neA hm hway)) gn0) hway
  have g12 := f3 _ _ (gnc (Ne.symm (g_neA hm htold)) gn0) htold
  have g13 := f3 _ _ (gnc (Ne.symm (g_neA hm hoth)) gn0) hoth
  have g14 := f3 _ _ (gnc (Ne.symm (g_neA hm hlst)) gn0) hlst
  refine v_callV (pc' := 39) (rt := (some .int)) (mcc := 0) (msc := 0) (As := [.int (nI j), .int (nI k)]) (st := []) F (fun l => c_X7_toldOfVersion G z0 l ⟨_, _, _, _, _, _, a2, g4, ⟨_, g9⟩, ⟨_, g10⟩, ⟨_, g11⟩, ⟨_, g12⟩, ⟨_, g13⟩, ⟨_, g14⟩, htw, how, hto⟩ hnow w9 hS hj hk) gX7_version_X7_toldOfVersion rfl hv_X7_toldOfVersion (by decide) (by decide) a2 rfl rfl rfl (Nat.le_of_ble_eq_true rfl) (by omega) (by omega) dX7_version_36 rfl (fun v16 h15 hqc => ?_)
  obtain ⟨rfl, hMA, frA⟩ := hqc
  refine v_goto (tgt := 43) F dX7_version_39 (by decide) ?_
  have fr17 : gfr [m, vals, many, way, told, oth, lst] h h15 := (gfr.t (gfr.mono f3 (by intro q9 z9 m9; apply z9; simp only [List.mem_cons, List.not_mem_nil, or_false] at m9 ⊢; omega)) frA)
  exact v_iret F E (by omega) (by omega)  dX7_version_43 ⟨rfl, hMA, fr17⟩
set_option maxHeartbeats 4000000 in
set_option maxRecDepth 100000 in
theorem o1_X7_version (G : gG) (z0 : Nat) (l : Launch) {h : gH} {m rows asd vals many way told oth lst text now : Nat} {th und fed len spot fa fat num frm may : Int32} {R : Nat → Int32} {D : Dt} (hMS : mS G h m rows asd vals many way told oth lst text th now und fed len spot fa fat num frm may R) (hnow : now < 9) (w9 : wfD D) (hS : slD R (330 * now) D) (x y : Int32) (hxx : ¬ iR x D.1) : gC G z0 l yX7_version wsX7_version 6 130 [.ref m, .int x, .int y] h (fun o h' => (∃ y9, o = some (.int y9)) ∧ mS G h' m rows asd vals many way told oth lst text (nI 1) now und fed len spot fa fat num frm may R ∧ gfr [m, vals, many, way, told, oth, lst] h h') 0 0 := by
  have h1n := w9.1
  have hn64 := w9.2.1
  have hMS0 := hMS
  obtain ⟨fl, rl, kd, ok, st, wm, hm, hrows, ⟨V, hvals⟩, ⟨M, hmany⟩, ⟨W, hway⟩, ⟨f, htold⟩, ⟨g, hoth⟩, ⟨ll, hlst⟩, htw, how, hto⟩ := hMS
  refine gC_of (cc := cX7_version) (nL := 3) (ret := (some .int)) (by decide) rfl (Nat.le_of_ble_eq_true rfl) ?_
  intro X F E _
  change gF G z0 X cX7_version 3 RX7 wsX7_version (some .int) "version" 6 130 _ _ at F
  show gV G z0 X 0 0 h 0 [(0, .ref m), (1, .int x), (2, .int y)] []
  refine v_aload_n (pc' := 1) F dX7_version_0 rfl (j := 0) rfl rfl ?_
  refine v_iconst (pc' := 2) (v := nI 0) F dX7_version_1 (by decide) rfl ?_
  refine w_putf (pc' := 5) F k_X7_version_7 tyX7_ok nmX7 hm 0 (by decide) m_X7_version_f44 rfl  rfl rfl (show 0 < 26 by decide) [.int (nI 0), .ref rows, .ref asd, .int (nI now), .int und, .ref vals, .ref many, .int fl, .int rl, .int kd, .int ok, .int st, .ref way, .int wm, .ref told, .ref oth, .ref lst, .ref text, .int fed, .int len, .int spot, .int fa, .int fat, .int num, .int frm, .int may] rfl dX7_version_2 rfl (fun h1 a2 f3 => ?_)
  refine v_aload_n (pc' := 6) F dX7_version_5 rfl (j := 0) rfl rfl ?_
  refine v_aload_n (pc' := 7) F dX7_version_6 rfl (j := 0) rfl rfl ?_
  refine v_iload_n (pc' := 8) F dX7_version_7 rfl (j := 1) rfl rfl ?_
  have hv9x : ¬ (nI 0 ≤ x ∧ x ≤ nI (D.1 - 1)) := fun z => hxx ((bR_iff h1n (by omega)).mp z)
  have g4 := f3 _ _ (gnc (Ne.symm (g_neA hm hrows)) gn0) hrows
  refine v_callV (pc' := 11) (rt := (some .boolean)) (mcc := 0) (msc := 0) (As := [.int x]) (st := [.ref m]) F (fun l => c_X7_isVersion G z0 l x a2 g4 hnow hS.1 h1n hn64) gX7_version_X7_isVersion rfl hv_X7_isVersion (by decide) (by decide) a2 rfl rfl rfl (Nat.le_of_ble_eq_true rfl) (by omega) (by omega) dX7_version_8 rfl (fun v5 h1 hqv => ?_)
  rw [if_neg hv9x] at hqv; obtain ⟨rfl, rfl⟩ := hqv
  refine v_iconst (pc' := 12) (v := nI 1) F dX7_version_11 (by decide) rfl ?_
  refine v_callV (pc' := 15) (rt := (some .boolean)) (mcc := 0) (msc := 0) (As := [.int (nI 0), .int (nI 1)]) (st := []) F (fun l => c_X7_right0 G z0 l (th := nI 0) (nI 1) (by decide) a2) gX7_version_X7_right rfl hv_X7_right (by decide) (by decide) a2 rfl rfl rfl (Nat.le_of_ble_eq_true rfl) (by omega) (by omega) dX7_version_12 rfl (fun v7 h6 hqr => ?_)
  obtain ⟨rfl, hmR, frR⟩ := hqr
  refine w_if_eq (tgt := 42) (pc' := 18) F (by omega) dX7_version_15 (by decide) rfl (fun _ => ?_) (fun c0 => absurd c0 (by omega))
  refine v_iconst (pc' := 43) (v := nI 0) F dX7_version_42 (by decide) rfl ?_
  have fr8 : gfr [m, vals, many, way, told, oth, lst] h h6 := (gfr.t (gfr.mono f3 (by intro q9 z9 m9; apply z9; simp only [List.mem_cons, List.not_mem_nil, or_false] at m9 ⊢; omega)) (gfr.mono frR (by intro q9 z9 m9; apply z9; simp only [List.mem_cons, List.not_mem_nil, or_false] at m9 ⊢; omega)))
  have g9 := frR _ _ (gnc (Ne.symm (g_neA a2 g4)) gn0) g4
  have g10 := f3 _ _ (gnc (Ne.symm (g_neA hm hvals)) gn0) hvals
  have g11 := frR _ _ (gnc (Ne.symm (g_neA a2 g10)) gn0) g10
  have g12 := f3 _ _ (gnc (Ne.symm (g_neA hm hmany)) gn0) hmany
  have g13 := frR _ _ (gnc (Ne.symm (g_neA a2 g12)) gn0) g12
  have g14 := f3 _ _ (gnc (Ne.symm (g_neA hm hway)) gn0) hway
  have g15 := frR _ _ (gnc (Ne.symm (g_neA a2 g14)) gn0) g14
  have g16 := f3 _ _ (gnc (Ne.symm (g_neA hm htold)) gn0) htold
  have g17 := frR _ _ (gnc (Ne.symm (g_neA a2 g16)) gn0) g16
  have g18 := f3 _ _ (gnc (Ne.symm (g_neA hm hoth)) gn0) hoth
  have g19 := frR _ _ (gnc (Ne.symm (g_neA a2 g18)) gn0) g18
  have g20 := f3 _ _ (gnc (Ne.symm (g_neA hm hlst)) gn0) hlst
  have g21 := frR _ _ (gnc (Ne.symm (g_neA a2 g20)) gn0) g20
  exact v_iret F E (by omega) (by omega)  dX7_version_43 ⟨⟨_, rfl⟩, ⟨_, _, _, _, _, _, hmR, g9, ⟨_, g11⟩, ⟨_, g13⟩, ⟨_, g15⟩, ⟨_, g17⟩, ⟨_, g19⟩, ⟨_, g21⟩, htw, how, hto⟩, fr8⟩
theorem k_X7_value_7 : gCl wsX7_value 7 RX7 TX7 26 := ⟨by decide +kernel, rfl⟩
theorem m_X7_value_f44 : Cond.fieldLink RX7 44 "SteadyQueuesModel" "thrown" "I" ∈ wsX7_value := by decide +kernel
set_option maxHeartbeats 4000000 in
set_option maxRecDepth 100000 in
theorem o1_X7_value (G : gG) (z0 : Nat) (l : Launch) {h : gH} {m rows asd vals many way told oth lst text now : Nat} {th und fed len spot fa fat num frm may : Int32} {R : Nat → Int32} {D : Dt} (hMS : mS G h m rows asd vals many way told oth lst text th now und fed len spot fa fat num frm may R) (hnow : now < 9) (w9 : wfD D) (hS : slD R (330 * now) D) (x y pl : Int32) (hxx : ¬ iR x D.1) : gC G z0 l yX7_value wsX7_value 6 135 [.ref m, .int x, .int y, .int pl] h (fun o h' => (∃ y9, o = some (.int y9)) ∧ mS G h' m rows asd vals many way told oth lst text (nI 1) now und fed len spot fa fat num frm may R ∧ gfr [m, vals, many, way, told, oth, lst] h h') 0 0 := by
  have h1n := w9.1
  have hn64 := w9.2.1
  have hMS0 := hMS
  obtain ⟨fl, rl, kd, ok, st, wm, hm, hrows, ⟨V, hvals⟩, ⟨M, hmany⟩, ⟨W, hway⟩, ⟨f, htold⟩, ⟨g, hoth⟩, ⟨ll, hlst⟩, htw, how, hto⟩ := hMS
  refine gC_of (cc := cX7_value) (nL := 4) (ret := (some .int)) (by decide) rfl (Nat.le_of_ble_eq_true rfl) ?_
  intro X F E _
  change gF G z0 X cX7_value 4 RX7 wsX7_value (some .int) "value" 6 135 _ _ at F
  show gV G z0 X 0 0 h 0 [(0, .ref m), (1, .int x), (2, .int y), (3, .int pl)] []
  refine v_aload_n (pc' := 1) F dX7_value_0 rfl (j := 0) rfl rfl ?_
  refine v_iconst (pc' := 2) (v := nI 0) F dX7_value_1 (by decide) rfl ?_
  refine w_putf (pc' := 5) F k_X7_value_7 tyX7_ok nmX7 hm 0 (by decide) m_X7_value_f44 rfl  rfl rfl (show 0 < 26 by decide) [.int (nI 0), .ref rows, .ref asd, .int (nI now), .int und, .ref vals, .ref many, .int fl, .int rl, .int kd, .int ok, .int st, .ref way, .int wm, .ref told, .ref oth, .ref lst, .ref text, .int fed, .int len, .int spot, .int fa, .int fat, .int num, .int frm, .int may] rfl dX7_value_2 rfl (fun h1 a2 f3 => ?_)
  refine v_aload_n (pc' := 6) F dX7_value_5 rfl (j := 0) rfl rfl ?_
  refine v_aload_n (pc' := 7) F dX7_value_6 rfl (j := 0) rfl rfl ?_
  refine v_iload_n (pc' := 8) F dX7_value_7 rfl (j := 1) rfl rfl ?_
  have hv9x : ¬ (nI 0 ≤ x ∧ x ≤ nI (D.1 - 1)) := fun z => hxx ((bR_iff h1n (by omega)).mp z)
  have g4 := f3 _ _ (gnc (Ne.symm (g_neA hm hrows)) gn0) hrows
  refine v_callV (pc' := 11) (rt := (some .boolean)) (mcc := 0) (msc := 0) (As := [.int x]) (st := [.ref m]) F (fun l => c_X7_isVersion G z0 l x a2 g4 hnow hS.1 h1n hn64) gX7_value_X7_isVersion rfl hv_X7_isVersion (by decide) (by decide) a2 rfl rfl rfl (Nat.le_of_ble_eq_true rfl) (by omega) (by omega) dX7_value_8 rfl (fun v5 h1 hqv => ?_)
  rw [if_neg hv9x] at hqv; obtain ⟨rfl, rfl⟩ := hqv
  refine v_iconst (pc' := 12) (v := nI 1) F dX7_value_11 (by decide) rfl ?_
  refine v_callV (pc' := 15) (rt := (some .boolean)) (mcc := 0) (msc := 0) (As := [.int (nI 0), .int (nI 1)]) (st := []) F (fun l => c_X7_right0 G z0 l (th := nI 0) (nI 1) (by decide) a2) gX7_value_X7_right rfl hv_X7_right (by decide) (by decide) a2 rfl rfl rfl (Nat.le_of_ble_eq_true rfl) (by omega) (by omega) dX7_value_12 rfl (fun v7 h6 hqr => ?_)
  obtain ⟨rfl, hmR, frR⟩ := hqr
  refine w_if_eq (tgt := 43) (pc' := 18) F (by omega) dX7_value_15 (by decide) rfl (fun _ => ?_) (fun c0 => absurd c0 (by omega))
  refine v_iconst (pc' := 44) (v := nI 0) F dX7_value_43 (by decide) rfl ?_
  have fr8 : gfr [m, vals, many, way, told, oth, lst] h h6 := (gfr.t (gfr.mono f3 (by intro q9 z9 m9; apply z9; simp only [List.mem_cons, List.not_mem_nil, or_false] at m9 ⊢; omega)) (gfr.mono frR (by intro q9 z9 m9; apply z9; simp only [List.mem_cons, List.not_mem_nil, or_false] at m9 ⊢; omega)))
  have g9 := frR _ _ (gnc (Ne.symm (g_neA a2 g4)) gn0) g4
  have g10 := f3 _ _ (gnc (Ne.symm (g_neA hm hvals)) gn0) hvals
  have g11 := frR _ _ (gnc (Ne.symm (g_neA a2 g10)) gn0) g10
  have g12 := f3 _ _ (gnc (Ne.symm (g_neA hm hmany)) gn0) hmany
  have g13 := frR _ _ (gnc (Ne.symm (g_neA a2 g12)) gn0) g12
  have g14 := f3 _ _ (gnc (Ne.symm (g_neA hm hway)) gn0) hway
  have g15 := frR _ _ (gnc (Ne.symm (g_neA a2 g14)) gn0) g14
  have g16 := f3 _ _ (gnc (Ne.symm (g_neA hm htold)) gn0) htold
  have g17 := frR _ _ (gnc (Ne.symm (g_neA a2 g16)) gn0) g16
  have g18 := f3 _ _ (gnc (Ne.symm (g_neA hm hoth)) gn0) hoth
  have g19 := frR _ _ (gnc (Ne.symm (g_neA a2 g18)) gn0) g18
  have g20 := f3 _ _ (gnc (Ne.symm (g_neA hm hlst)) gn0) hlst
  have g21 := frR _ _ (gnc (Ne.symm (g_neA a2 g20)) gn0) g20
  exact v_iret F E (by omega) (by omega)  dX7_value_44 ⟨⟨_, rfl⟩, ⟨_, _, _, _, _, _, hmR, g9, ⟨_, g11⟩, ⟨_, g13⟩, ⟨_, g15⟩, ⟨_, g17⟩, ⟨_, g19⟩, ⟨_, g21⟩, htw, how, hto⟩, fr8⟩
theorem k_X7_first_7 : gCl wsX7_first 7 RX7 TX7 26 := ⟨by decide +kernel, rfl⟩
theorem m_X7_first_f44 : Cond.fieldLink RX7 44 "SteadyQueuesModel" "thrown" "I" ∈ wsX7_first := by decide +kernel
set_option maxHeartbeats 4000000 in
set_option maxRecDepth 100000 in
theorem o1_X7_first (G : gG) (z0 : Nat) (l : Launch) {h : gH} {m rows asd vals many way told oth lst text now : Nat} {th und fed len spot fa fat num frm may : Int32} {R : Nat → Int32} {D : Dt} (hMS : mS G h m rows asd vals many way told oth lst text th now und fed len spot fa fat num frm may R) (hnow : now < 9) (w9 : wfD D) (hS : slD R (330 * now) D) (x  : Int32) (hxx : ¬ iR x D.1) : gC G z0 l yX7_first wsX7_first 5 112 [.ref m, .int x] h (fun o h' => (∃ y9, o = some (.int y9)) ∧ mS G h' m rows asd vals many way told oth lst text (nI 1) now und fed len spot fa fat num frm may R ∧ gfr [m, vals, many, way, told, oth, lst] h h') 0 0 := by
  have h1n := w9.1
  have hn64 := w9.2.1
  have hMS0 := hMS
  obtain ⟨fl, rl, kd, ok, st, wm, hm, hrows, ⟨V, hvals⟩, ⟨M, hmany⟩, ⟨W, hway⟩, ⟨f, htold⟩, ⟨g, hoth⟩, ⟨ll, hlst⟩, htw, how, hto⟩ := hMS
  refine gC_of (cc := cX7_first) (nL := 2) (ret := (some .int)) (by decide) rfl (Nat.le_of_ble_eq_true rfl) ?_
  intro X F E _
  change gF G z0 X cX7_first 2 RX7 wsX7_first (some .int) "first" 5 112 _ _ at F
  show gV G z0 X 0 0 h 0 [(0, .ref m), (1, .int x)] []
  refine v_aload_n (pc' := 1) F dX7_first_0 rfl (j := 0) rfl rfl ?_
  refine v_iconst (pc' := 2) (v := nI 0) F dX7_first_1 (by decide) rfl ?_
  refine w_putf (pc' := 5) F k_X7_first_7 tyX7_ok nmX7 hm 0 (by decide) m_X7_first_f44 rfl  rfl rfl (show 0 < 26 by decide) [.int (nI 0), .ref rows, .ref asd, .int (nI now), .int und, .ref vals, .ref many, .int fl, .int rl, .int kd, .int ok, .int st, .ref way, .int wm, .ref told, .ref oth, .ref lst, .ref text, .int fed, .int len, .int spot, .int fa, .int fat, .int num, .int frm, .int may] rfl dX7_first_2 rfl (fun h1 a2 f3 => ?_)
  refine v_aload_n (pc' := 6) F dX7_first_5 rfl (j := 0) rfl rfl ?_
  refine v_aload_n (pc' := 7) F dX7_first_6 rfl (j := 0) rfl rfl ?_
  refine v_iload_n (pc' := 8) F dX7_first_7 rfl (j := 1) rfl rfl ?_
  have hv9x : ¬ (nI 0 ≤ x ∧ x ≤ nI (D.1 - 1)) := fun z => hxx ((bR_iff h1n (by omega)).mp z)
  have g4 := f3 _ _ (gnc (Ne.symm (g_neA hm hrows)) gn0) hrows
  refine v_callV (pc' := 11) (rt := (some .boolean)) (mcc := 0) (msc := 0) (As := [.int x]) (st := [.ref m]) F (fun l => c_X7_isVersion G z0 l x a2 g4 hnow hS.1 h1n hn64) gX7_first_X7_isVersion rfl hv_X7_isVersion (by decide) (by decide) a2 rfl rfl rfl (Nat.le_of_ble_eq_true rfl) (by omega) (by omega) dX7_first_8 rfl (fun v5 h1 hqv => ?_)
  rw [if_neg hv9x] at hqv; obtain ⟨rfl, rfl⟩ := hqv
  refine v_iconst (pc' := 12) (v := nI 1) F dX7_first_11 (by decide) rfl ?_
  refine v_callV (pc' := 15) (rt := (some .boolean)) (mcc := 0) (msc := 0) (As := [.int (nI 0), .int (nI 1)]) (st := []) F (fun l => c_X7_right0 G z0 l (th := nI 0) (nI 1) (by decide) a2) gX7_first_X7_right rfl hv_X7_right (by decide) (by decide) a2 rfl rfl rfl (Nat.le_of_ble_eq_true rfl) (by omega) (by omega) dX7_first_12 rfl (fun v7 h6 hqr => ?_)
  obtain ⟨rfl, hmR, frR⟩ := hqr
  refine w_if_eq (tgt := 39) (pc' := 18) F (by omega) dX7_first_15 (by decide) rfl (fun _ => ?_) (fun c0 => absurd c0 (by omega))
  refine v_iconst (pc' := 40) (v := nI 0) F dX7_first_39 (by decide) rfl ?_
  have fr8 : gfr [m, vals, many, way, told, oth, lst] h h6 := (gfr.t (gfr.mono f3 (by intro q9 z9 m9; apply z9; simp only [List.mem_cons, List.not_mem_nil, or_false] at m9 ⊢; omega)) (gfr.mono frR (by intro q9 z9 m9; apply z9; simp only [List.mem_cons, List.not_mem_nil, or_false] at m9 ⊢; omega)))
  have g9 := frR _ _ (gnc (Ne.symm (g_neA a2 g4)) gn0) g4
  have g10 := f3 _ _ (gnc (Ne.symm (g_neA hm hvals)) gn0) hvals
  have g11 := frR _ _ (gnc (Ne.symm (g_neA a2 g10)) gn0) g10
  have g12 := f3 _ _ (gnc (Ne.symm (g_neA hm hmany)) gn0) hmany
  have g13 := frR _ _ (gnc (Ne.symm (g_neA a2 g12)) gn0) g12
  have g14 := f3 _ _ (gnc (Ne.symm (g_neA hm hway)) gn0) hway
  have g15 := frR _ _ (gnc (Ne.symm (g_neA a2 g14)) gn0) g14
  have g16 := f3 _ _ (gnc (Ne.symm (g_neA hm htold)) gn0) htold
  have g17 := frR _ _ (gnc (Ne.symm (g_neA a2 g16)) gn0) g16
  have g18 := f3 _ _ (gnc (Ne.symm (g_neA hm hoth)) gn0) hoth
  have g19 := frR _ _ (gnc (Ne.symm (g_neA a2 g18)) gn0) g18
  have g20 := f3 _ _ (gnc (Ne.symm (g_neA hm hlst)) gn0) hlst
  have g21 := frR _ _ (gnc (Ne.symm (g_neA a2 g20)) gn0) g20
  exact v_iret F E (by omega) (by omega)  dX7_first_40 ⟨⟨_, rfl⟩, ⟨_, _, _, _, _, _, hmR, g9, ⟨_, g11⟩, ⟨_, g13⟩, ⟨_, g15⟩, ⟨_, g17⟩, ⟨_, g19⟩, ⟨_, g21⟩, htw, how, hto⟩, fr8⟩
theorem k_X7_find_7 : gCl wsX7_find 7 RX7 TX7 26 := ⟨by decide +kernel, rfl⟩
theorem m_X7_find_f44 : Cond.fieldLink RX7 44 "SteadyQueuesModel" "thrown" "I" ∈ wsX7_find := by decide +kernel
set_option maxHeartbeats 4000000 in
set_option maxRecDepth 100000 in
theorem o1_X7_find (G : gG) (z0 : Nat) (l : Launch) {h : gH} {m rows asd vals many way told oth lst text now : Nat} {th und fed len spot fa fat num frm may : Int32} {R : Nat → Int32} {D : Dt} (hMS : mS G h m rows asd vals many way told oth lst text th now und fed len spot fa fat num frm may R) (hnow : now < 9) (w9 : wfD D) (hS : slD R (330 * now) D) (x y : Int32) (hxx : ¬ iR x D.1) : gC G z0 l yX7_find wsX7_find 5 112 [.ref m, .int x, .int y] h (fun o h' => (∃ y9, o = some (.int y9)) ∧ mS G h' m rows asd vals many way told oth lst text (nI 1) now und fed len spot fa fat num frm may R ∧ gfr [m, vals, many, way, told, oth, lst] h h') 0 0 := by
  have h1n := w9.1
  have hn64 := w9.2.1
  have hMS0 := hMS
  obtain ⟨fl, rl, kd, ok, st, wm, hm, hrows, ⟨V, hvals⟩, ⟨M, hmany⟩, ⟨W, hway⟩, ⟨f, htold⟩, ⟨g, hoth⟩, ⟨ll, hlst⟩, htw, how, hto⟩ := hMS
  refine gC_of (cc := cX7_find) (nL := 5) (ret := (some .int)) (by decide) rfl (Nat.le_of_ble_eq_true rfl) ?_
  intro X F E _
  change gF G z0 X cX7_find 5 RX7 wsX7_find (some .int) "find" 5 112 _ _ at F
  show gV G z0 X 0 0 h 0 [(0, .ref m), (1, .int x), (2, .int y)] []
  refine v_aload_n (pc' := 1) F dX7_find_0 rfl (j := 0) rfl rfl ?_
  refine v_iconst (pc' := 2) (v := nI 0) F dX7_find_1 (by decide) rfl ?_
  refine w_putf (pc' := 5) F k_X7_find_7 tyX7_ok nmX7 hm 0 (by decide) m_X7_find_f44 rfl  rfl rfl (show 0 < 26 by decide) [.int (nI 0), .ref rows, .ref asd, .int (nI now), .int und, .ref vals, .ref many, .int fl, .int rl, .int kd, .int ok, .int st, .ref way, .int wm, .ref told, .ref oth, .ref lst, .ref text, .int fed, .int len, .int spot, .int fa, .int fat, .int num, .int frm, .int may] rfl dX7_find_2 rfl (fun h1 a2 f3 => ?_)
  refine v_aload_n (pc' := 6) F dX7_find_5 rfl (j := 0) rfl rfl ?_
  refine v_aload_n (pc' := 7) F dX7_find_6 rfl (j := 0) rfl rfl ?_
  refine v_iload_n (pc' := 8) F dX7_find_7 rfl (j := 1) rfl rfl ?_
  have hv9x : ¬ (nI 0 ≤ x ∧ x ≤ nI (D.1 - 1)) := fun z => hxx ((bR_iff h1n (by omega)).mp z)
  have g4 := f3 _ _ (gnc (Ne.symm (g_neA hm hrows)) gn0) hrows
  refine v_callV (pc' := 11) (rt := (some .boolean)) (mcc := 0) (msc := 0) (As := [.int x]) (st := [.ref m]) F (fun l => c_X7_isVersion G z0 l x a2 g4 hnow hS.1 h1n hn64) gX7_find_X7_isVersion rfl hv_X7_isVersion (by decide) (by decide) a2 rfl rfl rfl (Nat.le_of_ble_eq_true rfl) (by omega) (by omega) dX7_find_8 rfl (fun v5 h1 hqv => ?_)
  rw [if_neg hv9x] at hqv; obtain ⟨rfl, rfl⟩ := hqv
  refine v_iconst (pc' := 12) (v := nI 1) F dX7_find_11 (by decide) rfl ?_
  refine v_callV (pc' := 15) (rt := (some .boolean)) (mcc := 0) (msc := 0) (As := [.int (nI 0), .int (nI 1)]) (st := []) F (fun l => c_X7_right0 G z0 l (th := nI 0) (nI 1) (by decide) a2) gX7_find_X7_right rfl hv_X7_right (by decide) (by decide) a2 rfl rfl rfl (Nat.le_of_ble_eq_true rfl) (by omega) (by omega) dX7_find_12 rfl (fun v7 h6 hqr => ?_)
  obtain ⟨rfl, hmR, frR⟩ := hqr
  refine w_if_ne (tgt := 20) (pc' := 18) F (by omega) dX7_find_15 (by decide) rfl (fun c0 => absurd c0 (by omega)) (fun _ => ?_)
  refine v_iconst (pc' := 19) (v := nI 0) F dX7_find_18 (by decide) rfl ?_
  have fr8 : gfr [m, vals, many, way, told, oth, lst] h h6 := (gfr.t (gfr.mono f3 (by intro q9 z9 m9; apply z9; simp only [List.mem_cons, List.not_mem_nil, or_false] at m9 ⊢; omega)) (gfr.mono frR (by intro q9 z9 m9; apply z9; simp only [List.mem_cons, List.not_mem_nil, or_false] at m9 ⊢; omega)))
  have g9 := frR _ _ (gnc (Ne.symm (g_neA a2 g4)) gn0) g4
  have g10 := f3 _ _ (gnc (Ne.symm (g_neA hm hvals)) gn0) hvals
  have g11 := frR _ _ (gnc (Ne.symm (g_neA a2 g10)) gn0) g10
  have g12 := f3 _ _ (gnc (Ne.symm (g_neA hm hmany)) gn0) hmany
  have g13 := frR _ _ (gnc (Ne.symm (g_neA a2 g12)) gn0) g12
  have g14 := f3 _ _ (gnc (Ne.symm (g_neA hm hway)) gn0) hway
  have g15 := frR _ _ (gnc (Ne.symm (g_neA a2 g14)) gn0) g14
  have g16 := f3 _ _ (gnc (Ne.symm (g_neA hm htold)) gn0) htold
  have g17 := frR _ _ (gnc (Ne.symm (g_neA a2 g16)) gn0) g16
  have g18 := f3 _ _ (gnc (Ne.symm (g_neA hm hoth)) gn0) hoth
  have g19 := frR _ _ (gnc (Ne.symm (g_neA a2 g18)) gn0) g18
  have g20 := f3 _ _ (gnc (Ne.symm (g_neA hm hlst)) gn0) hlst
  have g21 := frR _ _ (gnc (Ne.symm (g_neA a2 g20)) gn0) g20
  exact v_iret F E (by omega) (by omega)  dX7_find_19 ⟨⟨_, rfl⟩, ⟨_, _, _, _, _, _, hmR, g9, ⟨_, g11⟩, ⟨_, g13⟩, ⟨_, g15⟩, ⟨_, g17⟩, ⟨_, g19⟩, ⟨_, g21⟩, htw, how, hto⟩, fr8⟩
theorem k_X7_work_7 : gCl wsX7_work 7 RX7 TX7 26 := ⟨by decide +kernel, rfl⟩
theorem m_X7_work_f44 : Cond.fieldLink RX7 44 "SteadyQueuesModel" "thrown" "I" ∈ wsX7_work := by decide +kernel
set_option maxHeartbeats 4000000 in
set_option maxRecDepth 100000 in
theorem o1_X7_work (G : gG) (z0 : Nat) (l : Launch) {h : gH} {m rows asd vals many way told oth lst text now : Nat} {th und fed len spot fa fat num frm may : Int32} {R : Nat → Int32} {D : Dt} (hMS : mS G h m rows asd vals many way told oth lst text th now und fed len spot fa fat num frm may R) (hnow : now < 9) (w9 : wfD D) (hS : slD R (330 * now) D) (x y : Int32) (hxx : ¬ iR x D.1) : gC G z0 l yX7_work wsX7_work 3 70 [.ref m, .int x, .int y] h (fun o h' => (∃ y9, o = some (.int y9)) ∧ mS G h' m rows asd vals many way told oth lst text (nI 1) now und fed len spot fa fat num frm may R ∧ gfr [m, vals, many, way, told, oth, lst] h h') 0 0 := by
  have h1n := w9.1
  have hn64 := w9.2.1
  have hMS0 := hMS
  obtain ⟨fl, rl, kd, ok, st, wm, hm, hrows, ⟨V, hvals⟩, ⟨M, hmany⟩, ⟨W, hway⟩, ⟨f, htold⟩, ⟨g, hoth⟩, ⟨ll, hlst⟩, htw, how, hto⟩ := hMS
  refine gC_of (cc := cX7_work) (nL := 5) (ret := (some .int)) (by decide) rfl (Nat.le_of_ble_eq_true rfl) ?_
  intro X F E _
  change gF G z0 X cX7_work 5 RX7 wsX7_work (some .int) "work" 3 70 _ _ at F
  show gV G z0 X 0 0 h 0 [(0, .ref m), (1, .int x), (2, .int y)] []
  refine v_aload_n (pc' := 1) F dX7_work_0 rfl (j := 0) rfl rfl ?_
  refine v_iconst (pc' := 2) (v := nI 0) F dX7_work_1 (by decide) rfl ?_
  refine w_putf (pc' := 5) F k_X7_work_7 tyX7_ok nmX7 hm 0 (by decide) m_X7_work_f44 rfl  rfl rfl (show 0 < 26 by decide) [.int (nI 0), .ref rows, .ref asd, .int (nI now), .int und, .ref vals, .ref many, .int fl, .int rl, .int kd, .int ok, .int st, .ref way, .int wm, .ref told, .ref oth, .ref lst, .ref text, .int fed, .int len, .int spot, .int fa, .int fat, .int num, .int frm, .int may] rfl dX7_work_2 rfl (fun h1 a2 f3 => ?_)
  refine v_aload_n (pc' := 6) F dX7_work_5 rfl (j := 0) rfl rfl ?_
  refine v_aload_n (pc' := 7) F dX7_work_6 rfl (j := 0) rfl rfl ?_
  refine v_iload_n (pc' := 8) F dX7_work_7 rfl (j := 1) rfl rfl ?_
  have hv9x : ¬ (nI 0 ≤ x ∧ x ≤ nI (D.1 - 1)) := fun z => hxx ((bR_iff h1n (by omega)).mp z)
  have g4 := f3 _ _ (gnc (Ne.symm (g_neA hm hrows)) gn0) hrows
  refine v_callV (pc' := 11) (rt := (some .boolean)) (mcc := 0) (msc := 0) (As := [.int x]) (st := [.ref m]) F (fun l => c_X7_isVersion G z0 l x a2 g4 hnow hS.1 h1n hn64) gX7_work_X7_isVersion rfl hv_X7_isVersion (by decide) (by decide) a2 rfl rfl rfl (Nat.le_of_ble_eq_true rfl) (by omega) (by omega) dX7_work_8 rfl (fun v5 h1 hqv => ?_)
  rw [if_neg hv9x] at hqv; obtain ⟨rfl, rfl⟩ := hqv
  refine v_iconst (pc' := 12) (v := nI 1) F dX7_work_11 (by decide) rfl ?_
  refine v_callV (pc' := 15) (rt := (some .boolean)) (mcc := 0) (msc := 0) (As := [.int (nI 0), .int (nI 1)]) (st := []) F (fun l => c_X7_right0 G z0 l (th := nI 0) (nI 1) (by decide) a2) gX7_work_X7_right rfl hv_X7_right (by decide) (by decide) a2 rfl rfl rfl (Nat.le_of_ble_eq_true rfl) (by omega) (by omega) dX7_work_12 rfl (fun v7 h6 hqr => ?_)
  obtain ⟨rfl, hmR, frR⟩ := hqr
  refine w_if_eq (tgt := 32) (pc' := 18) F (by omega) dX7_work_15 (by decide) rfl (fun _ => ?_) (fun c0 => absurd c0 (by omega))
  refine v_iconst (pc' := 33) (v := nI 0) F dX7_work_32 (by decide) rfl ?_
  have fr8 : gfr [m, vals, many, way, told, oth, lst] h h6 := (gfr.t (gfr.mono f3 (by intro q9 z9 m9; apply z9; simp only [List.mem_cons, List.not_mem_nil, or_false] at m9 ⊢; omega)) (gfr.mono frR (by intro q9 z9 m9; apply z9; simp only [List.mem_cons, List.not_mem_nil, or_false] at m9 ⊢; omega)))
  have g9 := frR _ _ (gnc (Ne.symm (g_neA a2 g4)) gn0) g4
  have g10 := f3 _ _ (gnc (Ne.symm (g_neA hm hvals)) gn0) hvals
  have g11 := frR _ _ (gnc (Ne.symm (g_neA a2 g10)) gn0) g10
  have g12 := f3 _ _ (gnc (Ne.symm (g_neA hm hmany)) gn0) hmany
  have g13 := frR _ _ (gnc (Ne.symm (g_neA a2 g12)) gn0) g12
  have g14 := f3 _ _ (gnc (Ne.symm (g_neA hm hway)) gn0) hway
  have g15 := frR _ _ (gnc (Ne.symm (g_neA a2 g14)) gn0) g14
  have g16 := f3 _ _ (gnc (Ne.symm (g_neA hm htold)) gn0) htold
  have g17 := frR _ _ (gnc (Ne.symm (g_neA a2 g16)) gn0) g16
  have g18 := f3 _ _ (gnc (Ne.symm (g_neA hm hoth)) gn0) hoth
  have g19 := frR _ _ (gnc (Ne.symm (g_neA a2 g18)) gn0) g18
  have g20 := f3 _ _ (gnc (Ne.symm (g_neA hm hlst)) gn0) hlst
  have g21 := frR _ _ (gnc (Ne.symm (g_neA a2 g20)) gn0) g20
  exact v_iret F E (by omega) (by omega)  dX7_work_33 ⟨⟨_, rfl⟩, ⟨_, _, _, _, _, _, hmR, g9, ⟨_, g11⟩, ⟨_, g13⟩, ⟨_, g15⟩, ⟨_, g17⟩, ⟨_, g19⟩, ⟨_, g21⟩, htw, how, hto⟩, fr8⟩
theorem k_X7_idleIn_7 : gCl wsX7_idleIn 7 RX7 TX7 26 := ⟨by decide +kernel, rfl⟩
theorem m_X7_idleIn_f44 : Cond.fieldLink RX7 44 "SteadyQueuesModel" "thrown" "I" ∈ wsX7_idleIn := by decide +kernel
set_option maxHeartbeats 4000000 in
set_option maxRecDepth 100000 in
theorem o1_X7_idleIn (G : gG) (z0 : Nat) (l : Launch) {h : gH} {m rows asd vals many way told oth lst text now : Nat} {th und fed len spot fa fat num frm may : Int32} {R : Nat → Int32} {D : Dt} (hMS : mS G h m rows asd vals many way told oth lst text th now und fed len spot fa fat num frm may R) (hnow : now < 9) (w9 : wfD D) (hS : slD R (330 * now) D) (x  : Int32) (hxx : ¬ iR x D.1) : gC G z0 l yX7_idleIn wsX7_idleIn 5 112 [.ref m, .int x] h (fun o h' => (∃ y9, o = some (.int y9)) ∧ mS G h' m rows asd vals many way told oth lst text (nI 1) now und fed len spot fa fat num frm may R ∧ gfr [m, vals, many, way, told, oth, lst] h h') 0 0 := by
  have h1n := w9.1
  have hn64 := w9.2.1
  have hMS0 := hMS
  obtain ⟨fl, rl, kd, ok, st, wm, hm, hrows, ⟨V, hvals⟩, ⟨M, hmany⟩, ⟨W, hway⟩, ⟨f, htold⟩, ⟨g, hoth⟩, ⟨ll, hlst⟩, htw, how, hto⟩ := hMS
  refine gC_of (cc := cX7_idleIn) (nL := 4) (ret := (some .int)) (by decide) rfl (Nat.le_of_ble_eq_true rfl) ?_
  intro X F E _
  change gF G z0 X cX7_idleIn 4 RX7 wsX7_idleIn (some .int) "idleIn" 5 112 _ _ at F
  show gV G z0 X 0 0 h 0 [(0, .ref m), (1, .int x)] []
  refine v_aload_n (pc' := 1) F dX7_idleIn_0 rfl (j := 0) rfl rfl ?_
  refine v_iconst (pc' := 2) (v := nI 0) F dX7_idleIn_1 (by decide) rfl ?_
  refine w_putf (pc' := 5) F k_X7_idleIn_7 tyX7_ok nmX7 hm 0 (by decide) m_X7_idleIn_f44 rfl  rfl rfl (show 0 < 26 by decide) [.int (nI 0), .ref rows, .ref asd, .int (nI now), .int und, .ref vals, .ref many, .int fl, .int rl, .int kd, .int ok, .int st, .ref way, .int wm, .ref told, .ref oth, .ref lst, .ref text, .int fed, .int len, .int spot, .int fa, .int fat, .int num, .int frm, .int may] rfl dX7_idleIn_2 rfl (fun h1 a2 f3 => ?_)
  refine v_aload_n (pc' := 6) F dX7_idleIn_5 rfl (j := 0) rfl rfl ?_
  refine v_aload_n (pc' := 7) F dX7_idleIn_6 rfl (j := 0) rfl rfl ?_
  refine v_iload_n (pc' := 8) F dX7_idleIn_7 rfl (j := 1) rfl rfl ?_
  have hv9x : ¬ (nI 0 ≤ x ∧ x ≤ nI (D.1 - 1)) := fun z => hxx ((bR_iff h1n (by omega)).mp z)
  have g4 := f3 _ _ (gnc (Ne.symm (g_neA hm hrows)) gn0) hrows
  refine v_callV (pc' := 11) (rt := (some .boolean)) (mcc := 0) (msc := 0) (As := [.int x]) (st := [.ref m]) F (fun l => c_X7_isVersion G z0 l x a2 g4 hnow hS.1 h1n hn64) gX7_idleIn_X7_isVersion rfl hv_X7_isVersion (by decide) (by decide) a2 rfl rfl rfl (Nat.le_of_ble_eq_true rfl) (by omega) (by omega) dX7_idleIn_8 rfl (fun v5 h1 hqv => ?_)
  rw [if_neg hv9x] at hqv; obtain ⟨rfl, rfl⟩ := hqv
  refine v_iconst (pc' := 12) (v := nI 1) F dX7_idleIn_11 (by decide) rfl ?_
  refine v_callV (pc' := 15) (rt := (some .boolean)) (mcc := 0) (msc := 0) (As := [.int (nI 0), .int (nI 1)]) (st := []) F (fun l => c_X7_right0 G z0 l (th := nI 0) (nI 1) (by decide) a2) gX7_idleIn_X7_right rfl hv_X7_right (by decide) (by decide) a2 rfl rfl rfl (Nat.le_of_ble_eq_true rfl) (by omega) (by omega) dX7_idleIn_12 rfl (fun v7 h6 hqr => ?_)
  obtain ⟨rfl, hmR, frR⟩ := hqr
  refine w_if_ne (tgt := 20) (pc' := 18) F (by omega) dX7_idleIn_15 (by decide) rfl (fun c0 => absurd c0 (by omega)) (fun _ => ?_)
  refine v_iconst (pc' := 19) (v := nI 0) F dX7_idleIn_18 (by decide) rfl ?_
  have fr8 : gfr [m, vals, many, way, told, oth, lst] h h6 := (gfr.t (gfr.mono f3 (by intro q9 z9 m9; apply z9; simp only [List.mem_cons, List.not_mem_nil, or_false] at m9 ⊢; omega)) (gfr.mono frR (by intro q9 z9 m9; apply z9; simp only [List.mem_cons, List.not_mem_nil, or_false] at m9 ⊢; omega)))
  have g9 := frR _ _ (gnc (Ne.symm (g_neA a2 g4)) gn0) g4
  have g10 := f3 _ _ (gnc (Ne.symm (g_neA hm hvals)) gn0) hvals
  have g11 := frR _ _ (gnc (Ne.symm (g_neA a2 g10)) gn0) g10
  have g12 := f3 _ _ (gnc (Ne.symm (g_neA hm hmany)) gn0) hmany
  have g13 := frR _ _ (gnc (Ne.symm (g_neA a2 g12)) gn0) g12
  have g14 := f3 _ _ (gnc (Ne.symm (g_neA hm hway)) gn0) hway
  have g15 := frR _ _ (gnc (Ne.symm (g_neA a2 g14)) gn0) g14
  have g16 := f3 _ _ (gnc (Ne.symm (g_neA hm htold)) gn0) htold
  have g17 := frR _ _ (gnc (Ne.symm (g_neA a2 g16)) gn0) g16
  have g18 := f3 _ _ (gnc (Ne.symm (g_neA hm hoth)) gn0) hoth
  have g19 := frR _ _ (gnc (Ne.symm (g_neA a2 g18)) gn0) g18
  have g20 := f3 _ _ (gnc (Ne.symm (g_neA hm hlst)) gn0) hlst
  have g21 := frR _ _ (gnc (Ne.symm (g_neA a2 g20)) gn0) g20
  exact v_iret F E (by omega) (by omega)  dX7_idleIn_19 ⟨⟨_, rfl⟩, ⟨_, _, _, _, _, _, hmR, g9, ⟨_, g11⟩, ⟨_, g13⟩, ⟨_, g15⟩, ⟨_, g17⟩, ⟨_, g19⟩, ⟨_, g21⟩, htw, how, hto⟩, fr8⟩
theorem k_X7_push_7 : gCl wsX7_push 7 RX7 TX7 26 := ⟨by decide +kernel, rfl⟩
theorem m_X7_push_f44 : Cond.fieldLink RX7 44 "SteadyQueuesModel" "thrown" "I" ∈ wsX7_push := by decide +kernel
set_option maxHeartbeats 4000000 in
set_option maxRecDepth 100000 in
theorem o1_X7_push (G : gG) (z0 : Nat) (l : Launch) {h : gH} {m rows asd vals many way told oth lst text now : Nat} {th und fed len spot fa fat num frm may : Int32} {R : Nat → Int32} {D : Dt} (hMS : mS G h m rows asd vals many way told oth lst text th now und fed len spot fa fat num frm may R) (hnow : now < 9) (w9 : wfD D) (hS : slD R (330 * now) D) (x y : Int32) (hxx : ¬ iR x D.1) : gC G z0 l yX7_push wsX7_push 6 131 [.ref m, .int x, .int y] h (fun o h' => (∃ y9, o = some (.int y9)) ∧ mS G h' m rows asd vals many way told oth lst text (nI 1) now und fed len spot fa fat num frm may R ∧ gfr [m, vals, many, way, told, oth, lst] h h') 0 0 := by
  have h1n := w9.1
  have hn64 := w9.2.1
  have hMS0 := hMS
  obtain ⟨fl, rl, kd, ok, st, wm, hm, hrows, ⟨V, hvals⟩, ⟨M, hmany⟩, ⟨W, hway⟩, ⟨f, htold⟩, ⟨g, hoth⟩, ⟨ll, hlst⟩, htw, how, hto⟩ := hMS
  refine gC_of (cc := cX7_push) (nL := 3) (ret := (some .int)) (by decide) rfl (Nat.le_of_ble_eq_true rfl) ?_
  intro X F E _
  change gF G z0 X cX7_push 3 RX7 wsX7_push (some .int) "push" 6 131 _ _ at F
  show gV G z0 X 0 0 h 0 [(0, .ref m), (1, .int x), (2, .int y)] []
  refine v_aload_n (pc' := 1) F dX7_push_0 rfl (j := 0) rfl rfl ?_
  refine v_iconst (pc' := 2) (v := nI 0) F dX7_push_1 (by decide) rfl ?_
  refine w_putf (pc' := 5) F k_X7_push_7 tyX7_ok nmX7 hm 0 (by decide) m_X7_push_f44 rfl  rfl rfl (show 0 < 26 by decide) [.int (nI 0), .ref rows, .ref asd, .int (nI now), .int und, .ref vals, .ref many, .int fl, .int rl, .int kd, .int ok, .int st, .ref way, .int wm, .ref told, .ref oth, .ref lst, .ref text, .int fed, .int len, .int spot, .int fa, .int fat, .int num, .int frm, .int may] rfl dX7_push_2 rfl (fun h1 a2 f3 => ?_)
  refine v_aload_n (pc' := 6) F dX7_push_5 rfl (j := 0) rfl rfl ?_
  refine v_aload_n (pc' := 7) F dX7_push_6 rfl (j := 0) rfl rfl ?_
  refine v_iload_n (pc' := 8) F dX7_push_7 rfl (j := 1) rfl rfl ?_
  have hv9x : ¬ (nI 0 ≤ x ∧ x ≤ nI (D.1 - 1)) := fun z => hxx ((bR_iff h1n (by omega)).mp z)
  have g4 := f3 _ _ (gnc (Ne.symm (g_neA hm hrows)) gn0) hrows
  refine v_callV (pc' := 11) (rt := (some .boolean)) (mcc := 0) (msc := 0) (As := [.int x]) (st := [.ref m]) F (fun l => c_X7_isVersion G z0 l x a2 g4 hnow hS.1 h1n hn64) gX7_push_X7_isVersion rfl hv_X7_isVersion (by decide) (by decide) a2 rfl rfl rfl (Nat.le_of_ble_eq_true rfl) (by omega) (by omega) dX7_push_8 rfl (fun v5 h1 hqv => ?_)
  rw [if_neg hv9x] at hqv; obtain ⟨rfl, rfl⟩ := hqv
  refine v_iconst (pc' := 12) (v := nI 1) F dX7_push_11 (by decide) rfl ?_
  refine v_callV (pc' := 15) (rt := (some .boolean)) (mcc := 0) (msc := 0) (As := [.int (nI 0), .int (nI 1)]) (st := []) F (fun l => c_X7_right0 G z0 l (th := nI 0) (nI 1) (by decide) a2) gX7_push_X7_right rfl hv_X7_right (by decide) (by decide) a2 rfl rfl rfl (Nat.le_of_ble_eq_true rfl) (by omega) (by omega) dX7_push_12 rfl (fun v7 h6 hqr => ?_)
  obtain ⟨rfl, hmR, frR⟩ := hqr
  refine w_if_eq (tgt := 55) (pc' := 18) F (by omega) dX7_push_15 (by decide) rfl (fun _ => ?_) (fun c0 => absurd c0 (by omega))
  refine v_iconst (pc' := 56) (v := nI 0) F dX7_push_55 (by decide) rfl ?_
  have fr8 : gfr [m, vals, many, way, told, oth, lst] h h6 := (gfr.t (gfr.mono f3 (by intro q9 z9 m9; apply z9; simp only [List.mem_cons, List.not_mem_nil, or_false] at m9 ⊢; omega)) (gfr.mono frR (by intro q9 z9 m9; apply z9; simp only [List.mem_cons, List.not_mem_nil, or_false] at m9 ⊢; omega)))
  have g9 := frR _ _ (gnc (Ne.symm (g_neA a2 g4)) gn0) g4
  have g10 := f3 _ _ (gnc (Ne.symm (g_neA hm hvals)) gn0) hvals
  have g11 := frR _ _ (gnc (Ne.symm (g_neA a2 g10)) gn0) g10
  have g12 := f3 _ _ (gnc (Ne.symm (g_neA hm hmany)) gn0) hmany
  have g13 := frR _ _ (gnc (Ne.symm (g_neA a2 g12)) gn0) g12
  have g14 := f3 _ _ (gnc (Ne.symm (g_neA hm hway)) gn0) hway
  have g15 := frR _ _ (gnc (Ne.symm (g_neA a2 g14)) gn0) g14
  have g16 := f3 _ _ (gnc (Ne.symm (g_neA hm htold)) gn0) htold
  have g17 := frR _ _ (gnc (Ne.symm (g_neA a2 g16)) gn0) g16
  have g18 := f3 _ _ (gnc (Ne.symm (g_neA hm hoth)) gn0) hoth
  have g19 := frR _ _ (gnc (Ne.symm (g_neA a2 g18)) gn0) g18
  have g20 := f3 _ _ (gnc (Ne.symm (g_neA hm hlst)) gn0) hlst
  have g21 := frR _ _ (gnc (Ne.symm (g_neA a2 g20)) gn0) g20
  exact v_iret F E (by omega) (by omega)  dX7_push_56 ⟨⟨_, rfl⟩, ⟨_, _, _, _, _, _, hmR, g9, ⟨_, g11⟩, ⟨_, g13⟩, ⟨_, g15⟩, ⟨_, g17⟩, ⟨_, g19⟩, ⟨_, g21⟩, htw, how, hto⟩, fr8⟩
theorem k_X7_pop_7 : gCl wsX7_pop 7 RX7 TX7 26 := ⟨by decide +kernel, rfl⟩
theorem m_X7_pop_f44 : Cond.fieldLink RX7 44 "SteadyQueuesModel" "thrown" "I" ∈ wsX7_pop := by decide +kernel
set_option maxHeartbeats 4000000 in
set_option maxRecDepth 100000 in
theorem o1_X7_pop (G : gG) (z0 : Nat) (l : Launch) {h : gH} {m rows asd vals many way told oth lst text now : Nat} {th und fed len spot fa fat num frm may : Int32} {R : Nat → Int32} {D : Dt} (hMS : mS G h m rows asd vals many way told oth lst text th now und fed len spot fa fat num frm may R) (hnow : now < 9) (w9 : wfD D) (hS : slD R (330 * now) D) (x  : Int32) (hxx : ¬ iR x D.1) : gC G z0 l yX7_pop wsX7_pop 6 131 [.ref m, .int x] h (fun o h' => (∃ y9, o = some (.int y9)) ∧ mS G h' m rows asd vals many way told oth lst text (nI 1) now und fed len spot fa fat num frm may R ∧ gfr [m, vals, many, way, told, oth, lst] h h') 0 0 := by
  have h1n := w9.1
  have hn64 := w9.2.1
  have hMS0 := hMS
  obtain ⟨fl, rl, kd, ok, st, wm, hm, hrows, ⟨V, hvals⟩, ⟨M, hmany⟩, ⟨W, hway⟩, ⟨f, htold⟩, ⟨g, hoth⟩, ⟨ll, hlst⟩, htw, how, hto⟩ := hMS
  refine gC_of (cc := cX7_pop) (nL := 2) (ret := (some .int)) (by decide) rfl (Nat.le_of_ble_eq_true rfl) ?_
  intro X F E _
  change gF G z0 X cX7_pop 2 RX7 wsX7_pop (some .int) "pop" 6 131 _ _ at F
  show gV G z0 X 0 0 h 0 [(0, .ref m), (1, .int x)] []
  refine v_aload_n (pc' := 1) F dX7_pop_0 rfl (j := 0) rfl rfl ?_
  refine v_iconst (pc' := 2) (v := nI 0) F dX7_pop_1 (by decide) rfl ?_
  refine w_putf (pc' := 5) F k_X7_pop_7 tyX7_ok nmX7 hm 0 (by decide) m_X7_pop_f44 rfl  rfl rfl (show 0 < 26 by decide) [.int (nI 0), .ref rows, .ref asd, .int (nI now), .int und, .ref vals, .ref many, .int fl, .int rl, .int kd, .int ok, .int st, .ref way, .int wm, .ref told, .ref oth, .ref lst, .ref text, .int fed, .int len, .int spot, .int fa, .int fat, .int num, .int frm, .int may] rfl dX7_pop_2 rfl (fun h1 a2 f3 => ?_)
  refine v_aload_n (pc' := 6) F dX7_pop_5 rfl (j := 0) rfl rfl ?_
  refine v_aload_n (pc' := 7) F dX7_pop_6 rfl (j := 0) rfl rfl ?_
  refine v_iload_n (pc' := 8) F dX7_pop_7 rfl (j := 1) rfl rfl ?_
  have hv9x : ¬ (nI 0 ≤ x ∧ x ≤ nI (D.1 - 1)) := fun z => hxx ((bR_iff h1n (by omega)).mp z)
  have g4 := f3 _ _ (gnc (Ne.symm (g_neA hm hrows)) gn0) hrows
  refine v_callV (pc' := 11) (rt := (some .boolean)) (mcc := 0) (msc := 0) (As := [.int x]) (st := [.ref m]) F (fun l => c_X7_isVersion G z0 l x a2 g4 hnow hS.1 h1n hn64) gX7_pop_X7_isVersion rfl hv_X7_isVersion (by decide) (by decide) a2 rfl rfl rfl (Nat.le_of_ble_eq_true rfl) (by omega) (by omega) dX7_pop_8 rfl (fun v5 h1 hqv => ?_)
  rw [if_neg hv9x] at hqv; obtain ⟨rfl, rfl⟩ := hqv
  refine v_iconst (pc' := 12) (v := nI 1) F dX7_pop_11 (by decide) rfl ?_
  refine v_callV (pc' := 15) (rt := (some .boolean)) (mcc := 0) (msc := 0) (As := [.int (nI 0), .int (nI 1)]) (st := []) F (fun l => c_X7_right0 G z0 l (th := nI 0) (nI 1) (by decide) a2) gX7_pop_X7_right rfl hv_X7_right (by decide) (by decide) a2 rfl rfl rfl (Nat.le_of_ble_eq_true rfl) (by omega) (by omega) dX7_pop_12 rfl (fun v7 h6 hqr => ?_)
  obtain ⟨rfl, hmR, frR⟩ := hqr
  refine w_if_eq (tgt := 48) (pc' := 18) F (by omega) dX7_pop_15 (by decide) rfl (fun _ => ?_) (fun c0 => absurd c0 (by omega))
  refine v_iconst (pc' := 49) (v := nI 0) F dX7_pop_48 (by decide) rfl ?_
  have fr8 : gfr [m, vals, many, way, told, oth, lst] h h6 := (gfr.t (gfr.mono f3 (by intro q9 z9 m9; apply z9; simp only [List.mem_cons, List.not_mem_nil, or_false] at m9 ⊢; omega)) (gfr.mono frR (by intro q9 z9 m9; apply z9; simp only [List.mem_cons, List.not_mem_nil, or_false] at m9 ⊢; omega)))
  have g9 := frR _ _ (gnc (Ne.symm (g_neA a2 g4)) gn0) g4
  have g10 := f3 _ _ (gnc (Ne.symm (g_neA hm hvals)) gn0) hvals
  have g11 := frR _ _ (gnc (Ne.symm (g_neA a2 g10)) gn0) g10
  have g12 := f3 _ _ (gnc (Ne.symm (g_neA hm hmany)) gn0) hmany
  have g13 := frR _ _ (gnc (Ne.symm (g_neA a2 g12)) gn0) g12
  have g14 := f3 _ _ (gnc (Ne.symm (g_neA hm hway)) gn0) hway
  have g15 := frR _ _ (gnc (Ne.symm (g_neA a2 g14)) gn0) g14
  have g16 := f3 _ _ (gnc (Ne.symm (g_neA hm htold)) gn0) htold
  have g17 := frR _ _ (gnc (Ne.symm (g_neA a2 g16)) gn0) g16
  have g18 := f3 _ _ (gnc (Ne.symm (g_neA hm hoth)) gn0) hoth
  have g19 := frR _ _ (gnc (Ne.symm (g_neA a2 g18)) gn0) g18
  have g20 := f3 _ _ (gnc (Ne.symm (g_neA hm hlst)) gn0) hlst
  have g21 := frR _ _ (gnc (Ne.symm (g_neA a2 g20)) gn0) g20
  exact v_iret F E (by omega) (by omega)  dX7_pop_49 ⟨⟨_, rfl⟩, ⟨_, _, _, _, _, _, hmR, g9, ⟨_, g11⟩, ⟨_, g13⟩, ⟨_, g15⟩, ⟨_, g17⟩, ⟨_, g19⟩, ⟨_, g21⟩, htw, how, hto⟩, fr8⟩
theorem k_X7_drop_7 : gCl wsX7_drop 7 RX7 TX7 26 := ⟨by decide +kernel, rfl⟩
theorem m_X7_drop_f44 : Cond.fieldLink RX7 44 "SteadyQueuesModel" "thrown" "I" ∈ wsX7_drop := by decide +kernel
set_option maxHeartbeats 4000000 in
set_option maxRecDepth 100000 in
theorem o1_X7_drop (G : gG) (z0 : Nat) (l : Launch) {h : gH} {m rows asd vals many way told oth lst text now : Nat} {th und fed len spot fa fat num frm may : Int32} {R : Nat → Int32} {D : Dt} (hMS : mS G h m rows asd vals many way told oth lst text th now und fed len spot fa fat num frm may R) (hnow : now < 9) (w9 : wfD D) (hS : slD R (330 * now) D) (x  : Int32) (hxx : ¬ iR x D.1) : gC G z0 l yX7_drop wsX7_drop 3 66 [.ref m, .int x] h (fun o h' => (∃ y9, o = some (.int y9)) ∧ mS G h' m rows asd vals many way told oth lst text (nI 1) now und fed len spot fa fat num frm may R ∧ gfr [m, vals, many, way, told, oth, lst] h h') 0 0 := by
  have h1n := w9.1
  have hn64 := w9.2.1
  have hMS0 := hMS
  obtain ⟨fl, rl, kd, ok, st, wm, hm, hrows, ⟨V, hvals⟩, ⟨M, hmany⟩, ⟨W, hway⟩, ⟨f, htold⟩, ⟨g, hoth⟩, ⟨ll, hlst⟩, htw, how, hto⟩ := hMS
  refine gC_of (cc := cX7_drop) (nL := 4) (ret := (some .int)) (by decide) rfl (Nat.le_of_ble_eq_true rfl) ?_
  intro X F E _
  change gF G z0 X cX7_drop 4 RX7 wsX7_drop (some .int) "drop" 3 66 _ _ at F
  show gV G z0 X 0 0 h 0 [(0, .ref m), (1, .int x)] []
  refine v_aload_n (pc' := 1) F dX7_drop_0 rfl (j := 0) rfl rfl ?_
  refine v_iconst (pc' := 2) (v := nI 0) F dX7_drop_1 (by decide) rfl ?_
  refine w_putf (pc' := 5) F k_X7_drop_7 tyX7_ok nmX7 hm 0 (by decide) m_X7_drop_f44 rfl  rfl rfl (show 0 < 26 by decide) [.int (nI 0), .ref rows, .ref asd, .int (nI now), .int und, .ref vals, .ref many, .int fl, .int rl, .int kd, .int ok, .int st, .ref way, .int wm, .ref told, .ref oth, .ref lst, .ref text, .int fed, .int len, .int spot, .int fa, .int fat, .int num, .int frm, .int may] rfl dX7_drop_2 rfl (fun h1 a2 f3 => ?_)
  refine v_aload_n (pc' := 6) F dX7_drop_5 rfl (j := 0) rfl rfl ?_
  refine v_aload_n (pc' := 7) F dX7_drop_6 rfl (j := 0) rfl rfl ?_
  refine v_iload_n (pc' := 8) F dX7_drop_7 rfl (j := 1) rfl rfl ?_
  have hv9x : ¬ (nI 0 ≤ x ∧ x ≤ nI (D.1 - 1)) := fun z => hxx ((bR_iff h1n (by omega)).mp z)
  have g4 := f3 _ _ (gnc (Ne.symm (g_neA hm hrows)) gn0) hrows
  refine v_callV (pc' := 11) (rt := (some .boolean)) (mcc := 0) (msc := 0) (As := [.int x]) (st := [.ref m]) F (fun l => c_X7_isVersion G z0 l x a2 g4 hnow hS.1 h1n hn64) gX7_drop_X7_isVersion rfl hv_X7_isVersion (by decide) (by decide) a2 rfl rfl rfl (Nat.le_of_ble_eq_true rfl) (by omega) (by omega) dX7_drop_8 rfl (fun v5 h1 hqv => ?_)
  rw [if_neg hv9x] at hqv; obtain ⟨rfl, rfl⟩ := hqv
  refine v_iconst (pc' := 12) (v := nI 1) F dX7_drop_11 (by decide) rfl ?_
  refine v_callV (pc' := 15) (rt := (some .boolean)) (mcc := 0) (msc := 0) (As := [.int (nI 0), .int (nI 1)]) (st := []) F (fun l => c_X7_right0 G z0 l (th := nI 0) (nI 1) (by decide) a2) gX7_drop_X7_right rfl hv_X7_right (by decide) (by decide) a2 rfl rfl rfl (Nat.le_of_ble_eq_true rfl) (by omega) (by omega) dX7_drop_12 rfl (fun v7 h6 hqr => ?_)
  obtain ⟨rfl, hmR, frR⟩ := hqr
  refine w_if_eq (tgt := 43) (pc' := 18) F (by omega) dX7_drop_15 (by decide) rfl (fun _ => ?_) (fun c0 => absurd c0 (by omega))
  refine v_iconst (pc' := 44) (v := nI 0) F dX7_drop_43 (by decide) rfl ?_
  have fr8 : gfr [m, vals, many, way, told, oth, lst] h h6 := (gfr.t (gfr.mono f3 (by intro q9 z9 m9; apply z9; simp only [List.mem_cons, List.not_mem_nil, or_false] at m9 ⊢; omega)) (gfr.mono frR (by intro q9 z9 m9; apply z9; simp only [List.mem_cons, List.not_mem_nil, or_false] at m9 ⊢; omega)))
  have g9 := frR _ _ (gnc (Ne.symm (g_neA a2 g4)) gn0) g4
  have g10 := f3 _ _ (gnc (Ne.symm (g_neA hm hvals)) gn0) hvals
  have g11 := frR _ _ (gnc (Ne.symm (g_neA a2 g10)) gn0) g10
  have g12 := f3 _ _ (gnc (Ne.symm (g_neA hm hmany)) gn0) hmany
  have g13 := frR _ _ (gnc (Ne.symm (g_neA a2 g12)) gn0) g12
  have g14 := f3 _ _ (gnc (Ne.symm (g_neA hm hway)) gn0) hway
  have g15 := frR _ _ (gnc (Ne.symm (g_neA a2 g14)) gn0) g14
  have g16 := f3 _ _ (gnc (Ne.symm (g_neA hm htold)) gn0) htold
  have g17 := frR _ _ (gnc (Ne.symm (g_neA a2 g16)) gn0) g16
  have g18 := f3 _ _ (gnc (Ne.symm (g_neA hm hoth)) gn0) hoth
  have g19 := frR _ _ (gnc (Ne.symm (g_neA a2 g18)) gn0) g18
  have g20 := f3 _ _ (gnc (Ne.symm (g_neA hm hlst)) gn0) hlst
  have g21 := frR _ _ (gnc (Ne.symm (g_neA a2 g20)) gn0) g20
  exact v_iret F E (by omega) (by omega)  dX7_drop_44 ⟨⟨_, rfl⟩, ⟨_, _, _, _, _, _, hmR, g9, ⟨_, g11⟩, ⟨_, g13⟩, ⟨_, g15⟩, ⟨_, g17⟩, ⟨_, g19⟩, ⟨_, g21⟩, htw, how, hto⟩, fr8⟩
set_option maxHeartbeats 4000000 in
set_option maxRecDepth 100000 in
theorem o2_X7_version (G : gG) (z0 : Nat) (l : Launch) {h : gH} {m rows asd vals many way told oth lst text now : Nat} {th und fed len spot fa fat num frm may : Int32} {R : Nat → Int32} {D : Dt} {j : Nat} (hMS : mS G h m rows asd vals many way told oth lst text th now und fed len spot fa fat num frm may R) (hnow : now < 9) (w9 : wfD D) (hS : slD R (330 * now) D) (y : Int32) (hj : j < D.1) (hxy : ¬ iR y 11) : gC G z0 l yX7_version wsX7_version 6 130 [.ref m, .int (nI j), .int y] h (fun o h' => (∃ y9, o = some (.int y9)) ∧ mS G h' m rows asd vals many way told oth lst text (nI 2) now und fed len spot fa fat num frm may R ∧ gfr [m, vals, many, way, told, oth, lst] h h') 0 0 := by
  have h1n := w9.1
  have hn64 := w9.2.1
  have hMS0 := hMS
  obtain ⟨fl, rl, kd, ok, st, wm, hm, hrows, ⟨V, hvals⟩, ⟨M, hmany⟩, ⟨W, hway⟩, ⟨f, htold⟩, ⟨g, hoth⟩, ⟨ll, hlst⟩, htw, how, hto⟩ := hMS
  refine gC_of (cc := cX7_version) (nL := 3) (ret := (some .int)) (by decide) rfl (Nat.le_of_ble_eq_true rfl) ?_
  intro X F E _
  change gF G z0 X cX7_version 3 RX7 wsX7_version (some .int) "version" 6 130 _ _ at F
  show gV G z0 X 0 0 h 0 [(0, .ref m), (1, .int (nI j)), (2, .int y)] []
  refine v_aload_n (pc' := 1) F dX7_version_0 rfl (j := 0) rfl rfl ?_
  refine v_iconst (pc' := 2) (v := nI 0) F dX7_version_1 (by decide) rfl ?_
  refine w_putf (pc' := 5) F k_X7_version_7 tyX7_ok nmX7 hm 0 (by decide) m_X7_version_f44 rfl  rfl rfl (show 0 < 26 by decide) [.int (nI 0), .ref rows, .ref asd, .int (nI now), .int und, .ref vals, .ref many, .int fl, .int rl, .int kd, .int ok, .int st, .ref way, .int wm, .ref told, .ref oth, .ref lst, .ref text, .int fed, .int len, .int spot, .int fa, .int fat, .int num, .int frm, .int may] rfl dX7_version_2 rfl (fun h1 a2 f3 => ?_)
  refine v_aload_n (pc' := 6) F dX7_version_5 rfl (j := 0) rfl rfl ?_
  refine v_aload_n (pc' := 7) F dX7_version_6 rfl (j := 0) rfl rfl ?_
  refine v_iload_n (pc' := 8) F dX7_version_7 rfl (j := 1) rfl rfl ?_
  have hv9j : nI 0 ≤ nI j ∧ nI j ≤ nI (D.1 - 1) := (bR_iff h1n (by omega)).mpr ⟨j, hj, rfl⟩
  have g4 := f3 _ _ (gnc (Ne.symm (g_neA hm hrows)) gn0) hrows
  refine v_callV (pc' := 11) (rt := (some .boolean)) (mcc := 0) (msc := 0) (As := [.int (nI j)]) (st := [.ref m]) F (fun l => c_X7_isVersion G z0 l (nI j) a2 g4 hnow hS.1 h1n hn64) gX7_version_X7_isVersion rfl hv_X7_isVersion (by decide) (by decide) a2 rfl rfl rfl (Nat.le_of_ble_eq_true rfl) (by omega) (by omega) dX7_version_8 rfl (fun v5 h1 hqv => ?_)
  rw [if_pos hv9j] at hqv; obtain ⟨rfl, rfl⟩ := hqv
  refine v_iconst (pc' := 12) (v := nI 1) F dX7_version_11 (by decide) rfl ?_
  refine v_callV (pc' := 15) (rt := (some .boolean)) (mcc := 0) (msc := 0) (As := [.int (nI 1), .int (nI 1)]) (st := []) F (fun l => c_X7_right1 G z0 l (th := nI 0) (nI 1) (by decide) a2) gX7_version_X7_right rfl hv_X7_right (by decide) (by decide) a2 rfl rfl rfl (Nat.le_of_ble_eq_true rfl) (by omega) (by omega) dX7_version_12 rfl (fun v6 h1 hqr => ?_)
  obtain ⟨rfl, rfl⟩ := hqr
  refine w_if_eq (tgt := 42) (pc' := 18) F (by omega) dX7_version_15 (by decide) rfl (fun c0 => absurd c0 (by omega)) (fun _ => ?_)
  refine v_aload_n (pc' := 19) F dX7_version_18 rfl (j := 0) rfl rfl ?_
  refine v_iload_n (pc' := 20) F dX7_version_19 rfl (j := 2) rfl rfl ?_
  refine v_iconst (pc' := 21) (v := nI 0) F dX7_version_20 (by decide) rfl ?_
  refine v_bipush (pc' := 23) (v := nI 10) F dX7_version_21 (by decide) rfl ?_
  have hi9y : ¬ (nI 0 ≤ y ∧ y ≤ nI 10) := fun z => hxy ((bR_iff (n := 11) (by omega) (by omega)).mp z)
  refine v_callS (pc' := 26) (rt := (some .boolean)) (mcc := 0) (msc := 0) (As := [.int y, .int (nI 0), .int (nI 10)]) (st := [.ref m]) F (fun l => c_X7_isIn G z0 l y (nI 0) (nI 10)) gX7_version_X7_isIn rfl hd_X7_isIn (by decide) (by decide) rfl rfl (Nat.le_of_ble_eq_true rfl) (by omega) (by omega) dX7_version_23 rfl (fun v7 h1 hqi => ?_)
  rw [if_neg hi9y] at hqi; obtain ⟨rfl, rfl⟩ := hqi
  refine v_iconst (pc' := 27) (v := nI 2) F dX7_version_26 (by decide) rfl ?_
  refine v_callV (pc' := 30) (rt := (some .boolean)) (mcc := 0) (msc := 0) (As := [.int (nI 0), .int (nI 2)]) (st := []) F (fun l => c_X7_right0 G z0 l (th := nI 0) (nI 2) (by decide) a2) gX7_version_X7_right rfl hv_X7_right (by decide) (by decide) a2 rfl rfl rfl (Nat.le_of_ble_eq_true rfl) (by omega) (by omega) dX7_version_27 rfl (fun v9 h8 hqr => ?_)
  obtain ⟨rfl, hmR, frR⟩ := hqr
  refine w_if_eq (tgt := 42) (pc' := 33) F (by omega) dX7_version_30 (by decide) rfl (fun _ => ?_) (fun c0 => absurd c0 (by omega))
  refine v_iconst (pc' := 43) (v := nI 0) F dX7_version_42 (by decide) rfl ?_
  have fr10 : gfr [m, vals, many, way, told, oth, lst] h h8 := (gfr.t (gfr.mono f3 (by intro q9 z9 m9; apply z9; simp only [List.mem_cons, List.not_mem_nil, or_false] at m9 ⊢; omega)) (gfr.mono frR (by intro q9 z9 m9; apply z9; simp only [List.mem_cons, List.not_mem_nil, or_false] at m9 ⊢; omega)))
  have g11 := frR _ _ (gnc (Ne.symm (g_neA a2 g4)) gn0) g4
  have g12 := f3 _ _ (gnc (Ne.symm (g_neA hm hvals)) gn0) hvals
  have g13 := frR _ _ (gnc (Ne.symm (g_neA a2 g12)) gn0) g12
  have g14 := f3 _ _ (gnc (Ne.symm (g_neA hm hmany)) gn0) hmany
  have g15 := frR _ _ (gnc (Ne.symm (g_neA a2 g14)) gn0) g14
  have g16 := f3 _ _ (gnc (Ne.symm (g_neA hm hway)) gn0) hway
  have g17 := frR _ _ (gnc (Ne.symm (g_neA a2 g16)) gn0) g16
  have g18 := f3 _ _ (gnc (Ne.symm (g_neA hm htold)) gn0) htold
  have g19 := frR _ _ (gnc (Ne.symm (g_neA a2 g18)) gn0) g18
  have g20 := f3 _ _ (gnc (Ne.symm (g_neA hm hoth)) gn0) hoth
  have g21 := frR _ _ (gnc (Ne.symm (g_neA a2 g20)) gn0) g20
  have g22 := f3 _ _ (gnc (Ne.symm (g_neA hm hlst)) gn0) hlst
  have g23 := frR _ _ (gnc (Ne.symm (g_neA a2 g22)) gn0) g22
  exact v_iret F E (by omega) (by omega)  dX7_version_43 ⟨⟨_, rfl⟩, ⟨_, _, _, _, _, _, hmR, g11, ⟨_, g13⟩, ⟨_, g15⟩, ⟨_, g17⟩, ⟨_, g19⟩, ⟨_, g21⟩, ⟨_, g23⟩, htw, how, hto⟩, fr10⟩
set_option maxHeartbeats 4000000 in
set_option maxRecDepth 100000 in
theorem o2_X7_value (G : gG) (z0 : Nat) (l : Launch) {h : gH} {m rows asd vals many way told oth lst text now : Nat} {th und fed len spot fa fat num frm may : Int32} {R : Nat → Int32} {D : Dt} {j : Nat} (hMS : mS G h m rows asd vals many way told oth lst text th now und fed len spot fa fat num frm may R) (hnow : now < 9) (w9 : wfD D) (hS : slD R (330 * now) D) (y pl : Int32) (hj : j < D.1) (hxy : ¬ iR y 7) : gC G z0 l yX7_value wsX7_value 6 135 [.ref m, .int (nI j), .int y, .int pl] h (fun o h' => (∃ y9, o = some (.int y9)) ∧ mS G h' m rows asd vals many way told oth lst text (nI 2) now und fed len spot fa fat num frm may R ∧ gfr [m, vals, many, way, told, oth, lst] h h') 0 0 := by
  have h1n := w9.1
  have hn64 := w9.2.1
  have hMS0 := hMS
  obtain ⟨fl, rl, kd, ok, st, wm, hm, hrows, ⟨V, hvals⟩, ⟨M, hmany⟩, ⟨W, hway⟩, ⟨f, htold⟩, ⟨g, hoth⟩, ⟨ll, hlst⟩, htw, how, hto⟩ := hMS
  refine gC_of (cc := cX7_value) (nL := 4) (ret := (some .int)) (by decide) rfl (Nat.le_of_ble_eq_true rfl) ?_
  intro X F E _
  change gF G z0 X cX7_value 4 RX7 wsX7_value (some .int) "value" 6 135 _ _ at F
  show gV G z0 X 0 0 h 0 [(0, .ref m), (1, .int (nI j)), (2, .int y), (3, .int pl)] []
  refine v_aload_n (pc' := 1) F dX7_value_0 rfl (j := 0) rfl rfl ?_
  refine v_iconst (pc' := 2) (v := nI 0) F dX7_value_1 (by decide) rfl ?_
  refine w_putf (pc' := 5) F k_X7_value_7 tyX7_ok nmX7 hm 0 (by decide) m_X7_value_f44 rfl  rfl rfl (show 0 < 26 by decide) [.int (nI 0), .ref rows, .ref asd, .int (nI now), .int und, .ref vals, .ref many, .int fl, .int rl, .int kd, .int ok, .int st, .ref way, .int wm, .ref told, .ref oth, .ref lst, .ref text, .int fed, .int len, .int spot, .int fa, .int fat, .int num, .int frm, .int may] rfl dX7_value_2 rfl (fun h1 a2 f3 => ?_)
  refine v_aload_n (pc' := 6) F dX7_value_5 rfl (j := 0) rfl rfl ?_
  refine v_aload_n (pc' := 7) F dX7_value_6 rfl (j := 0) rfl rfl ?_
  refine v_iload_n (pc' := 8) F dX7_value_7 rfl (j := 1) rfl rfl ?_
  have hv9j : nI 0 ≤ nI j ∧ nI j ≤ nI (D.1 - 1) := (bR_iff h1n (by omega)).mpr ⟨j, hj, rfl⟩
  have g4 := f3 _ _ (gnc (Ne.symm (g_neA hm hrows)) gn0) hrows
  refine v_callV (pc' := 11) (rt := (some .boolean)) (mcc := 0) (msc := 0) (As := [.int (nI j)]) (st := [.ref m]) F (fun l => c_X7_isVersion G z0 l (nI j) a2 g4 hnow hS.1 h1n hn64) gX7_value_X7_isVersion rfl hv_X7_isVersion (by decide) (by decide) a2 rfl rfl rfl (Nat.le_of_ble_eq_true rfl) (by omega) (by omega) dX7_value_8 rfl (fun v5 h1 hqv => ?_)
  rw [if_pos hv9j] at hqv; obtain ⟨rfl, rfl⟩ := hqv
  refine v_iconst (pc' := 12) (v := nI 1) F dX7_value_11 (by decide) rfl ?_
  refine v_callV (pc' := 15) (rt := (some .boolean)) (mcc := 0) (msc := 0) (As := [.int (nI 1), .int (nI 1)]) (st := []) F (fun l => c_X7_right1 G z0 l (th := nI 0) (nI 1) (by decide) a2) gX7_value_X7_right rfl hv_X7_right (by decide) (by decide) a2 rfl rfl rfl (Nat.le_of_ble_eq_true rfl) (by omega) (by omega) dX7_value_12 rfl (fun v6 h1 hqr => ?_)
  obtain ⟨rfl, rfl⟩ := hqr
  refine w_if_eq (tgt := 43) (pc' := 18) F (by omega) dX7_value_15 (by decide) rfl (fun c0 => absurd c0 (by omega)) (fun _ => ?_)
  refine v_aload_n (pc' := 19) F dX7_value_18 rfl (j := 0) rfl rfl ?_
  refine v_iload_n (pc' := 20) F dX7_value_19 rfl (j := 2) rfl rfl ?_
  refine v_iconst (pc' := 21) (v := nI 0) F dX7_value_20 (by decide) rfl ?_
  refine v_bipush (pc' := 23) (v := nI 6) F dX7_value_21 (by decide) rfl ?_
  have hi9y : ¬ (nI 0 ≤ y ∧ y ≤ nI 6) := fun z => hxy ((bR_iff (n := 7) (by omega) (by omega)).mp z)
  refine v_callS (pc' := 26) (rt := (some .boolean)) (mcc := 0) (msc := 0) (As := [.int y, .int (nI 0), .int (nI 6)]) (st := [.ref m]) F (fun l => c_X7_isIn G z0 l y (nI 0) (nI 6)) gX7_value_X7_isIn rfl hd_X7_isIn (by decide) (by decide) rfl rfl (Nat.le_of_ble_eq_true rfl) (by omega) (by omega) dX7_value_23 rfl (fun v7 h1 hqi => ?_)
  rw [if_neg hi9y] at hqi; obtain ⟨rfl, rfl⟩ := hqi
  refine v_iconst (pc' := 27) (v := nI 2) F dX7_value_26 (by decide) rfl ?_
  refine v_callV (pc' := 30) (rt := (some .boolean)) (mcc := 0) (msc := 0) (As := [.int (nI 0), .int (nI 2)]) (st := []) F (fun l => c_X7_right0 G z0 l (th := nI 0) (nI 2) (by decide) a2) gX7_value_X7_right rfl hv_X7_right (by decide) (by decide) a2 rfl rfl rfl (Nat.le_of_ble_eq_true rfl) (by omega) (by omega) dX7_value_27 rfl (fun v9 h8 hqr => ?_)
  obtain ⟨rfl, hmR, frR⟩ := hqr
  refine w_if_eq (tgt := 43) (pc' := 33) F (by omega) dX7_value_30 (by decide) rfl (fun _ => ?_) (fun c0 => absurd c0 (by omega))
  refine v_iconst (pc' := 44) (v := nI 0) F dX7_value_43 (by decide) rfl ?_
  have fr10 : gfr [m, vals, many, way, told, oth, lst] h h8 := (gfr.t (gfr.mono f3 (by intro q9 z9 m9; apply z9; simp only [List.mem_cons, List.not_mem_nil, or_false] at m9 ⊢; omega)) (gfr.mono frR (by intro q9 z9 m9; apply z9; simp only [List.mem_cons, List.not_mem_nil, or_false] at m9 ⊢; omega)))
  have g11 := frR _ _ (gnc (Ne.symm (g_neA a2 g4)) gn0) g4
  have g12 := f3 _ _ (gnc (Ne.symm (g_neA hm hvals)) gn0) hvals
  have g13 := frR _ _ (gnc (Ne.symm (g_neA a2 g12)) gn0) g12
  have g14 := f3 _ _ (gnc (Ne.symm (g_neA hm hmany)) gn0) hmany
  have g15 := frR _ _ (gnc (Ne.symm (g_neA a2 g14)) gn0) g14
  have g16 := f3 _ _ (gnc (Ne.symm (g_neA hm hway)) gn0) hway
  have g17 := frR _ _ (gnc (Ne.symm (g_neA a2 g16)) gn0) g16
  have g18 := f3 _ _ (gnc (Ne.symm (g_neA hm htold)) gn0) htold
  have g19 := frR _ _ (gnc (Ne.symm (g_neA a2 g18)) gn0) g18
  have g20 := f3 _ _ (gnc (Ne.symm (g_neA hm hoth)) gn0) hoth
  have g21 := frR _ _ (gnc (Ne.symm (g_neA a2 g20)) gn0) g20
  have g22 := f3 _ _ (gnc (Ne.symm (g_neA hm hlst)) gn0) hlst
  have g23 := frR _ _ (gnc (Ne.symm (g_neA a2 g22)) gn0) g22
  exact v_iret F E (by omega) (by omega)  dX7_value_44 ⟨⟨_, rfl⟩, ⟨_, _, _, _, _, _, hmR, g11, ⟨_, g13⟩, ⟨_, g15⟩, ⟨_, g17⟩, ⟨_, g19⟩, ⟨_, g21⟩, ⟨_, g23⟩, htw, how, hto⟩, fr10⟩
set_option maxHeartbeats 4000000 in
set_option maxRecDepth 100000 in
theorem o2_X7_work (G : gG) (z0 : Nat) (l : Launch) {h : gH} {m rows asd vals many way told oth lst text now : Nat} {th und fed len spot fa fat num frm may : Int32} {R : Nat → Int32} {D : Dt} {j : Nat} (hMS : mS G h m rows asd vals many way told oth lst text th now und fed len spot fa fat num frm may R) (hnow : now < 9) (w9 : wfD D) (hS : slD R (330 * now) D) (y : Int32) (hj : j < D.1) (hxy : ¬ iR y 4) : gC G z0 l yX7_work wsX7_work 3 70 [.ref m, .int (nI j), .int y] h (fun o h' => (∃ y9, o = some (.int y9)) ∧ mS G h' m rows asd vals many way told oth lst text (nI 2) now und fed len spot fa fat num frm may R ∧ gfr [m, vals, many, way, told, oth, lst] h h') 0 0 := by
  have h1n := w9.1
  have hn64 := w9.2.1
  have hMS0 := hMS
  obtain ⟨fl, rl, kd, ok, st, wm, hm, hrows, ⟨V, hvals⟩, ⟨M, hmany⟩, ⟨W, hway⟩, ⟨f, htold⟩, ⟨g, hoth⟩, ⟨ll, hlst⟩, htw, how, hto⟩ := hMS
  refine gC_of (cc := cX7_work) (nL := 5) (ret := (some .int)) (by decide) rfl (Nat.le_of_ble_eq_true rfl) ?_
  intro X F E _
  change gF G z0 X cX7_work 5 RX7 wsX7_work (some .int) "work" 3 70 _ _ at F
  show gV G z0 X 0 0 h 0 [(0, .ref m), (1, .int (nI j)), (2, .int y)] []
  refine v_aload_n (pc' := 1) F dX7_work_0 rfl (j := 0) rfl rfl ?_
  refine v_iconst (pc' := 2) (v := nI 0) F dX7_work_1 (by decide) rfl ?_
  refine w_putf (pc' := 5) F k_X7_work_7 tyX7_ok nmX7 hm 0 (by decide) m_X7_work_f44 rfl  rfl rfl (show 0 < 26 by decide) [.int (nI 0), .ref rows, .ref asd, .int (nI now), .int und, .ref vals, .ref many, .int fl, .int rl, .int kd, .int ok, .int st, .ref way, .int wm, .ref told, .ref oth, .ref lst, .ref text, .int fed, .int len, .int spot, .int fa, .int fat, .int num, .int frm, .int may] rfl dX7_work_2 rfl (fun h1 a2 f3 => ?_)
  refine v_aload_n (pc' := 6) F dX7_work_5 rfl (j := 0) rfl rfl ?_
  refine v_aload_n (pc' := 7) F dX7_work_6 rfl (j := 0) rfl rfl ?_
  refine v_iload_n (pc' := 8) F dX7_work_7 rfl (j := 1) rfl rfl ?_
  have hv9j : nI 0 ≤ nI j ∧ nI j ≤ nI (D.1 - 1) := (bR_iff h1n (by omega)).mpr ⟨j, hj, rfl⟩
  have g4 := f3 _ _ (gnc (Ne.symm (g_neA hm hrows)) gn0) hrows
  refine v_callV (pc' := 11) (rt := (some .boolean)) (mcc := 0) (msc := 0) (As := [.int (nI j)]) (st := [.ref m]) F (fun l => c_X7_isVersion G z0 l (nI j) a2 g4 hnow hS.1 h1n hn64) gX7_work_X7_isVersion rfl hv_X7_isVersion (by decide) (by decide) a2 rfl rfl rfl (Nat.le_of_ble_eq_true rfl) (by omega) (by omega) dX7_work_8 rfl (fun v5 h1 hqv => ?_)
  rw [if_pos hv9j] at hqv; obtain ⟨rfl, rfl⟩ := hqv
  refine v_iconst (pc' := 12) (v := nI 1) F dX7_work_11 (by decide) rfl ?_
  refine v_callV (pc' := 15) (rt := (some .boolean)) (mcc := 0) (msc := 0) (As := [.int (nI 1), .int (nI 1)]) (st := []) F (fun l => c_X7_right1 G z0 l (th := nI 0) (nI 1) (by decide) a2) gX7_work_X7_right rfl hv_X7_right (by decide) (by decide) a2 rfl rfl rfl (Nat.le_of_ble_eq_true rfl) (by omega) (by omega) dX7_work_12 rfl (fun v6 h1 hqr => ?_)
  obtain ⟨rfl, rfl⟩ := hqr
  refine w_if_eq (tgt := 32) (pc' := 18) F (by omega) dX7_work_15 (by decide) rfl (fun c0 => absurd c0 (by omega)) (fun _ => ?_)
  refine v_aload_n (pc' := 19) F dX7_work_18 rfl (j := 0) rfl rfl ?_
  refine v_iload_n (pc' := 20) F dX7_work_19 rfl (j := 2) rfl rfl ?_
  refine v_iconst (pc' := 21) (v := nI 0) F dX7_work_20 (by decide) rfl ?_
  refine v_iconst (pc' := 22) (v := nI 3) F dX7_work_21 (by decide) rfl ?_
  have hi9y : ¬ (nI 0 ≤ y ∧ y ≤ nI 3) := fun z => hxy ((bR_iff (n := 4) (by omega) (by omega)).mp z)
  refine v_callS (pc' := 25) (rt := (some .boolean)) (mcc := 0) (msc := 0) (As := [.int y, .int (nI 0), .int (nI 3)]) (st := [.ref m]) F (fun l => c_X7_isIn G z0 l y (nI 0) (nI 3)) gX7_work_X7_isIn rfl hd_X7_isIn (by decide) (by decide) rfl rfl (Nat.le_of_ble_eq_true rfl) (by omega) (by omega) dX7_work_22 rfl (fun v7 h1 hqi => ?_)
  rw [if_neg hi9y] at hqi; obtain ⟨rfl, rfl⟩ := hqi
  refine v_iconst (pc' := 26) (v := nI 2) F dX7_work_25 (by decide) rfl ?_
  refine v_callV (pc' := 29) (rt := (some .boolean)) (mcc := 0) (msc := 0) (As := [.int (nI 0), .int (nI 2)]) (st := []) F (fun l => c_X7_right0 G z0 l (th := nI 0) (nI 2) (by decide) a2) gX7_work_X7_right rfl hv_X7_right (by decide) (by decide) a2 rfl rfl rfl (Nat.le_of_ble_eq_true rfl) (by omega) (by omega) dX7_work_26 rfl (fun v9 h8 hqr => ?_)
  obtain ⟨rfl, hmR, frR⟩ := hqr
  refine w_if_ne (tgt := 34) (pc' := 32) F (by omega) dX7_work_29 (by decide) rfl (fun c0 => absurd c0 (by omega)) (fun _ => ?_)
  refine v_iconst (pc' := 33) (v := nI 0) F dX7_work_32 (by decide) rfl ?_
  have fr10 : gfr [m, vals, many, way, told, oth, lst] h h8 := (gfr.t (gfr.mono f3 (by intro q9 z9 m9; apply z9; simp only [List.mem_cons, List.not_mem_nil, or_false] at m9 ⊢; omega)) (gfr.mono frR (by intro q9 z9 m9; apply z9; simp only [List.mem_cons, List.not_mem_nil, or_false] at m9 ⊢; omega)))
  have g11 := frR _ _ (gnc (Ne.symm (g_neA a2 g4)) gn0) g4
  have g12 := f3 _ _ (gnc (Ne.symm (g_neA hm hvals)) gn0) hvals
  have g13 := frR _ _ (gnc (Ne.symm (g_neA a2 g12)) gn0) g12
  have g14 := f3 _ _ (gnc (Ne.symm (g_neA hm hmany)) gn0) hmany
  have g15 := frR _ _ (gnc (Ne.symm (g_neA a2 g14)) gn0) g14
  have g16 := f3 _ _ (gnc (Ne.symm (g_neA hm hway)) gn0) hway
  have g17 := frR _ _ (gnc (Ne.symm (g_neA a2 g16)) gn0) g16
  have g18 := f3 _ _ (gnc (Ne.symm (g_neA hm htold)) gn0) htold
  have g19 := frR _ _ (gnc (Ne.symm (g_neA a2 g18)) gn0) g18
  have g20 := f3 _ _ (gnc (Ne.symm (g_neA hm hoth)) gn0) hoth
  have g21 := frR _ _ (gnc (Ne.symm (g_neA a2 g20)) gn0) g20
  have g22 := f3 _ _ (gnc (Ne.symm (g_neA hm hlst)) gn0) hlst
  have g23 := frR _ _ (gnc (Ne.symm (g_neA a2 g22)) gn0) g22
  exact v_iret F E (by omega) (by omega)  dX7_work_33 ⟨⟨_, rfl⟩, ⟨_, _, _, _, _, _, hmR, g11, ⟨_, g13⟩, ⟨_, g15⟩, ⟨_, g17⟩, ⟨_, g19⟩, ⟨_, g21⟩, ⟨_, g23⟩, htw, how, hto⟩, fr10⟩
set_option maxHeartbeats 4000000 in
set_option maxRecDepth 100000 in
theorem o2_X7_push (G : gG) (z0 : Nat) (l : Launch) {h : gH} {m rows asd vals many way told oth lst text now : Nat} {th und fed len spot fa fat num frm may : Int32} {R : Nat → Int32} {D : Dt} {j : Nat} (hMS : mS G h m rows asd vals many way told oth lst text th now und fed len spot fa fat num frm may R) (hnow : now < 9) (w9 : wfD D) (hS : slD R (330 * now) D) (y : Int32) (hj : j < D.1) (hxy : ¬ iR y 100) : gC G z0 l yX7_push wsX7_push 6 131 [.ref m, .int (nI j), .int y] h (fun o h' => (∃ y9, o = some (.int y9)) ∧ mS G h' m rows asd vals many way told oth lst text (nI 2) now und fed len spot fa fat num frm may R ∧ gfr [m, vals, many, way, told, oth, lst] h h') 0 0 := by
  have h1n := w9.1
  have hn64 := w9.2.1
  have hMS0 := hMS
  obtain ⟨fl, rl, kd, ok, st, wm, hm, hrows, ⟨V, hvals⟩, ⟨M, hmany⟩, ⟨W, hway⟩, ⟨f, htold⟩, ⟨g, hoth⟩, ⟨ll, hlst⟩, htw, how, hto⟩ := hMS
  refine gC_of (cc := cX7_push) (nL := 3) (ret := (some .int)) (by decide) rfl (Nat.le_of_ble_eq_true rfl) ?_
  intro X F E _
  change gF G z0 X cX7_push 3 RX7 wsX7_push (some .int) "push" 6 131 _ _ at F
  show gV G z0 X 0 0 h 0 [(0, .ref m), (1, .int (nI j)), (2, .int y)] []
  refine v_aload_n (pc' := 1) F dX7_push_0 rfl (j := 0) rfl rfl ?_
  refine v_iconst (pc' := 2) (v := nI 0) F dX7_push_1 (by decide) rfl ?_
  refine w_putf (pc' := 5) F k_X7_push_7 tyX7_ok nmX7 hm 0 (by decide) m_X7_push_f44 rfl  rfl rfl (show 0 < 26 by decide) [.int (nI 0), .ref rows, .ref asd, .int (nI now), .int und, .ref vals, .ref many, .int fl, .int rl, .int kd, .int ok, .int st, .ref way, .int wm, .ref told, .ref oth, .ref lst, .ref text, .int fed, .int len, .int spot, .int fa, .int fat, .int num, .int frm, .int may] rfl dX7_push_2 rfl (fun h1 a2 f3 => ?_)
  refine v_aload_n (pc' := 6) F dX7_push_5 rfl (j := 0) rfl rfl ?_
  refine v_aload_n (pc' := 7) F dX7_push_6 rfl (j := 0) rfl rfl ?_
  refine v_iload_n (pc' := 8) F dX7_push_7 rfl (j := 1) rfl rfl ?_
  have hv9j : nI 0 ≤ nI j ∧ nI j ≤ nI (D.1 - 1) := (bR_iff h1n (by omega)).mpr ⟨j, hj, rfl⟩
  have g4 := f3 _ _ (gnc (Ne.symm (g_neA hm hrows)) gn0) hrows
  refine v_callV (pc' := 11) (rt := (some .boolean)) (mcc := 0) (msc := 0) (As := [.int (nI j)]) (st := [.ref m]) F (fun l => c_X7_isVersion G z0 l (nI j) a2 g4 hnow hS.1 h1n hn64) gX7_push_X7_isVersion rfl hv_X7_isVersion (by decide) (by decide) a2 rfl rfl rfl (Nat.le_of_ble_eq_true rfl) (by omega) (by omega) dX7_push_8 rfl (fun v5 h1 hqv => ?_)
  rw [if_pos hv9j] at hqv; obtain ⟨rfl, rfl⟩ := hqv
  refine v_iconst (pc' := 12) (v := nI 1) F dX7_push_11 (by decide) rfl ?_
  refine v_callV (pc' := 15) (rt := (some .boolean)) (mcc := 0) (msc := 0) (As := [.int (nI 1), .int (nI 1)]) (st := []) F (fun l => c_X7_right1 G z0 l (th := nI 0) (nI 1) (by decide) a2) gX7_push_X7_right rfl hv_X7_right (by decide) (by decide) a2 rfl rfl rfl (Nat.le_of_ble_eq_true rfl) (by omega) (by omega) dX7_push_12 rfl (fun v6 h1 hqr => ?_)
  obtain ⟨rfl, rfl⟩ := hqr
  refine w_if_eq (tgt := 55) (pc' := 18) F (by omega) dX7_push_15 (by decide) rfl (fun c0 => absurd c0 (by omega)) (fun _ => ?_)
  refine v_aload_n (pc' := 19) F dX7_push_18 rfl (j := 0) rfl rfl ?_
  refine v_iload_n (pc' := 20) F dX7_push_19 rfl (j := 2) rfl rfl ?_
  refine v_iconst (pc' := 21) (v := nI 0) F dX7_push_20 (by decide) rfl ?_
  refine v_bipush (pc' := 23) (v := nI 99) F dX7_push_21 (by decide) rfl ?_
  have hi9y : ¬ (nI 0 ≤ y ∧ y ≤ nI 99) := fun z => hxy ((bR_iff (n := 100) (by omega) (by omega)).mp z)
  refine v_callS (pc' := 26) (rt := (some .boolean)) (mcc := 0) (msc := 0) (As := [.int y, .int (nI 0), .int (nI 99)]) (st := [.ref m]) F (fun l => c_X7_isIn G z0 l y (nI 0) (nI 99)) gX7_push_X7_isIn rfl hd_X7_isIn (by decide) (by decide) rfl rfl (Nat.le_of_ble_eq_true rfl) (by omega) (by omega) dX7_push_23 rfl (fun v7 h1 hqi => ?_)
  rw [if_neg hi9y] at hqi; obtain ⟨rfl, rfl⟩ := hqi
  refine v_iconst (pc' := 27) (v := nI 2) F dX7_push_26 (by decide) rfl ?_
  refine v_callV (pc' := 30) (rt := (some .boolean)) (mcc := 0) (msc := 0) (As := [.int (nI 0), .int (nI 2)]) (st := []) F (fun l => c_X7_right0 G z0 l (th := nI 0) (nI 2) (by decide) a2) gX7_push_X7_right rfl hv_X7_right (by decide) (by decide) a2 rfl rfl rfl (Nat.le_of_ble_eq_true rfl) (by omega) (by omega) dX7_push_27 rfl (fun v9 h8 hqr => ?_)
  obtain ⟨rfl, hmR, frR⟩ := hqr
  refine w_if_eq (tgt := 55) (pc' := 33) F (by omega) dX7_push_30 (by decide) rfl (fun _ => ?_) (fun c0 => absurd c0 (by omega))
  refine v_iconst (pc' := 56) (v := nI 0) F dX7_push_55 (by decide) rfl ?_
  have fr10 : gfr [m, vals, many, way, told, oth, lst] h h8 := (gfr.t (gfr.mono f3 (by intro q9 z9 m9; apply z9; simp only [List.mem_cons, List.not_mem_nil, or_false] at m9 ⊢; omega)) (gfr.mono frR (by intro q9 z9 m9; apply z9; simp only [List.mem_cons, List.not_mem_nil, or_false] at m9 ⊢; omega)))
  have g11 := frR _ _ (gnc (Ne.symm (g_neA a2 g4)) gn0) g4
  have g12 := f3 _ _ (gnc (Ne.symm (g_neA hm hvals)) gn0) hvals
  have g13 := frR _ _ (gnc (Ne.symm (g_neA a2 g12)) gn0) g12
  have g14 := f3 _ _ (gnc (Ne.symm (g_neA hm hmany)) gn0) hmany
  have g15 := frR _ _ (gnc (Ne.symm (g_neA a2 g14)) gn0) g14
  have g16 := f3 _ _ (gnc (Ne.symm (g_neA hm hway)) gn0) hway
  have g17 := frR _ _ (gnc (Ne.symm (g_neA a2 g16)) gn0) g16
  have g18 := f3 _ _ (gnc (Ne.symm (g_neA hm htold)) gn0) htold
  have g19 := frR _ _ (gnc (Ne.symm (g_neA a2 g18)) gn0) g18
  have g20 := f3 _ _ (gnc (Ne.symm (g_neA hm hoth)) gn0) hoth
  have g21 := frR _ _ (gnc (Ne.symm (g_neA a2 g20)) gn0) g20
  have g22 := f3 _ _ (gnc (Ne.symm (g_neA hm hlst)) gn0) hlst
  have g23 := frR _ _ (gnc (Ne.symm (g_neA a2 g22)) gn0) g22
  exact v_iret F E (by omega) (by omega)  dX7_push_56 ⟨⟨_, rfl⟩, ⟨_, _, _, _, _, _, hmR, g11, ⟨_, g13⟩, ⟨_, g15⟩, ⟨_, g17⟩, ⟨_, g19⟩, ⟨_, g21⟩, ⟨_, g23⟩, htw, how, hto⟩, fr10⟩
theorem hv_X7_valueOf : yX7_valueOf.cls = RX7 ∧ yX7_valueOf.cls ≠ "java/lang/invoke/MethodHandle" ∧ yX7_valueOf.cls ≠ "java/lang/invoke/VarHandle" ∧ (parseMethodDescriptor yX7_valueOf.desc).map (fun d => d.parameters.length) = some 3 := by decide +kernel
set_option maxHeartbeats 4000000 in
set_option maxRecDepth 100000 in
theorem c0_X7_value (G : gG) (z0 : Nat) (l : Launch) {h : gH} {m rows asd vals many way told oth lst text now : Nat} {th und fed len spot fa fat num frm may : Int32} {R : Nat → Int32} {D : Dt} {j : Nat} (pl : Int32) (hMS : mS G h m rows asd vals many way told oth lst text th now und fed len spot fa fat num frm may R) (hnow : now < 9) (w9 : wfD D) (hS : slD R (330 * now) D) (hj : j < D.1) : gC G z0 l yX7_value wsX7_value 6 135 [.ref m, .int (nI j), .int (nI 0), .int pl] h (fun o h' => o = some (.int (vAt pl (wVals (D.2.2.2.2 j)) 0)) ∧ mS G h' m rows asd vals many way told oth lst text (nI 0) now und fed len spot fa fat num frm may R ∧ gfr [m, vals, many, way, told, oth, lst] h h') 0 0 := by
  have h1n := w9.1
  have hn64 := w9.2.1
  have hMS0 := hMS
  obtain ⟨fl, rl, kd, ok, st, wm, hm, hrows, ⟨V, hvals⟩, ⟨M, hmany⟩, ⟨W, hway⟩, ⟨f, htold⟩, ⟨g, hoth⟩, ⟨ll, hlst⟩, htw, how, hto⟩ := hMS
  have hj64 : j < 64 := by omega
  refine gC_of (cc := cX7_value) (nL := 4) (ret := (some .int)) (by decide) rfl (Nat.le_of_ble_eq_true rfl) ?_
  intro X F E _
  change gF G z0 X cX7_value 4 RX7 wsX7_value (some .int) "value" 6 135 _ _ at F
  show gV G z0 X 0 0 h 0 [(0, .ref m), (1, .int (nI j)), (2, .int (nI 0)), (3, .int pl)] []
  refine v_aload_n (pc' := 1) F dX7_value_0 rfl (j := 0) rfl rfl ?_
  refine v_iconst (pc' := 2) (v := nI 0) F dX7_value_1 (by decide) rfl ?_
  refine w_putf (pc' := 5) F k_X7_value_7 tyX7_ok nmX7 hm 0 (by decide) m_X7_value_f44 rfl  rfl rfl (show 0 < 26 by decide) [.int (nI 0), .ref rows, .ref asd, .int (nI now), .int und, .ref vals, .ref many, .int fl, .int rl, .int kd, .int ok, .int st, .ref way, .int wm, .ref told, .ref oth, .ref lst, .ref text, .int fed, .int len, .int spot, .int fa, .int fat, .int num, .int frm, .int may] rfl dX7_value_2 rfl (fun h1 a2 f3 => ?_)
  refine v_aload_n (pc' := 6) F dX7_value_5 rfl (j := 0) rfl rfl ?_
  refine v_aload_n (pc' := 7) F dX7_value_6 rfl (j := 0) rfl rfl ?_
  refine v_iload_n (pc' := 8) F dX7_value_7 rfl (j := 1) rfl rfl ?_
  have hv9j : nI 0 ≤ nI j ∧ nI j ≤ nI (D.1 - 1) := (bR_iff h1n (by omega)).mpr ⟨j, hj, rfl⟩
  have g4 := f3 _ _ (gnc (Ne.symm (g_neA hm hrows)) gn0) hrows
  refine v_callV (pc' := 11) (rt := (some .boolean)) (mcc := 0) (msc := 0) (As := [.int (nI j)]) (st := [.ref m]) F (fun l => c_X7_isVersion G z0 l (nI j) a2 g4 hnow hS.1 h1n hn64) gX7_value_X7_isVersion rfl hv_X7_isVersion (by decide) (by decide) a2 rfl rfl rfl (Nat.le_of_ble_eq_true rfl) (by omega) (by omega) dX7_value_8 rfl (fun v5 h1 hqv => ?_)
  rw [if_pos hv9j] at hqv; obtain ⟨rfl, rfl⟩ := hqv
  refine v_iconst (pc' := 12) (v := nI 1) F dX7_value_11 (by decide) rfl ?_
  refine v_callV (pc' := 15) (rt := (some .boolean)) (mcc := 0) (msc := 0) (As := [.int (nI 1), .int (nI 1)]) (st := []) F (fun l => c_X7_right1 G z0 l (th := nI 0) (nI 1) (by decide) a2) gX7_value_X7_right rfl hv_X7_right (by decide) (by decide) a2 rfl rfl rfl (Nat.le_of_ble_eq_true rfl) (by omega) (by omega) dX7_value_12 rfl (fun v6 h1 hqr => ?_)
  obtain ⟨rfl, rfl⟩ := hqr
  refine w_if_eq (tgt := 43) (pc' := 18) F (by omega) dX7_value_15 (by decide) rfl (fun c0 => absurd c0 (by omega)) (fun _ => ?_)
  refine v_aload_n (pc' := 19) F dX7_value_18 rfl (j := 0) rfl rfl ?_
  refine v_iload_n (pc' := 20) F dX7_value_19 rfl (j := 2) rfl rfl ?_
  refine v_iconst (pc' := 21) (v := nI 0) F dX7_value_20 (by decide) rfl ?_
  refine v_bipush (pc' := 23) (v := nI 6) F dX7_value_21 (by decide) rfl ?_
  have hi9k : nI 0 ≤ nI 0 ∧ nI 0 ≤ nI 6 := by decide
  refine v_callS (pc' := 26) (rt := (some .boolean)) (mcc := 0) (msc := 0) (As := [.int (nI 0), .int (nI 0), .int (nI 6)]) (st := [.ref m]) F (fun l => c_X7_isIn G z0 l (nI 0) (nI 0) (nI 6)) gX7_value_X7_isIn rfl hd_X7_isIn (by decide) (by decide) rfl rfl (Nat.le_of_ble_eq_true rfl) (by omega) (by omega) dX7_value_23 rfl (fun v7 h1 hqi => ?_)
  rw [if_pos hi9k] at hqi; obtain ⟨rfl, rfl⟩ := hqi
  refine v_iconst (pc' := 27) (v := nI 2) F dX7_value_26 (by decide) rfl ?_
  refine v_callV (pc' := 30) (rt := (some .boolean)) (mcc := 0) (msc := 0) (As := [.int (nI 1), .int (nI 2)]) (st := []) F (fun l => c_X7_right1 G z0 l (th := nI 0) (nI 2) (by decide) a2) gX7_value_X7_right rfl hv_X7_right (by decide) (by decide) a2 rfl rfl rfl (Nat.le_of_ble_eq_true rfl) (by omega) (by omega) dX7_value_27 rfl (fun v8 h1 hqr => ?_)
  obtain ⟨rfl, rfl⟩ := hqr
  refine w_if_eq (tgt := 43) (pc' := 33) F (by omega) dX7_value_30 (by decide) rfl (fun c0 => absurd c0 (by omega)) (fun _ => ?_)
  refine v_aload_n (pc' := 34) F dX7_value_33 rfl (j := 0) rfl rfl ?_
  refine v_iload_n (pc' := 35) F dX7_value_34 rfl (j := 1) rfl rfl ?_
  refine v_iload_n (pc' := 36) F dX7_value_35 rfl (j := 2) rfl rfl ?_
  refine v_iload_n (pc' := 37) F dX7_value_36 rfl (j := 3) rfl rfl ?_
  have g9 := f3 _ _ (gnc (Ne.symm (g_neA hm hvals)) gn0) hvals
  have g10 := f3 _ _ (gnc (Ne.symm (g_neA hm hmany)) gn0) hmany
  have g11 := f3 _ _ (gnc (Ne.symm (g_neA hm hway)) gn0) hway
  have g12 := f3 _ _ (gnc (Ne.symm (g_neA hm htold)) gn0) htold
  have g13 := f3 _ _ (gnc (Ne.symm (g_neA hm hoth)) gn0) hoth
  have g14 := f3 _ _ (gnc (Ne.symm (g_neA hm hlst)) gn0) hlst
  refine v_callV (pc' := 40) (rt := (some .int)) (mcc := 0) (msc := 0) (As := [.int (nI j), .int (nI 0), .int pl]) (st := []) F (fun l => c0_X7_valueOf G z0 l pl ⟨_, _, _, _, _, _, a2, g4, ⟨_, g9⟩, ⟨_, g10⟩, ⟨_, g11⟩, ⟨_, g12⟩, ⟨_, g13⟩, ⟨_, g14⟩, htw, how, hto⟩ hnow w9 hS hj) gX7_value_X7_valueOf rfl hv_X7_valueOf (by decide) (by decide) a2 rfl rfl rfl (Nat.le_of_ble_eq_true rfl) (by omega) (by omega) dX7_value_37 rfl (fun v16 h15 hqc => ?_)
  obtain ⟨rfl, hMA, frA⟩ := hqc
  refine v_goto (tgt := 44) F dX7_value_40 (by decide) ?_
  have fr17 : gfr [m, vals, many, way, told, oth, lst] h h15 := (gfr.t (gfr.mono f3 (by intro q9 z9 m9; apply z9; simp only [List.mem_cons, List.not_mem_nil, or_false] at m9 ⊢; omega)) frA)
  exact v_iret F E (by omega) (by omega)  dX7_value_44 ⟨rfl, hMA, fr17⟩
set_option maxHeartbeats 4000000 in
set_option maxRecDepth 100000 in
theorem c_X7_value (G : gG) (z0 : Nat) (l : Launch) {h : gH} {m rows asd vals many way told oth lst text now : Nat} {th und fed len spot fa fat num frm may : Int32} {R : Nat → Int32} {D : Dt} {j k : Nat} (pl : Int32) (hMS : mS G h m rows asd vals many way told oth lst text th now und fed len spot fa fat num frm may R) (hnow : now < 9) (w9 : wfD D) (hS : slD R (330 * now) D) (hj : j < D.1) (hk1 : 1 ≤ k) (hk6 : k ≤ 6) : gC G z0 l yX7_value wsX7_value 6 135 [.ref m, .int (nI j), .int (nI k), .int pl] h (fun o h' => o = some (.int (vAt pl (qList (qOf (D.2.2.2.2 j)).1 k) 0)) ∧ mS G h' m rows asd vals many way told oth lst text (nI 0) now und fed len spot fa fat num frm may R ∧ gfr [m, vals, many, way, told, oth, lst] h h') 0 0 := by
  have h1n := w9.1
  have hn64 := w9.2.1
  have hMS0 := hMS
  obtain ⟨fl, rl, kd, ok, st, wm, hm, hrows, ⟨V, hvals⟩, ⟨M, hmany⟩, ⟨W, hway⟩, ⟨f, htold⟩, ⟨g, hoth⟩, ⟨ll, hlst⟩, htw, how, hto⟩ := hMS
  have hj64 : j < 64 := by omega
  have hk : k < 7 := by omega
  refine gC_of (cc := cX7_value) (nL := 4) (ret := (some .int)) (by decide) rfl (Nat.le_of_ble_eq_true rfl) ?_
  intro X F E _
  change gF G z0 X cX7_value 4 RX7 wsX7_value (some .int) "value" 6 135 _ _ at F
  show gV G z0 X 0 0 h 0 [(0, .ref m), (1, .int (nI j)), (2, .int (nI k)), (3, .int pl)] []
  refine v_aload_n (pc' := 1) F dX7_value_0 rfl (j := 0) rfl rfl ?_
  refine v_iconst (pc' := 2) (v := nI 0) F dX7_value_1 (by decide) rfl ?_
  refine w_putf (pc' := 5) F k_X7_value_7 tyX7_ok nmX7 hm 0 (by decide) m_X7_value_f44 rfl  rfl rfl (show 0 < 26 by decide) [.int (nI 0), .ref rows, .ref asd, .int (nI now), .int und, .ref vals, .ref many, .int fl, .int rl, .int kd, .int ok, .int st, .ref way, .int wm, .ref told, .ref oth, .ref lst, .ref text, .int fed, .int len, .int spot, .int fa, .int fat, .int num, .int frm, .int may] rfl dX7_value_2 rfl (fun h1 a2 f3 => ?_)
  refine v_aload_n (pc' := 6) F dX7_value_5 rfl (j := 0) rfl rfl ?_
  refine v_aload_n (pc' := 7) F dX7_value_6 rfl (j := 0) rfl rfl ?_
  refine v_iload_n (pc' := 8) F dX7_value_7 rfl (j := 1) rfl rfl ?_
  have hv9j : nI 0 ≤ nI j ∧ nI j ≤ nI (D.1 - 1) := (bR_iff h1n (by omega)).mpr ⟨j, hj, rfl⟩
  have g4 := f3 _ _ (gnc (Ne.symm (g_neA hm hrows)) gn0) hrows
  refine v_callV (pc' := 11) (rt := (some .boolean)) (mcc := 0) (msc := 0) (As := [.int (nI j)]) (st := [.ref m]) F (fun l => c_X7_isVersion G z0 l (nI j) a2 g4 hnow hS.1 h1n hn64) gX7_value_X7_isVersion rfl hv_X7_isVersion (by decide) (by decide) a2 rfl rfl rfl (Nat.le_of_ble_eq_true rfl) (by omega) (by omega) dX7_value_8 rfl (fun v5 h1 hqv => ?_)
  rw [if_pos hv9j] at hqv; obtain ⟨rfl, rfl⟩ := hqv
  refine v_iconst (pc' := 12) (v := nI 1) F dX7_value_11 (by decide) rfl ?_
  refine v_callV (pc' := 15) (rt := (some .boolean)) (mcc := 0) (msc := 0) (As := [.int (nI 1), .int (nI 1)]) (st := []) F (fun l => c_X7_right1 G z0 l (th := nI 0) (nI 1) (by decide) a2) gX7_value_X7_right rfl hv_X7_right (by decide) (by decide) a2 rfl rfl rfl (Nat.le_of_ble_eq_true rfl) (by omega) (by omega) dX7_value_12 rfl (fun v6 h1 hqr => ?_)
  obtain ⟨rfl, rfl⟩ := hqr
  refine w_if_eq (tgt := 43) (pc' := 18) F (by omega) dX7_value_15 (by decide) rfl (fun c0 => absurd c0 (by omega)) (fun _ => ?_)
  refine v_aload_n (pc' := 19) F dX7_value_18 rfl (j := 0) rfl rfl ?_
  refine v_iload_n (pc' := 20) F dX7_value_19 rfl (j := 2) rfl rfl ?_
  refine v_iconst (pc' := 21) (v := nI 0) F dX7_value_20 (by decide) rfl ?_
  refine v_bipush (pc' := 23) (v := nI 6) F dX7_value_21 (by decide) rfl ?_
  have hi9k : nI 0 ≤ nI k ∧ nI k ≤ nI 6 := (bR_iff (n := 7) (by omega) (by omega)).mpr ⟨k, hk, rfl⟩
  refine v_callS (pc' := 26) (rt := (some .boolean)) (mcc := 0) (msc := 0) (As := [.int (nI k), .int (nI 0), .int (nI 6)]) (st := [.ref m]) F (fun l => c_X7_isIn G z0 l (nI k) (nI 0) (nI 6)) gX7_value_X7_isIn rfl hd_X7_isIn (by decide) (by decide) rfl rfl (Nat.le_of_ble_eq_true rfl) (by omega) (by omega) dX7_value_23 rfl (fun v7 h1 hqi => ?_)
  rw [if_pos hi9k] at hqi; obtain ⟨rfl, rfl⟩ := hqi
  refine v_iconst (pc' := 27) (v := nI 2) F dX7_value_26 (by decide) rfl ?_
  refine v_callV (pc' := 30) (rt := (some .boolean)) (mcc := 0) (msc := 0) (As := [.int (nI 1), .int (nI 2)]) (st := []) F (fun l => c_X7_right1 G z0 l (th := nI 0) (nI 2) (by decide) a2) gX7_value_X7_right rfl hv_X7_right (by decide) (by decide) a2 rfl rfl rfl (Nat.le_of_ble_eq_true rfl) (by omega) (by omega) dX7_value_27 rfl (fun v8 h1 hqr => ?_)
  obtain ⟨rfl, rfl⟩ := hqr
  refine w_if_eq (tgt := 43) (pc' := 33) F (by omega) dX7_value_30 (by decide) rfl (fun c0 => absurd c0 (by omega)) (fun _ => ?_)
  refine v_aload_n (pc' := 34) F dX7_value_33 rfl (j := 0) rfl rfl ?_
  refine v_iload_n (pc' := 35) F dX7_value_34 rfl (j := 1) rfl rfl ?_
  refine v_iload_n (pc' := 36) F dX7_value_35 rfl (j := 2) rfl rfl ?_
  refine v_iload_n (pc' := 37) F dX7_value_36 rfl (j := 3) rfl rfl ?_
  have g9 := f3 _ _ (gnc (Ne.symm (g_neA hm hvals)) gn0) hvals
  have g10 := f3 _ _ (gnc (Ne.symm (g_neA hm hmany)) gn0) hmany
  have g11 := f3 _ _ (gnc (Ne.symm (g_neA hm hway)) gn0) hway
  have g12 := f3 _ _ (gnc (Ne.symm (g_neA hm htold)) gn0) htold
  have g13 := f3 _ _ (gnc (Ne.symm (g_neA hm hoth)) gn0) hoth
  have g14 := f3 _ _ (gnc (Ne.symm (g_neA hm hlst)) gn0) hlst
  refine v_callV (pc' := 40) (rt := (some .int)) (mcc := 0) (msc := 0) (As := [.int (nI j), .int (nI k), .int pl]) (st := []) F (fun l => c_X7_valueOf G z0 l pl ⟨_, _, _, _, _, _, a2, g4, ⟨_, g9⟩, ⟨_, g10⟩, ⟨_, g11⟩, ⟨_, g12⟩, ⟨_, g13⟩, ⟨_, g14⟩, htw, how, hto⟩ hnow w9 hS hj hk1 hk6) gX7_value_X7_valueOf rfl hv_X7_valueOf (by decide) (by decide) a2 rfl rfl rfl (Nat.le_of_ble_eq_true rfl) (by omega) (by omega) dX7_value_37 rfl (fun v16 h15 hqc => ?_)
  obtain ⟨rfl, hMA, frA⟩ := hqc
  refine v_goto (tgt := 44) F dX7_value_40 (by decide) ?_
  have fr17 : gfr [m, vals, many, way, told, oth, lst] h h15 := (gfr.t (gfr.mono f3 (by intro q9 z9 m9; apply z9; simp only [List.mem_cons, List.not_mem_nil, or_false] at m9 ⊢; omega)) frA)
  exact v_iret F E (by omega) (by omega)  dX7_value_44 ⟨rfl, hMA, fr17⟩
