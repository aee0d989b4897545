set_option maxHeartbeats 4000000 in
set_option maxRecDepth 100000 in
theorem c_X7_drop (G : gG) (z0 : Nat) (l : Launch) {h : gH} {m rows asd vals many way told oth lst text now : Nat} {th fed len spot fa fat num frm may : Int32} {R : Nat → Int32} {D : Dt} {ud : Nat} {j : Nat} (hMS : mS G h m rows asd vals many way told oth lst text th now (nI ud) fed len spot fa fat num frm may R) (hnow : now < 9) (w9 : wfD D) (hS : slD R (330 * now) D) (hud : ud ≤ 8) (h0 : 0 < j) (hj : j < D.1) (hc : chD D j = 0) : gC G z0 l yX7_drop wsX7_drop 3 66 [.ref m, .int (nI j)] h (fun o h' => o = some (.int (nI (D.1 - 1))) ∧ ∃ R' : Nat → Int32, mS G h' m rows asd vals many way told oth lst text (nI 0) ((now + 1) % 9) (nI (min 8 (ud + 1))) fed len spot fa fat num frm may R' ∧ slD R' (330 * ((now + 1) % 9)) (dDrop D j) ∧ (∀ q, (q < 330 * ((now + 1) % 9) ∨ 330 * ((now + 1) % 9) + 330 ≤ q) → R' q = R q) ∧ gfr [rows, m, vals, many, way, told, oth, lst] h h') 0 0 := by
  have h1n := w9.1
  have hn64 := w9.2.1
  have hMS0 := hMS
  obtain ⟨fl, rl, kd, ok, st, wm, hm, hrows, ⟨V, hvals⟩, ⟨M, hmany⟩, ⟨W, hway⟩, ⟨f, htold⟩, ⟨g, hoth⟩, ⟨ll, hlst⟩, htw, how, hto⟩ := hMS
  have hj64 : j < 64 := by omega
  refine gC_of (cc := cX7_drop) (nL := 4) (ret := (some .int)) (by decide) rfl (Nat.le_of_ble_eq_true rfl) ?_
  intro X F E _
  change gF G z0 X cX7_drop 4 RX7 wsX7_drop (some .int) "drop" 3 66 _ _ at F
  show gV G z0 X 0 0 h 0 [(0, .ref m), (1, .int (nI j))] []
  refine v_aload_n (pc' := 1) F dX7_drop_0 rfl (j := 0) rfl rfl ?_
  refine v_iconst (pc' := 2) (v := nI 0) F dX7_drop_1 (by decide) rfl ?_
  refine w_putf (pc' := 5) F k_X7_drop_7 tyX7_ok nmX7 hm 0 (by decide) m_X7_drop_f44 rfl  rfl rfl (show 0 < 26 by decide) [.int (nI 0), .ref rows, .ref asd, .int (nI now), .int (nI ud), .ref vals, .ref many, .int fl, .int rl, .int kd, .int ok, .int st, .ref way, .int wm, .ref told, .ref oth, .ref lst, .ref text, .int fed, .int len, .int spot, .int fa, .int fat, .int num, .int frm, .int may] rfl dX7_drop_2 rfl (fun h1 a2 f3 => ?_)
  refine v_aload_n (pc' := 6) F dX7_drop_5 rfl (j := 0) rfl rfl ?_
  refine v_aload_n (pc' := 7) F dX7_drop_6 rfl (j := 0) rfl rfl ?_
  refine v_iload_n (pc' := 8) F dX7_drop_7 rfl (j := 1) rfl rfl ?_
  have hv9j : nI 0 ≤ nI j ∧ nI j ≤ nI (D.1 - 1) := (bR_iff h1n (by omega)).mpr ⟨j, hj, rfl⟩
  have g4 := f3 _ _ (gnc (Ne.symm (g_neA hm hrows)) gn0) hrows
  refine v_callV (pc' := 11) (rt := (some .boolean)) (mcc := 0) (msc := 0) (As := [.int (nI j)]) (st := [.ref m]) F (fun l => c_X7_isVersion G z0 l (nI j) a2 g4 hnow hS.1 h1n hn64) gX7_drop_X7_isVersion rfl hv_X7_isVersion (by decide) (by decide) a2 rfl rfl rfl (Nat.le_of_ble_eq_true rfl) (by omega) (by omega) dX7_drop_8 rfl (fun v5 h1 hqv => ?_)
  rw [if_pos hv9j] at hqv; obtain ⟨rfl, rfl⟩ := hqv
  refine v_iconst (pc' := 12) (v := nI 1) F dX7_drop_11 (by decide) rfl ?_
  refine v_callV (pc' := 15) (rt := (some .boolean)) (mcc := 0) (msc := 0) (As := [.int (nI 1), .int (nI 1)]) (st := []) F (fun l => c_X7_right1 G z0 l (th := nI 0) (nI 1) (by decide) a2) gX7_drop_X7_right rfl hv_X7_right (by decide) (by decide) a2 rfl rfl rfl (Nat.le_of_ble_eq_true rfl) (by omega) (by omega) dX7_drop_12 rfl (fun v6 h1 hqr => ?_)
  obtain ⟨rfl, rfl⟩ := hqr
  refine w_if_eq (tgt := 43) (pc' := 18) F (by omega) dX7_drop_15 (by decide) rfl (fun c0 => absurd c0 (by omega)) (fun _ => ?_)
  refine v_aload_n (pc' := 19) F dX7_drop_18 rfl (j := 0) rfl rfl ?_
  refine v_iload_n (pc' := 20) F dX7_drop_19 rfl (j := 1) rfl rfl ?_
  refine w_if_le (tgt := 35) (pc' := 23) F (by omega) dX7_drop_20 (by decide) rfl (fun c0 => absurd c0 (by omega)) (fun _ => ?_)
  refine v_aload_n (pc' := 24) F dX7_drop_23 rfl (j := 0) rfl rfl ?_
  refine v_iload_n (pc' := 25) F dX7_drop_24 rfl (j := 1) rfl rfl ?_
  refine v_callV (pc' := 28) (rt := (some .int)) (mcc := 0) (msc := 0) (As := [.int (nI j)]) (st := [.ref m]) F (fun l => c_X7_children G z0 l a2 g4 hnow w9 hS (v := j) hj64) gX7_drop_X7_children rfl hv_X7_children (by decide) (by decide) a2 rfl rfl rfl (Nat.le_of_ble_eq_true rfl) (by omega) (by omega) dX7_drop_25 rfl (fun v7 h1 hqh => ?_)
  rw [hc] at hqh; obtain ⟨rfl, rfl⟩ := hqh
  refine w_if_ne (tgt := 35) (pc' := 31) F (by omega) dX7_drop_28 (by decide) rfl (fun c0 => absurd c0 (by omega)) (fun _ => ?_)
  refine v_iconst (pc' := 32) (v := nI 1) F dX7_drop_31 (by decide) rfl ?_
  refine v_goto (tgt := 36) F dX7_drop_32 (by decide) ?_
  refine v_iconst (pc' := 37) (v := nI 2) F dX7_drop_36 (by decide) rfl ?_
  refine v_callV (pc' := 40) (rt := (some .boolean)) (mcc := 0) (msc := 0) (As := [.int (nI 1), .int (nI 2)]) (st := []) F (fun l => c_X7_right1 G z0 l (th := nI 0) (nI 2) (by decide) a2) gX7_drop_X7_right rfl hv_X7_right (by decide) (by decide) a2 rfl rfl rfl (Nat.le_of_ble_eq_true rfl) (by omega) (by omega) dX7_drop_37 rfl (fun v8 h1 hqr => ?_)
  obtain ⟨rfl, rfl⟩ := hqr
  refine w_if_ne (tgt := 45) (pc' := 43) F (by omega) dX7_drop_40 (by decide) rfl (fun _ => ?_) (fun c0 => absurd c0 (by omega))
  refine v_aload_n (pc' := 46) F dX7_drop_45 rfl (j := 0) rfl rfl ?_
  refine v_callV (pc' := 49) (rt := none) (mcc := 0) (msc := 0) (As := []) (st := []) F (fun l => c_X7_change G z0 l a2 g4 hnow hud) gX7_drop_X7_change rfl hv_X7_change (by decide) (by decide) a2 rfl rfl rfl (Nat.le_of_ble_eq_true rfl) (by omega) (by omega) dX7_drop_46 rfl (fun v10 h9 hqc => ?_)
  obtain ⟨rfl, RC, hmC, hrC, hoC, hcC, frC⟩ := hqc
  have hnx : ((now + 1) % 9) < 9 := Nat.mod_lt _ (by omega)
  have hSC : slD RC (330 * ((now + 1) % 9)) D := slD.copy w9 hS hcC
  refine v_iload_n (pc' := 50) F dX7_drop_49 rfl (j := 1) rfl rfl ?_
  refine v_istore_n (pc' := 51) (i := 2) (L' := [(2, .int (nI j)), (0, .ref m), (1, .int (nI j))]) F dX7_drop_50 rfl (by decide) rfl rfl ?_
  refine v_sub (L' := [(2, .int (nI j)), (1, .int (nI j)), (0, .ref m)]) [0, 2, 1] rfl ?_
  refine lpS_X7_drop (l := l) (R0 := RC) (N := D.1) (r := D.1 - (j + 1)) F (by omega) (by omega) hmC hrC hnx hn64 hSC.1 (Nat.le_refl _) (by omega) (fun q h1 h2 => absurd h1 (by omega)) (fun q hq => rfl) (fun hX v9 RX hmX hrX hv9 hAX hBX frX => ?_)
  show gV G z0 X 0 0 hX 94 [(2, .int (nI v9)), (1, .int (nI j)), (0, .ref m)] []
  have hXb : RX (330 * ((now + 1) % 9)) = nI D.1 := by rw [hBX _ (by omega)]; exact hSC.1
  refine v_aload_n (pc' := 95) F dX7_drop_94 rfl (j := 2) rfl rfl ?_
  refine v_iconst (pc' := 96) (v := nI 0) F dX7_drop_95 (by decide) rfl ?_
  refine v_aload_n (pc' := 97) F dX7_drop_96 rfl (j := 2) rfl rfl ?_
  refine v_callV (pc' := 100) (rt := (some .int)) (mcc := 0) (msc := 0) (As := []) (st := [.int (nI 0), .ref m]) F (fun l => c_X7_versions G z0 l hmX hrX hnx hXb) gX7_drop_X7_versions rfl hv_X7_versions (by decide) (by decide) hmX rfl rfl rfl (Nat.le_of_ble_eq_true rfl) (by omega) (by omega) dX7_drop_97 rfl (fun v11 hX hqv => ?_)
  obtain ⟨rfl, rfl⟩ := hqv
  refine v_iconst (pc' := 101) (v := nI 1) F dX7_drop_100 (by decide) rfl ?_
  refine v_isub (pc' := 102) (v := nI (D.1 - 1)) F dX7_drop_101 (g_subn (by omega) (by omega)) rfl ?_
  refine v_callV (pc' := 105) (rt := none) (mcc := 0) (msc := 0) (As := [.int (nI 0), .int (nI (D.1 - 1))]) (st := []) F (fun l => c_X7_put G z0 l (k := 0) (nI (D.1 - 1)) hmX hrX hnx (by omega)) gX7_drop_X7_put rfl hv_X7_put (by decide) (by decide) hmX rfl rfl rfl (Nat.le_of_ble_eq_true rfl) (by omega) (by omega) dX7_drop_102 rfl (fun v13 h12 hqw => ?_)
  obtain ⟨rfl, rR1, frR1⟩ := hqw
  have eR1 : ∀ q, q ≠ 330 * ((now + 1) % 9) + 0 → upd RX (330 * ((now + 1) % 9) + 0) (nI (D.1 - 1)) q = RX q := fun q hq => upd_ne hq
  have fR1 : upd RX (330 * ((now + 1) % 9) + 0) (nI (D.1 - 1)) (330 * ((now + 1) % 9) + 0) = (nI (D.1 - 1)) := upd_eq _ _ _
  generalize upd RX (330 * ((now + 1) % 9) + 0) (nI (D.1 - 1)) = R1 at rR1 eR1 fR1
  rw [Nat.add_zero] at eR1 fR1
  refine v_iconst (pc' := 106) (v := nI 0) F dX7_drop_105 (by decide) rfl ?_
  refine v_istore_n (pc' := 107) (i := 2) (L' := [(2, .int (nI 0)), (1, .int (nI j)), (0, .ref m)]) F dX7_drop_106 rfl (by decide) rfl rfl ?_
  refine v_sub (L' := [(2, .int (nI 0)), (1, .int (nI j)), (0, .ref m)]) [0, 1, 2] rfl ?_
  have g14 := frR1 _ _ (gnc (g_neA hmX hrX) gn0) hmX
  refine lpP_X7_drop (l := l) (R0 := R1) (j := j) (N := D.1 - 1) (r := D.1 - 1) F (by omega) (by omega) g14 rR1 hnx (by omega) fR1 (by omega) (fun u hu => absurd hu (by omega)) (fun q hq => rfl) (fun hY RY hmY hrY hAY hBY frY => ?_)
  show gV G z0 X 0 0 hY 145 [(2, .int (nI (D.1 - 1))), (1, .int (nI j)), (0, .ref m)] []
  have hY2 : RY (330 * ((now + 1) % 9) + 2) = nI D.2.2.1 := by rw [hBY _ (fun u hu => by omega), eR1 _ (by omega), hBX _ (by omega)]; exact hSC.2.2.1
  refine v_aload_n (pc' := 146) F dX7_drop_145 rfl (j := 2) rfl rfl ?_
  refine v_iconst (pc' := 147) (v := nI 2) F dX7_drop_146 (by decide) rfl ?_
  refine v_aload_n (pc' := 148) F dX7_drop_147 rfl (j := 2) rfl rfl ?_
  refine v_iconst (pc' := 149) (v := nI 2) F dX7_drop_148 (by decide) rfl ?_
  refine v_callV (pc' := 152) (rt := (some .int)) (mcc := 0) (msc := 0) (As := [.int (nI 2)]) (st := [.int (nI 2), .ref m]) F (fun l => c_X7_get G z0 l (k := 2) hmY hrY hnx (by omega)) gX7_drop_X7_get rfl hv_X7_get (by decide) (by decide) hmY rfl rfl rfl (Nat.le_of_ble_eq_true rfl) (by omega) (by omega) dX7_drop_149 rfl (fun v15 hY hqg => ?_)
  rw [hY2] at hqg; obtain ⟨rfl, rfl⟩ := hqg
  refine v_iconst (pc' := 153) (v := nI 1) F dX7_drop_152 (by decide) rfl ?_
  refine v_iadd (pc' := 154) (v := nI (D.2.2.1 + 1)) F dX7_drop_153 (nI_add D.2.2.1 1) rfl ?_
  refine v_callV (pc' := 157) (rt := none) (mcc := 0) (msc := 0) (As := [.int (nI 2), .int (nI (D.2.2.1 + 1))]) (st := []) F (fun l => c_X7_put G z0 l (k := 2) (nI (D.2.2.1 + 1)) hmY hrY hnx (by omega)) gX7_drop_X7_put rfl hv_X7_put (by decide) (by decide) hmY rfl rfl rfl (Nat.le_of_ble_eq_true rfl) (by omega) (by omega) dX7_drop_154 rfl (fun v17 h16 hqw => ?_)
  obtain ⟨rfl, rR2, frR2⟩ := hqw
  have eR2 : ∀ q, q ≠ 330 * ((now + 1) % 9) + 2 → upd RY (330 * ((now + 1) % 9) + 2) (nI (D.2.2.1 + 1)) q = RY q := fun q hq => upd_ne hq
  have fR2 : upd RY (330 * ((now + 1) % 9) + 2) (nI (D.2.2.1 + 1)) (330 * ((now + 1) % 9) + 2) = (nI (D.2.2.1 + 1)) := upd_eq _ _ _
  generalize upd RY (330 * ((now + 1) % 9) + 2) (nI (D.2.2.1 + 1)) = R2 at rR2 eR2 fR2
  have hZb : R2 (330 * ((now + 1) % 9)) = nI (D.1 - 1) := by rw [eR2 _ (by omega), hBY _ (fun u hu => by omega)]; exact fR1
  refine v_aload_n (pc' := 158) F dX7_drop_157 rfl (j := 2) rfl rfl ?_
  have g18 := frR2 _ _ (gnc (g_neA hmY hrY) gn0) hmY
  refine v_callV (pc' := 161) (rt := (some .int)) (mcc := 0) (msc := 0) (As := []) (st := []) F (fun l => c_X7_versions G z0 l g18 rR2 hnx hZb) gX7_drop_X7_versions rfl hv_X7_versions (by decide) (by decide) g18 rfl rfl rfl (Nat.le_of_ble_eq_true rfl) (by omega) (by omega) dX7_drop_158 rfl (fun v19 h16 hqv => ?_)
  obtain ⟨rfl, rfl⟩ := hqv
  have hsh : ∀ u w, u < D.1 - 1 → w < 5 → RX (330 * ((now + 1) % 9) + (10 + 5 * u + w)) = RC (330 * ((now + 1) % 9) + (10 + 5 * skp j u + w)) := fun u w hu hw => by
    unfold skp
    split
    · exact hBX _ (by omega)
    · rw [hAX _ (by omega) (by omega)]
      congr 1
      omega
  have hSD := slD.drop (R2 := R2) w9 hSC h0 hj hZb (by rw [eR2 _ (by omega), hBY _ (fun u hu => by omega), eR1 _ (by omega), hBX _ (by omega)]) fR2 (fun u hu => by rw [eR2 _ (by omega), hAY u hu, eR1 _ (by omega), hsh u 0 hu (by omega)]) (fun u w hu h1w h5w => by rw [eR2 _ (by omega), hBY _ (fun u2 hu2 => by omega), eR1 _ (by omega), hsh u w hu h5w])
  have fr20 : gfr [rows, m, vals, many, way, told, oth, lst] h h16 := (gfr.t (gfr.mono f3 (by intro q9 z9 m9; apply z9; simp only [List.mem_cons, List.not_mem_nil, or_false] at m9 ⊢; omega)) (gfr.t (gfr.mono frC (by intro q9 z9 m9; apply z9; simp only [List.mem_cons, List.not_mem_nil, or_false] at m9 ⊢; omega)) (gfr.t (gfr.mono frX (by intro q9 z9 m9; apply z9; simp only [List.mem_cons, List.not_mem_nil, or_false] at m9 ⊢; omega)) (gfr.t (gfr.mono frR1 (by intro q9 z9 m9; apply z9; simp only [List.mem_cons, List.not_mem_nil, or_false] at m9 ⊢; omega)) (gfr.t (gfr.mono frY (by intro q9 z9 m9; apply z9; simp only [List.mem_cons, List.not_mem_nil, or_false] at m9 ⊢; omega)) (gfr.mono frR2 (by intro q9 z9 m9; apply z9; simp only [List.mem_cons, List.not_mem_nil, or_false] at m9 ⊢; omega)))))))
  have g21 := f3 _ _ (gnc (Ne.symm (g_neA hm hvals)) gn0) hvals
  have g22 := frC _ _ (gnc (Ne.symm (g_neA a2 g21)) (gnc (g_neL g21 g4 (by decide)) gn0)) g21
  have g23 := frX _ _ (gnc (g_neL g22 hrC (by decide)) gn0) g22
  have g24 := frR1 _ _ (gnc (g_neL g23 hrX (by decide)) gn0) g23
  have g25 := frY _ _ (gnc (g_neL g24 rR1 (by decide)) gn0) g24
  have g26 := frR2 _ _ (gnc (g_neL g25 hrY (by decide)) gn0) g25
  have g27 := f3 _ _ (gnc (Ne.symm (g_neA hm hmany)) gn0) hmany
  have g28 := frC _ _ (gnc (Ne.symm (g_neA a2 g27)) (gnc (g_neL g27 g4 (by decide)) gn0)) g27
  have g29 := frX _ _ (gnc (g_neL g28 hrC (by decide)) gn0) g28
  have g30 := frR1 _ _ (gnc (g_neL g29 hrX (by decide)) gn0) g29
  have g31 := frY _ _ (gnc (g_neL g30 rR1 (by decide)) gn0) g30
  have g32 := frR2 _ _ (gnc (g_neL g31 hrY (by decide)) gn0) g31
  have g33 := f3 _ _ (gnc (Ne.symm (g_neA hm hway)) gn0) hway
  have g34 := frC _ _ (gnc (Ne.symm (g_neA a2 g33)) (gnc (g_neL g33 g4 (by decide)) gn0)) g33
  have g35 := frX _ _ (gnc (g_neL g34 hrC (by decide)) gn0) g34
  have g36 := frR1 _ _ (gnc (g_neL g35 hrX (by decide)) gn0) g35
  have g37 := frY _ _ (gnc (g_neL g36 rR1 (by decide)) gn0) g36
  have g38 := frR2 _ _ (gnc (g_neL g37 hrY (by decide)) gn0) g37
  have g39 := f3 _ _ (gnc (Ne.symm (g_neA hm htold)) gn0) htold
  have g40 := frC _ _ (gnc (Ne.symm (g_neA a2 g39)) (gnc (g_neL g39 g4 (by decide)) gn0)) g39
  have g41 := frX _ _ (gnc (g_neL g40 hrC (by decide)) gn0) g40
  have g42 := frR1 _ _ (gnc (g_neL g41 hrX (by decide)) gn0) g41
  have g43 := frY _ _ (gnc (g_neL g42 rR1 (by decide)) gn0) g42
  have g44 := frR2 _ _ (gnc (g_neL g43 hrY (by decide)) gn0) g43
  have g45 := f3 _ _ (gnc (Ne.symm (g_neA hm hoth)) gn0) hoth
  have g46 := frC _ _ (gnc (Ne.symm (g_neA a2 g45)) (gnc (g_neL g45 g4 (by decide)) gn0)) g45
  have g47 := frX _ _ (gnc (g_neL g46 hrC (by decide)) gn0) g46
  have g48 := frR1 _ _ (gnc (g_neL g47 hrX (by decide)) gn0) g47
  have g49 := frY _ _ (gnc (g_neL g48 rR1 (by decide)) gn0) g48
  have g50 := frR2 _ _ (gnc (g_neL g49 hrY (by decide)) gn0) g49
  have g51 := f3 _ _ (gnc (Ne.symm (g_neA hm hlst)) gn0) hlst
  have g52 := frC _ _ (gnc (Ne.symm (g_neA a2 g51)) (gnc (g_neL g51 g4 (by decide)) gn0)) g51
  have g53 := frX _ _ (gnc (g_neL g52 hrC (by decide)) gn0) g52
  have g54 := frR1 _ _ (gnc (g_neL g53 hrX (by decide)) gn0) g53
  have g55 := frY _ _ (gnc (g_neL g54 rR1 (by decide)) gn0) g54
  have g56 := frR2 _ _ (gnc (g_neL g55 hrY (by decide)) gn0) g55
  have hAB9 : ∀ q, (q < 330 * ((now + 1) % 9) ∨ 330 * ((now + 1) % 9) + 330 ≤ q) → RX q = RC q := fun q hq => hBX q (by omega)
  exact v_iret F E (by omega) (by omega)  dX7_drop_161 ⟨rfl, R2, ⟨_, _, _, _, _, _, g18, rR2, ⟨_, g26⟩, ⟨_, g32⟩, ⟨_, g38⟩, ⟨_, g44⟩, ⟨_, g50⟩, ⟨_, g56⟩, htw, how, hto⟩, hSD, fun q hq => by rw [eR2 q (by omega), hBY q (fun u hu => by omega), eR1 q (by omega), hAB9 q hq, hoC q hq], fr20⟩
set_option maxHeartbeats 4000000 in
set_option maxRecDepth 100000 in
theorem o2_X7_drop (G : gG) (z0 : Nat) (l : Launch) {h : gH} {m rows asd vals many way told oth lst text now : Nat} {th und fed len spot fa fat num frm may : Int32} {R : Nat → Int32} {D : Dt} {j : Nat} (hMS : mS G h m rows asd vals many way told oth lst text th now und fed len spot fa fat num frm may R) (hnow : now < 9) (w9 : wfD D) (hS : slD R (330 * now) D) (hj : j < D.1) (hno : ¬ (0 < j ∧ chD D j = 0)) : gC G z0 l yX7_drop wsX7_drop 3 66 [.ref m, .int (nI j)] h (fun o h' => (∃ y9, o = some (.int y9)) ∧ mS G h' m rows asd vals many way told oth lst text (nI 2) now und fed len spot fa fat num frm may R ∧ gfr [m, vals, many, way, told, oth, lst] h h') 0 0 := by
  have h1n := w9.1
  have hn64 := w9.2.1
  have hMS0 := hMS
  obtain ⟨fl, rl, kd, ok, st, wm, hm, hrows, ⟨V, hvals⟩, ⟨M, hmany⟩, ⟨W, hway⟩, ⟨f, htold⟩, ⟨g, hoth⟩, ⟨ll, hlst⟩, htw, how, hto⟩ := hMS
  have hj64 : j < 64 := by omega
  refine gC_of (cc := cX7_drop) (nL := 4) (ret := (some .int)) (by decide) rfl (Nat.le_of_ble_eq_true rfl) ?_
  intro X F E _
  change gF G z0 X cX7_drop 4 RX7 wsX7_drop (some .int) "drop" 3 66 _ _ at F
  show gV G z0 X 0 0 h 0 [(0, .ref m), (1, .int (nI j))] []
  refine v_aload_n (pc' := 1) F dX7_drop_0 rfl (j := 0) rfl rfl ?_
  refine v_iconst (pc' := 2) (v := nI 0) F dX7_drop_1 (by decide) rfl ?_
  refine w_putf (pc' := 5) F k_X7_drop_7 tyX7_ok nmX7 hm 0 (by decide) m_X7_drop_f44 rfl  rfl rfl (show 0 < 26 by decide) [.int (nI 0), .ref rows, .ref asd, .int (nI now), .int und, .ref vals, .ref many, .int fl, .int rl, .int kd, .int ok, .int st, .ref way, .int wm, .ref told, .ref oth, .ref lst, .ref text, .int fed, .int len, .int spot, .int fa, .int fat, .int num, .int frm, .int may] rfl dX7_drop_2 rfl (fun h1 a2 f3 => ?_)
  refine v_aload_n (pc' := 6) F dX7_drop_5 rfl (j := 0) rfl rfl ?_
  refine v_aload_n (pc' := 7) F dX7_drop_6 rfl (j := 0) rfl rfl ?_
  refine v_iload_n (pc' := 8) F dX7_drop_7 rfl (j := 1) rfl rfl ?_
  have hv9j : nI 0 ≤ nI j ∧ nI j ≤ nI (D.1 - 1) := (bR_iff h1n (by omega)).mpr ⟨j, hj, rfl⟩
  have g4 := f3 _ _ (gnc (Ne.symm (g_neA hm hrows)) gn0) hrows
  refine v_callV (pc' := 11) (rt := (some .boolean)) (mcc := 0) (msc := 0) (As := [.int (nI j)]) (st := [.ref m]) F (fun l => c_X7_isVersion G z0 l (nI j) a2 g4 hnow hS.1 h1n hn64) gX7_drop_X7_isVersion rfl hv_X7_isVersion (by decide) (by decide) a2 rfl rfl rfl (Nat.le_of_ble_eq_true rfl) (by omega) (by omega) dX7_drop_8 rfl (fun v5 h1 hqv => ?_)
  rw [if_pos hv9j] at hqv; obtain ⟨rfl, rfl⟩ := hqv
  refine v_iconst (pc' := 12) (v := nI 1) F dX7_drop_11 (by decide) rfl ?_
  refine v_callV (pc' := 15) (rt := (some .boolean)) (mcc := 0) (msc := 0) (As := [.int (nI 1), .int (nI 1)]) (st := []) F (fun l => c_X7_right1 G z0 l (th := nI 0) (nI 1) (by decide) a2) gX7_drop_X7_right rfl hv_X7_right (by decide) (by decide) a2 rfl rfl rfl (Nat.le_of_ble_eq_true rfl) (by omega) (by omega) dX7_drop_12 rfl (fun v6 h1 hqr => ?_)
  obtain ⟨rfl, rfl⟩ := hqr
  refine w_if_eq (tgt := 43) (pc' := 18) F (by omega) dX7_drop_15 (by decide) rfl (fun c0 => absurd c0 (by omega)) (fun _ => ?_)
  refine v_aload_n (pc' := 19) F dX7_drop_18 rfl (j := 0) rfl rfl ?_
  refine v_iload_n (pc' := 20) F dX7_drop_19 rfl (j := 1) rfl rfl ?_
  refine w_if_le (tgt := 35) (pc' := 23) F (by omega) dX7_drop_20 (by decide) rfl (fun k0 => ?_) (fun k0 => ?_)
  · refine v_iconst (pc' := 36) (v := nI 0) F dX7_drop_35 (by decide) rfl ?_
    refine v_iconst (pc' := 37) (v := nI 2) F dX7_drop_36 (by decide) rfl ?_
    refine v_callV (pc' := 40) (rt := (some .boolean)) (mcc := 0) (msc := 0) (As := [.int (nI 0), .int (nI 2)]) (st := []) F (fun l => c_X7_right0 G z0 l (th := nI 0) (nI 2) (by decide) a2) gX7_drop_X7_right rfl hv_X7_right (by decide) (by decide) a2 rfl rfl rfl (Nat.le_of_ble_eq_true rfl) (by omega) (by omega) dX7_drop_37 rfl (fun v8 h7 hqr => ?_)
    obtain ⟨rfl, hmR, frR⟩ := hqr
    refine w_if_ne (tgt := 45) (pc' := 43) F (by omega) dX7_drop_40 (by decide) rfl (fun c0 => absurd c0 (by omega)) (fun _ => ?_)
    refine v_iconst (pc' := 44) (v := nI 0) F dX7_drop_43 (by decide) rfl ?_
    have fr9 : gfr [m, vals, many, way, told, oth, lst] h h7 := (gfr.t (gfr.mono f3 (by intro q9 z9 m9; apply z9; simp only [List.mem_cons, List.not_mem_nil, or_false] at m9 ⊢; omega)) (gfr.mono frR (by intro q9 z9 m9; apply z9; simp only [List.mem_cons, List.not_mem_nil, or_false] at m9 ⊢; omega)))
    have g10 := frR _ _ (gnc (Ne.symm (g_neA a2 g4)) gn0) g4
    have g11 := f3 _ _ (gnc (Ne.symm (g_neA hm hvals)) gn0) hvals
    have g12 := frR _ _ (gnc (Ne.symm (g_neA a2 g11)) gn0) g11
    have g13 := f3 _ _ (gnc (Ne.symm (g_neA hm hmany)) gn0) hmany
    have g14 := frR _ _ (gnc (Ne.symm (g_neA a2 g13)) gn0) g13
    have g15 := f3 _ _ (gnc (Ne.symm (g_neA hm hway)) gn0) hway
    have g16 := frR _ _ (gnc (Ne.symm (g_neA a2 g15)) gn0) g15
    have g17 := f3 _ _ (gnc (Ne.symm (g_neA hm htold)) gn0) htold
    have g18 := frR _ _ (gnc (Ne.symm (g_neA a2 g17)) gn0) g17
    have g19 := f3 _ _ (gnc (Ne.symm (g_neA hm hoth)) gn0) hoth
    have g20 := frR _ _ (gnc (Ne.symm (g_neA a2 g19)) gn0) g19
    have g21 := f3 _ _ (gnc (Ne.symm (g_neA hm hlst)) gn0) hlst
    have g22 := frR _ _ (gnc (Ne.symm (g_neA a2 g21)) gn0) g21
    exact v_iret F E (by omega) (by omega)  dX7_drop_44 ⟨⟨_, rfl⟩, ⟨_, _, _, _, _, _, hmR, g10, ⟨_, g12⟩, ⟨_, g14⟩, ⟨_, g16⟩, ⟨_, g18⟩, ⟨_, g20⟩, ⟨_, g22⟩, htw, how, hto⟩, fr9⟩
  · refine v_aload_n (pc' := 24) F dX7_drop_23 rfl (j := 0) rfl rfl ?_
    refine v_iload_n (pc' := 25) F dX7_drop_24 rfl (j := 1) rfl rfl ?_
    have hcb : chD D j ≤ D.1 := gsum_b (fun i => by split <;> omega) _
    refine v_callV (pc' := 28) (rt := (some .int)) (mcc := 0) (msc := 0) (As := [.int (nI j)]) (st := [.ref m]) F (fun l => c_X7_children G z0 l a2 g4 hnow w9 hS (v := j) hj64) gX7_drop_X7_children rfl hv_X7_children (by decide) (by decide) a2 rfl rfl rfl (Nat.le_of_ble_eq_true rfl) (by omega) (by omega) dX7_drop_25 rfl (fun v23 h1 hqh => ?_)
    obtain ⟨rfl, rfl⟩ := hqh
    refine w_if_ne (tgt := 35) (pc' := 31) F (by omega) dX7_drop_28 (by decide) rfl (fun _ => ?_) (fun c0 => absurd c0 (fun zi => hno ⟨by omega, by omega⟩))
    refine v_iconst (pc' := 36) (v := nI 0) F dX7_drop_35 (by decide) rfl ?_
    refine v_iconst (pc' := 37) (v := nI 2) F dX7_drop_36 (by decide) rfl ?_
    refine v_callV (pc' := 40) (rt := (some .boolean)) (mcc := 0) (msc := 0) (As := [.int (nI 0), .int (nI 2)]) (st := []) F (fun l => c_X7_right0 G z0 l (th := nI 0) (nI 2) (by decide) a2) gX7_drop_X7_right rfl hv_X7_right (by decide) (by decide) a2 rfl rfl rfl (Nat.le_of_ble_eq_true rfl) (by omega) (by omega) dX7_drop_37 rfl (fun v25 h24 hqr => ?_)
    obtain ⟨rfl, hmR, frR⟩ := hqr
    refine w_if_ne (tgt := 45) (pc' := 43) F (by omega) dX7_drop_40 (by decide) rfl (fun c0 => absurd c0 (by omega)) (fun _ => ?_)
    refine v_iconst (pc' := 44) (v := nI 0) F dX7_drop_43 (by decide) rfl ?_
    have fr26 : gfr [m, vals, many, way, told, oth, lst] h h24 := (gfr.t (gfr.mono f3 (by intro q9 z9 m9; apply z9; simp only [List.mem_cons, List.not_mem_nil, or_false] at m9 ⊢; omega)) (gfr.mono frR (by intro q9 z9 m9; apply z9; simp only [List.mem_cons, List.not_mem_nil, or_false] at m9 ⊢; omega)))
    have g27 := frR _ _ (gnc (Ne.symm (g_neA a2 g4)) gn0) g4
    have g28 := f3 _ _ (gnc (Ne.symm (g_neA hm hvals)) gn0) hvals
    have g29 := frR _ _ (gnc (Ne.symm (g_neA a2 g28)) gn0) g28
    have g30 := f3 _ _ (gnc (Ne.symm (g_neA hm hmany)) gn0) hmany
    have g31 := frR _ _ (gnc (Ne.symm (g_neA a2 g30)) gn0) g30
    have g32 := f3 _ _ (gnc (Ne.symm (g_neA hm hway)) gn0) hway
    have g33 := frR _ _ (gnc (Ne.symm (g_neA a2 g32)) gn0) g32
    have g34 := f3 _ _ (gnc (Ne.symm (g_neA hm htold)) gn0) htold
    have g35 := frR _ _ (gnc (Ne.symm (g_neA a2 g34)) gn0) g34
    have g36 := f3 _ _ (gnc (Ne.symm (g_neA hm hoth)) gn0) hoth
    have g37 := frR _ _ (gnc (Ne.symm (g_neA a2 g36)) gn0) g36
    have g38 := f3 _ _ (gnc (Ne.symm (g_neA hm hlst)) gn0) hlst
    have g39 := frR _ _ (gnc (Ne.symm (g_neA a2 g38)) gn0) g38
    exact v_iret F E (by omega) (by omega)  dX7_drop_44 ⟨⟨_, rfl⟩, ⟨_, _, _, _, _, _, hmR, g27, ⟨_, g29⟩, ⟨_, g31⟩, ⟨_, g33⟩, ⟨_, g35⟩, ⟨_, g37⟩, ⟨_, g39⟩, htw, how, hto⟩, fr26⟩
set_option maxHeartbeats 4000000 in
set_option maxRecDepth 100000 in
theorem lp_X7_begins {G : gG} {z0 : Nat} {X : gX} {l : Launch} {mc ms cells slots j k : Nat} {h : gH} {m rows asd now vals many way told oth lst text : Nat} {th und fl rl kd ok st wm fed len spot fa fat num frm may : Int32} {R : Nat → Int32} (F : gF G z0 X cX7_begins 2 RX7 wsX7_begins none "begins" 2 45 mc ms) (hcc : cells ≤ mc) (hss : slots ≤ ms) (hm : h m = some (.inr (7, [.int th, .ref rows, .ref asd, .int (nI now), .int und, .ref vals, .ref many, .int fl, .int rl, .int kd, .int ok, .int st, .ref way, .int wm, .ref told, .ref oth, .ref lst, .ref text, .int fed, .int len, .int spot, .int fa, .int fat, .int num, .int frm, .int may]))) (hrows : h rows = some (oI G 2970 R)) (hnow : now < 9) (hkj : k + j = 330) (hZ : ∀ i, i < k → R (330 * now + i) = nI 0) (K : ∀ (h' : gH) (R' : Nat → Int32), h' m = some (.inr (7, [.int th, .ref rows, .ref asd, .int (nI now), .int und, .ref vals, .ref many, .int fl, .int rl, .int kd, .int ok, .int st, .ref way, .int wm, .ref told, .ref oth, .ref lst, .ref text, .int fed, .int len, .int spot, .int fa, .int fat, .int num, .int frm, .int may])) → h' rows = some (oI G 2970 R') → (∀ i, i < 330 → R' (330 * now + i) = nI 0) → (∀ q, (q < 330 * now ∨ 330 * now + 330 ≤ q) → R' q = R q) → gfr [rows] h h' → gV G z0 X cells slots h' 21 [(1, .int (nI 330)), (0, .ref m)] []) : gV G z0 X cells slots h 2 [(1, .int (nI k)), (0, .ref m)] [] := by
  induction j generalizing k h R with
  | zero =>
    obtain rfl : k = 330 := by omega
    refine v_iload_n (pc' := 3) F dX7_begins_2 rfl (j := 0) rfl rfl ?_
    refine v_sipush (pc' := 6) (v := nI 330) F dX7_begins_3 (by decide) rfl ?_
    refine w_icmp_ge (tgt := 21) (pc' := 9) F (by omega) (by omega) dX7_begins_6 (by decide) rfl (fun _ => ?_) (fun c0 => absurd c0 (by omega))
    exact K h R hm hrows hZ (fun q hq => rfl) gfr.rf
  | succ j ih =>
    refine v_iload_n (pc' := 3) F dX7_begins_2 rfl (j := 0) rfl rfl ?_
    refine v_sipush (pc' := 6) (v := nI 330) F dX7_begins_3 (by decide) rfl ?_
    refine w_icmp_ge (tgt := 21) (pc' := 9) F (by omega) (by omega) dX7_begins_6 (by decide) rfl (fun c0 => absurd c0 (by omega)) (fun _ => ?_)
    refine v_aload_n (pc' := 10) F dX7_begins_9 rfl (j := 1) rfl rfl ?_
    refine v_iload_n (pc' := 11) F dX7_begins_10 rfl (j := 0) rfl rfl ?_
    refine v_iconst (pc' := 12) (v := nI 0) F dX7_begins_11 (by decide) rfl ?_
    refine v_callV (pc' := 15) (rt := none) (mcc := 0) (msc := 0) (As := [.int (nI k), .int (nI 0)]) (st := []) F (fun l => c_X7_put G z0 l (k := k) (nI 0) hm hrows hnow (by omega)) gX7_begins_X7_put rfl hv_X7_put (by decide) (by decide) hm rfl rfl rfl (Nat.le_of_ble_eq_true rfl) (by omega) (by omega) dX7_begins_12 rfl (fun v2 h1 hqw => ?_)
    obtain ⟨rfl, rR1, frR1⟩ := hqw
    have eR1 : ∀ q, q ≠ 330 * now + k → upd R (330 * now + k) (nI 0) q = R q := fun q hq => upd_ne hq
    have fR1 : upd R (330 * now + k) (nI 0) (330 * now + k) = (nI 0) := upd_eq _ _ _
    generalize upd R (330 * now + k) (nI 0) = R1 at rR1 eR1 fR1
    refine v_iinc (pc' := 18) (j := 0) (x := nI k) (v := nI (k + 1)) (L' := [(1, .int (nI (k + 1))), (0, .ref m)]) F dX7_begins_15 rfl (nI_add k 1) (by decide) rfl rfl ?_
    refine v_goto (tgt := 2) F dX7_begins_18 (by decide) ?_
    have fr3 : gfr [rows] h h1 := frR1
    refine v_sub (L' := [(1, .int (nI (k + 1))), (0, .ref m)]) [0, 1] rfl ?_
    have g4 := frR1 _ _ (gnc (g_neA hm hrows) gn0) hm
    refine ih (k := k + 1) g4 rR1 (by omega) (fun i hi => ?_) (fun hA RA a1 a2 a3 a4 a5 => K hA RA a1 a2 a3 (fun q hq => by rw [a4 q hq, eR1 q (by omega)]) (gfr.t fr3 a5))
    by_cases ei : i = k
    · subst ei; exact fR1
    · rw [eR1 _ (by omega)]; exact hZ i (by omega)
set_option maxHeartbeats 4000000 in
set_option maxRecDepth 100000 in
theorem c_X7_begins (G : gG) (z0 : Nat) (l : Launch) {h : gH} {m rows asd now vals many way told oth lst text : Nat} {th und fl rl kd ok st wm fed len spot fa fat num frm may : Int32} {R : Nat → Int32} (hm : h m = some (.inr (7, [.int th, .ref rows, .ref asd, .int (nI now), .int und, .ref vals, .ref many, .int fl, .int rl, .int kd, .int ok, .int st, .ref way, .int wm, .ref told, .ref oth, .ref lst, .ref text, .int fed, .int len, .int spot, .int fa, .int fat, .int num, .int frm, .int may]))) (hrows : h rows = some (oI G 2970 R)) (hnow : now < 9) : gC G z0 l yX7_begins wsX7_begins 2 45 [.ref m] h (fun o h' => o = none ∧ ∃ R' : Nat → Int32, h' rows = some (oI G 2970 R') ∧ slD R' (330 * now) D0 ∧ (∀ q, (q < 330 * now ∨ 330 * now + 330 ≤ q) → R' q = R q) ∧ gfr [rows] h h') 0 0 := by
  refine gC_of (cc := cX7_begins) (nL := 2) (ret := none) (by decide) rfl (Nat.le_of_ble_eq_true rfl) ?_
  intro X F E _
  change gF G z0 X cX7_begins 2 RX7 wsX7_begins none "begins" 2 45 _ _ at F
  show gV G z0 X 0 0 h 0 [(0, .ref m)] []
  refine v_iconst (pc' := 1) (v := nI 0) F dX7_begins_0 (by decide) rfl ?_
  refine v_istore_n (pc' := 2) (i := 1) (L' := [(1, .int (nI 0)), (0, .ref m)]) F dX7_begins_1 rfl (by decide) rfl rfl ?_
  refine v_sub (L' := [(1, .int (nI 0)), (0, .ref m)]) [0, 1] rfl ?_
  refine lp_X7_begins (l := l) (k := 0) (j := 330) F (by omega) (by omega) hm hrows hnow (by omega) (fun i hi => absurd hi (by omega)) (fun hX RX hmX hrX hZX hoX frX => ?_)
  show gV G z0 X 0 0 hX 21 [(1, .int (nI 330)), (0, .ref m)] []
  refine v_aload_n (pc' := 22) F dX7_begins_21 rfl (j := 1) rfl rfl ?_
  refine v_iconst (pc' := 23) (v := nI 0) F dX7_begins_22 (by decide) rfl ?_
  refine v_iconst (pc' := 24) (v := nI 1) F dX7_begins_23 (by decide) rfl ?_
  refine v_callV (pc' := 27) (rt := none) (mcc := 0) (msc := 0) (As := [.int (nI 0), .int (nI 1)]) (st := []) F (fun l => c_X7_put G z0 l (k := 0) (nI 1) hmX hrX hnow (by omega)) gX7_begins_X7_put rfl hv_X7_put (by decide) (by decide) hmX rfl rfl rfl (Nat.le_of_ble_eq_true rfl) (by omega) (by omega) dX7_begins_24 rfl (fun v2 h1 hqw => ?_)
  obtain ⟨rfl, rR1, frR1⟩ := hqw
  have eR1 : ∀ q, q ≠ 330 * now + 0 → upd RX (330 * now + 0) (nI 1) q = RX q := fun q hq => upd_ne hq
  have fR1 : upd RX (330 * now + 0) (nI 1) (330 * now + 0) = (nI 1) := upd_eq _ _ _
  generalize upd RX (330 * now + 0) (nI 1) = R1 at rR1 eR1 fR1
  refine v_aload_n (pc' := 28) F dX7_begins_27 rfl (j := 1) rfl rfl ?_
  refine v_iconst (pc' := 29) (v := nI 1) F dX7_begins_28 (by decide) rfl ?_
  refine v_iconst (pc' := 30) (v := nI 2) F dX7_begins_29 (by decide) rfl ?_
  have g3 := frR1 _ _ (gnc (g_neA hmX hrX) gn0) hmX
  refine v_callV (pc' := 33) (rt := none) (mcc := 0) (msc := 0) (As := [.int (nI 1), .int (nI 2)]) (st := []) F (fun l => c_X7_put G z0 l (k := 1) (nI 2) g3 rR1 hnow (by omega)) gX7_begins_X7_put rfl hv_X7_put (by decide) (by decide) g3 rfl rfl rfl (Nat.le_of_ble_eq_true rfl) (by omega) (by omega) dX7_begins_30 rfl (fun v5 h4 hqw => ?_)
  obtain ⟨rfl, rR2, frR2⟩ := hqw
  have eR2 : ∀ q, q ≠ 330 * now + 1 → upd R1 (330 * now + 1) (nI 2) q = R1 q := fun q hq => upd_ne hq
  have fR2 : upd R1 (330 * now + 1) (nI 2) (330 * now + 1) = (nI 2) := upd_eq _ _ _
  generalize upd R1 (330 * now + 1) (nI 2) = R2 at rR2 eR2 fR2
  refine v_aload_n (pc' := 34) F dX7_begins_33 rfl (j := 1) rfl rfl ?_
  refine v_iconst (pc' := 35) (v := nI 0) F dX7_begins_34 (by decide) rfl ?_
  refine v_iconst (pc' := 36) (v := nI 0) F dX7_begins_35 (by decide) rfl ?_
  refine v_iconst (pc' := 37) (v := (-1)) F dX7_begins_36 (by decide) rfl ?_
  have g6 := frR2 _ _ (gnc (g_neA g3 rR1) gn0) g3
  refine v_callV (pc' := 40) (rt := none) (mcc := 0) (msc := 0) (As := [.int (nI 0), .int (nI 0), .int (-1)]) (st := []) F (fun l => c_X7_puts G z0 l (v := 0) (w := 0) (-1) g6 rR2 hnow (by omega) (by omega)) gX7_begins_X7_puts rfl hv_X7_puts (by decide) (by decide) g6 rfl rfl rfl (Nat.le_of_ble_eq_true rfl) (by omega) (by omega) dX7_begins_37 rfl (fun v8 h7 hqw => ?_)
  obtain ⟨rfl, rR3, frR3⟩ := hqw
  have eR3 : ∀ q, q ≠ 330 * now + (10 + 5 * 0 + 0) → upd R2 (330 * now + (10 + 5 * 0 + 0)) (-1) q = R2 q := fun q hq => upd_ne hq
  have fR3 : upd R2 (330 * now + (10 + 5 * 0 + 0)) (-1) (330 * now + (10 + 5 * 0 + 0)) = (-1) := upd_eq _ _ _
  generalize upd R2 (330 * now + (10 + 5 * 0 + 0)) (-1) = R3 at rR3 eR3 fR3
  refine v_aload_n (pc' := 41) F dX7_begins_40 rfl (j := 1) rfl rfl ?_
  refine v_iconst (pc' := 42) (v := nI 0) F dX7_begins_41 (by decide) rfl ?_
  refine v_iconst (pc' := 43) (v := nI 1) F dX7_begins_42 (by decide) rfl ?_
  refine v_iconst (pc' := 44) (v := (-1)) F dX7_begins_43 (by decide) rfl ?_
  have g9 := frR3 _ _ (gnc (g_neA g6 rR2) gn0) g6
  refine v_callV (pc' := 47) (rt := none) (mcc := 0) (msc := 0) (As := [.int (nI 0), .int (nI 1), .int (-1)]) (st := []) F (fun l => c_X7_puts G z0 l (v := 0) (w := 1) (-1) g9 rR3 hnow (by omega) (by omega)) gX7_begins_X7_puts rfl hv_X7_puts (by decide) (by decide) g9 rfl rfl rfl (Nat.le_of_ble_eq_true rfl) (by omega) (by omega) dX7_begins_44 rfl (fun v11 h10 hqw => ?_)
  obtain ⟨rfl, rR4, frR4⟩ := hqw
  have eR4 : ∀ q, q ≠ 330 * now + (10 + 5 * 0 + 1) → upd R3 (330 * now + (10 + 5 * 0 + 1)) (-1) q = R3 q := fun q hq => upd_ne hq
  have fR4 : upd R3 (330 * now + (10 + 5 * 0 + 1)) (-1) (330 * now + (10 + 5 * 0 + 1)) = (-1) := upd_eq _ _ _
  generalize upd R3 (330 * now + (10 + 5 * 0 + 1)) (-1) = R4 at rR4 eR4 fR4
  have fr12 : gfr [rows] h h10 := (gfr.t frX (gfr.t frR1 (gfr.t frR2 (gfr.t frR3 frR4))))
  rw [Nat.add_zero] at eR1 fR1
  have hv9 : ∀ v, v < 1 → slV R4 (330 * now) D0 v := fun v hv => by
    obtain rfl : v = 0 := by omega
    exact ⟨by rw [eR4 _ (by omega)]; exact fR3, fR4, by rw [eR4 _ (by omega), eR3 _ (by omega), eR2 _ (by omega), eR1 _ (by omega)]; exact hZX _ (by omega), by rw [eR4 _ (by omega), eR3 _ (by omega), eR2 _ (by omega), eR1 _ (by omega)]; exact hZX _ (by omega), by rw [eR4 _ (by omega), eR3 _ (by omega), eR2 _ (by omega), eR1 _ (by omega)]; exact hZX _ (by omega)⟩
  exact v_vret F E (by omega) (by omega)  dX7_begins_47 ⟨rfl, R4, rR4, ⟨by rw [eR4 _ (by omega), eR3 _ (by omega), eR2 _ (by omega)]; exact fR1, by rw [eR4 _ (by omega), eR3 _ (by omega)]; exact fR2, by rw [eR4 _ (by omega), eR3 _ (by omega), eR2 _ (by omega), eR1 _ (by omega)]; exact hZX 2 (by omega), hv9⟩, fun q hq => by rw [eR4 q (by omega), eR3 q (by omega), eR2 q (by omega), eR1 q (by omega), hoX q hq], fr12⟩
