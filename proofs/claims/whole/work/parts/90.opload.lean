set_option maxHeartbeats 4000000 in
set_option maxRecDepth 100000 in
theorem d_X7_load (G : gG) (z0 : Nat) (l : Launch) {h : gH} {m rows asd vals many way told oth lst text now : Nat} {th len spot fa fat num frm may : Int32} {ud bl : Nat} {R T A : Nat → Int32} {t : Nat → Nat} {w : Nat} (hMS : mS G h m rows asd vals many way told oth lst text th now (nI ud) (nI bl) len spot fa fat num frm may R) (hnow : now < 9) (hud : ud ≤ 8) (hasd : h asd = some (oI G 330 A)) (htext : h text = some (oI G 500 T)) (ht : ∀ j, j < bl → T j = nI (t j) ∧ t j < 256) (hbl : bl ≤ 500) (hw : w ≤ bl) : gC G z0 l yX7_load wsX7_load 8 175 [.ref m, .int (nI w)] h (fun o h' => (match pAll t w with | .inl e => o = some (.int e.1) ∧ (∃ (ln9 sp9 fa9 nu9 fr9 my9 : Int32) (R' : Nat → Int32), mS G h' m rows asd vals many way told oth lst text (nI 0) now (nI ud) (nI 0) ln9 sp9 fa9 (nI e.2.1) nu9 fr9 my9 R' ∧ ∀ q, R' q = R q) | .inr q => o = some (.int (nI q.2.1)) ∧ (∃ (ln9 sp9 fa9 nu9 fr9 my9 : Int32) (R' : Nat → Int32), mS G h' m rows asd vals many way told oth lst text (nI 0) ((now + 1) % 9) (nI (min 8 (ud + 1))) (nI 0) ln9 sp9 fa9 (-1) nu9 fr9 my9 R' ∧ wfD q.2 ∧ slD R' (330 * ((now + 1) % 9)) q.2 ∧ (∀ q, (q < 330 * ((now + 1) % 9) ∨ 330 * ((now + 1) % 9) + 330 ≤ q) → R' q = R q))) ∧ (∃ A', h' asd = some (oI G 330 A')) ∧ gfr [asd, rows, m, vals, many, way, told, oth, lst] h h') 0 0 := by
  have hMS0 := hMS
  obtain ⟨fl, rl, kd, ok, st, wm, hm, hrows, ⟨V, hvals⟩, ⟨M, hmany⟩, ⟨W, hway⟩, ⟨f, htold⟩, ⟨g, hoth⟩, ⟨ll, hlst⟩, htw, how, hto⟩ := hMS
  refine gC_of (cc := cX7_load) (nL := 5) (ret := (some .int)) (by decide) rfl (Nat.le_of_ble_eq_true rfl) ?_
  intro X F E _
  change gF G z0 X cX7_load 5 RX7 wsX7_load (some .int) "load" 8 175 _ _ at F
  show gV G z0 X 0 0 h 0 [(0, .ref m), (1, .int (nI w))] []
  refine v_aload_n (pc' := 1) F dX7_load_0 rfl (j := 0) rfl rfl ?_
  refine v_iconst (pc' := 2) (v := nI 0) F dX7_load_1 (by decide) rfl ?_
  refine w_putf (pc' := 5) F k_X7_load_7 tyX7_ok nmX7 hm 0 (by decide) m_X7_load_f44 rfl  rfl rfl (show 0 < 26 by decide) [.int (nI 0), .ref rows, .ref asd, .int (nI now), .int (nI ud), .ref vals, .ref many, .int fl, .int rl, .int kd, .int ok, .int st, .ref way, .int wm, .ref told, .ref oth, .ref lst, .ref text, .int (nI bl), .int len, .int spot, .int fa, .int fat, .int num, .int frm, .int may] rfl dX7_load_2 rfl (fun h1 a2 f3 => ?_)
  refine v_aload_n (pc' := 6) F dX7_load_5 rfl (j := 0) rfl rfl ?_
  refine v_iload_n (pc' := 7) F dX7_load_6 rfl (j := 1) rfl rfl ?_
  refine v_iconst (pc' := 8) (v := nI 0) F dX7_load_7 (by decide) rfl ?_
  refine v_aload_n (pc' := 9) F dX7_load_8 rfl (j := 0) rfl rfl ?_
  refine v_getf (pc' := 12) (v := .int (nI bl)) F k_X7_load_7 a2 18 (by decide) m_X7_load_f137 rfl dX7_load_9 rfl ?_
  have hi9 : (nI 0 ≤ (nI w) ∧ (nI w) ≤ nI bl) := (bR_iff (n := bl + 1) (by omega) (by omega)).mpr ⟨w, by omega, rfl⟩
  refine v_callS (pc' := 15) (rt := (some .boolean)) (mcc := 0) (msc := 0) (As := [.int (nI w), .int (nI 0), .int (nI bl)]) (st := [.ref m]) F (fun l => c_X7_isIn G z0 l (nI w) (nI 0) (nI bl)) gX7_load_X7_isIn rfl hd_X7_isIn (by decide) (by decide) rfl rfl (Nat.le_of_ble_eq_true rfl) (by omega) (by omega) dX7_load_12 rfl (fun v4 h1 hqi => ?_)
  rw [if_pos hi9] at hqi; obtain ⟨rfl, rfl⟩ := hqi
  refine v_iconst (pc' := 16) (v := nI 1) F dX7_load_15 (by decide) rfl ?_
  refine v_callV (pc' := 19) (rt := (some .boolean)) (mcc := 0) (msc := 0) (As := [.int (nI 1), .int (nI 1)]) (st := []) F (fun l => c_X7_right1 G z0 l (th := nI 0) (nI 1) (by decide) a2) gX7_load_X7_right rfl hv_X7_right (by decide) (by decide) a2 rfl rfl rfl (Nat.le_of_ble_eq_true rfl) (by omega) (by omega) dX7_load_16 rfl (fun v5 h1 hqr => ?_)
  obtain ⟨rfl, rfl⟩ := hqr
  refine w_if_ne (tgt := 24) (pc' := 22) F (by omega) dX7_load_19 (by decide) rfl (fun _ => ?_) (fun c0 => absurd c0 (by omega))
  refine v_aload_n (pc' := 25) F dX7_load_24 rfl (j := 0) rfl rfl ?_
  refine v_iload_n (pc' := 26) F dX7_load_25 rfl (j := 1) rfl rfl ?_
  refine w_putf (pc' := 29) F k_X7_load_7 tyX7_ok nmX7 a2 19 (by decide) m_X7_load_f149 rfl  rfl rfl (show 19 < 26 by decide) [.int (nI 0), .ref rows, .ref asd, .int (nI now), .int (nI ud), .ref vals, .ref many, .int fl, .int rl, .int kd, .int ok, .int st, .ref way, .int wm, .ref told, .ref oth, .ref lst, .ref text, .int (nI bl), .int (nI w), .int spot, .int fa, .int fat, .int num, .int frm, .int may] rfl dX7_load_26 rfl (fun h6 a7 f8 => ?_)
  refine v_aload_n (pc' := 30) F dX7_load_29 rfl (j := 0) rfl rfl ?_
  refine v_iconst (pc' := 31) (v := nI 0) F dX7_load_30 (by decide) rfl ?_
  refine w_putf (pc' := 34) F k_X7_load_7 tyX7_ok nmX7 a7 20 (by decide) m_X7_load_f146 rfl  rfl rfl (show 20 < 26 by decide) [.int (nI 0), .ref rows, .ref asd, .int (nI now), .int (nI ud), .ref vals, .ref many, .int fl, .int rl, .int kd, .int ok, .int st, .ref way, .int wm, .ref told, .ref oth, .ref lst, .ref text, .int (nI bl), .int (nI w), .int (nI 0), .int fa, .int fat, .int num, .int frm, .int may] rfl dX7_load_31 rfl (fun h9 a10 f11 => ?_)
  refine v_aload_n (pc' := 35) F dX7_load_34 rfl (j := 0) rfl rfl ?_
  refine v_iconst (pc' := 36) (v := nI 0) F dX7_load_35 (by decide) rfl ?_
  refine w_putf (pc' := 39) F k_X7_load_7 tyX7_ok nmX7 a10 18 (by decide) m_X7_load_f137 rfl  rfl rfl (show 18 < 26 by decide) [.int (nI 0), .ref rows, .ref asd, .int (nI now), .int (nI ud), .ref vals, .ref many, .int fl, .int rl, .int kd, .int ok, .int st, .ref way, .int wm, .ref told, .ref oth, .ref lst, .ref text, .int (nI 0), .int (nI w), .int (nI 0), .int fa, .int fat, .int num, .int frm, .int may] rfl dX7_load_36 rfl (fun h12 a13 f14 => ?_)
  refine v_aload_n (pc' := 40) F dX7_load_39 rfl (j := 0) rfl rfl ?_
  refine v_iconst (pc' := 41) (v := nI 0) F dX7_load_40 (by decide) rfl ?_
  refine w_putf (pc' := 44) F k_X7_load_7 tyX7_ok nmX7 a13 21 (by decide) m_X7_load_f143 rfl  rfl rfl (show 21 < 26 by decide) [.int (nI 0), .ref rows, .ref asd, .int (nI now), .int (nI ud), .ref vals, .ref many, .int fl, .int rl, .int kd, .int ok, .int st, .ref way, .int wm, .ref told, .ref oth, .ref lst, .ref text, .int (nI 0), .int (nI w), .int (nI 0), .int (nI 0), .int fat, .int num, .int frm, .int may] rfl dX7_load_41 rfl (fun h15 a16 f17 => ?_)
  refine v_aload_n (pc' := 45) F dX7_load_44 rfl (j := 0) rfl rfl ?_
  refine v_iconst (pc' := 46) (v := (-1)) F dX7_load_45 (by decide) rfl ?_
  refine w_putf (pc' := 49) F k_X7_load_7 tyX7_ok nmX7 a16 22 (by decide) m_X7_load_f37 rfl  rfl rfl (show 22 < 26 by decide) [.int (nI 0), .ref rows, .ref asd, .int (nI now), .int (nI ud), .ref vals, .ref many, .int fl, .int rl, .int kd, .int ok, .int st, .ref way, .int wm, .ref told, .ref oth, .ref lst, .ref text, .int (nI 0), .int (nI w), .int (nI 0), .int (nI 0), .int (-1), .int num, .int frm, .int may] rfl dX7_load_46 rfl (fun h18 a19 f20 => ?_)
  refine v_iconst (pc' := 50) (v := nI 0) F dX7_load_49 (by decide) rfl ?_
  refine v_istore_n (pc' := 51) (i := 2) (L' := [(2, .int (nI 0)), (0, .ref m), (1, .int (nI w))]) F dX7_load_50 rfl (by decide) rfl rfl ?_
  refine v_sub (L' := [(2, .int (nI 0)), (1, .int (nI w)), (0, .ref m)]) [0, 2, 1] rfl ?_
  have g21 := f3 _ _ (gnc (Ne.symm (g_neA hm hasd)) gn0) hasd
  have g22 := f8 _ _ (gnc (Ne.symm (g_neA a2 g21)) gn0) g21
  have g23 := f11 _ _ (gnc (Ne.symm (g_neA a7 g22)) gn0) g22
  have g24 := f14 _ _ (gnc (Ne.symm (g_neA a10 g23)) gn0) g23
  have g25 := f17 _ _ (gnc (Ne.symm (g_neA a13 g24)) gn0) g24
  have g26 := f20 _ _ (gnc (Ne.symm (g_neA a16 g25)) gn0) g25
  have fr27 : gfr [asd, rows, m, vals, many, way, told, oth, lst] h h18 := (gfr.t (gfr.mono f3 (by intro q9 z9 m9; apply z9; simp only [List.mem_cons, List.not_mem_nil, or_false] at m9 ⊢; omega)) (gfr.t (gfr.mono f8 (by intro q9 z9 m9; apply z9; simp only [List.mem_cons, List.not_mem_nil, or_false] at m9 ⊢; omega)) (gfr.t (gfr.mono f11 (by intro q9 z9 m9; apply z9; simp only [List.mem_cons, List.not_mem_nil, or_false] at m9 ⊢; omega)) (gfr.t (gfr.mono f14 (by intro q9 z9 m9; apply z9; simp only [List.mem_cons, List.not_mem_nil, or_false] at m9 ⊢; omega)) (gfr.t (gfr.mono f17 (by intro q9 z9 m9; apply z9; simp only [List.mem_cons, List.not_mem_nil, or_false] at m9 ⊢; omega)) (gfr.mono f20 (by intro q9 z9 m9; apply z9; simp only [List.mem_cons, List.not_mem_nil, or_false] at m9 ⊢; omega)))))))
  have g28 := f3 _ _ (gnc (Ne.symm (g_neA hm hrows)) gn0) hrows
  have g29 := f8 _ _ (gnc (Ne.symm (g_neA a2 g28)) gn0) g28
  have g30 := f11 _ _ (gnc (Ne.symm (g_neA a7 g29)) gn0) g29
  have g31 := f14 _ _ (gnc (Ne.symm (g_neA a10 g30)) gn0) g30
  have g32 := f17 _ _ (gnc (Ne.symm (g_neA a13 g31)) gn0) g31
  have g33 := f20 _ _ (gnc (Ne.symm (g_neA a16 g32)) gn0) g32
  refine lpA_X7_load (l := l) (k := 0) (j := 330) F (by omega) (by omega) hnow a19 g33 g26 (by omega) (fun i hi => absurd hi (by omega)) (fun hX AX hAX hAR frX => ?_)
  show gV G z0 X 0 0 hX 75 [(2, .int (nI 330)), (1, .int (nI w)), (0, .ref m)] []
  refine v_aload_n (pc' := 76) F dX7_load_75 rfl (j := 2) rfl rfl ?_
  have g34 := frX _ _ (gnc (g_neA a19 g26) gn0) a19
  have g35 := frX _ _ (gnc (g_neL g33 g26 (by decide)) gn0) g33
  have g36 := f3 _ _ (gnc (Ne.symm (g_neA hm hvals)) gn0) hvals
  have g37 := f8 _ _ (gnc (Ne.symm (g_neA a2 g36)) gn0) g36
  have g38 := f11 _ _ (gnc (Ne.symm (g_neA a7 g37)) gn0) g37
  have g39 := f14 _ _ (gnc (Ne.symm (g_neA a10 g38)) gn0) g38
  have g40 := f17 _ _ (gnc (Ne.symm (g_neA a13 g39)) gn0) g39
  have g41 := f20 _ _ (gnc (Ne.symm (g_neA a16 g40)) gn0) g40
  have g42 := frX _ _ (gnc (g_neL g41 g26 (by decide)) gn0) g41
  have g43 := f3 _ _ (gnc (Ne.symm (g_neA hm hmany)) gn0) hmany
  have g44 := f8 _ _ (gnc (Ne.symm (g_neA a2 g43)) gn0) g43
  have g45 := f11 _ _ (gnc (Ne.symm (g_neA a7 g44)) gn0) g44
  have g46 := f14 _ _ (gnc (Ne.symm (g_neA a10 g45)) gn0) g45
  have g47 := f17 _ _ (gnc (Ne.symm (g_neA a13 g46)) gn0) g46
  have g48 := f20 _ _ (gnc (Ne.symm (g_neA a16 g47)) gn0) g47
  have g49 := frX _ _ (gnc (g_neL g48 g26 (by decide)) gn0) g48
  have g50 := f3 _ _ (gnc (Ne.symm (g_neA hm hway)) gn0) hway
  have g51 := f8 _ _ (gnc (Ne.symm (g_neA a2 g50)) gn0) g50
  have g52 := f11 _ _ (gnc (Ne.symm (g_neA a7 g51)) gn0) g51
  have g53 := f14 _ _ (gnc (Ne.symm (g_neA a10 g52)) gn0) g52
  have g54 := f17 _ _ (gnc (Ne.symm (g_neA a13 g53)) gn0) g53
  have g55 := f20 _ _ (gnc (Ne.symm (g_neA a16 g54)) gn0) g54
  have g56 := frX _ _ (gnc (g_neL g55 g26 (by decide)) gn0) g55
  have g57 := f3 _ _ (gnc (Ne.symm (g_neA hm htold)) gn0) htold
  have g58 := f8 _ _ (gnc (Ne.symm (g_neA a2 g57)) gn0) g57
  have g59 := f11 _ _ (gnc (Ne.symm (g_neA a7 g58)) gn0) g58
  have g60 := f14 _ _ (gnc (Ne.symm (g_neA a10 g59)) gn0) g59
  have g61 := f17 _ _ (gnc (Ne.symm (g_neA a13 g60)) gn0) g60
  have g62 := f20 _ _ (gnc (Ne.symm (g_neA a16 g61)) gn0) g61
  have g63 := frX _ _ (gnc (g_neL g62 g26 (by decide)) gn0) g62
  have g64 := f3 _ _ (gnc (Ne.symm (g_neA hm hoth)) gn0) hoth
  have g65 := f8 _ _ (gnc (Ne.symm (g_neA a2 g64)) gn0) g64
  have g66 := f11 _ _ (gnc (Ne.symm (g_neA a7 g65)) gn0) g65
  have g67 := f14 _ _ (gnc (Ne.symm (g_neA a10 g66)) gn0) g66
  have g68 := f17 _ _ (gnc (Ne.symm (g_neA a13 g67)) gn0) g67
  have g69 := f20 _ _ (gnc (Ne.symm (g_neA a16 g68)) gn0) g68
  have g70 := frX _ _ (gnc (g_neL g69 g26 (by decide)) gn0) g69
  have g71 := f3 _ _ (gnc (Ne.symm (g_neA hm hlst)) gn0) hlst
  have g72 := f8 _ _ (gnc (Ne.symm (g_neA a2 g71)) gn0) g71
  have g73 := f11 _ _ (gnc (Ne.symm (g_neA a7 g72)) gn0) g72
  have g74 := f14 _ _ (gnc (Ne.symm (g_neA a10 g73)) gn0) g73
  have g75 := f17 _ _ (gnc (Ne.symm (g_neA a13 g74)) gn0) g74
  have g76 := f20 _ _ (gnc (Ne.symm (g_neA a16 g75)) gn0) g75
  have g77 := frX _ _ (gnc (g_neL g76 g26 (by decide)) gn0) g76
  have g78 := f3 _ _ (gnc (Ne.symm (g_neA hm htext)) gn0) htext
  have g79 := f8 _ _ (gnc (Ne.symm (g_neA a2 g78)) gn0) g78
  have g80 := f11 _ _ (gnc (Ne.symm (g_neA a7 g79)) gn0) g79
  have g81 := f14 _ _ (gnc (Ne.symm (g_neA a10 g80)) gn0) g80
  have g82 := f17 _ _ (gnc (Ne.symm (g_neA a13 g81)) gn0) g81
  have g83 := f20 _ _ (gnc (Ne.symm (g_neA a16 g82)) gn0) g82
  have g84 := frX _ _ (gnc (g_neL g83 g26 (by decide)) gn0) g83
  refine v_callV (pc' := 79) (rt := (some .boolean)) (mcc := 0) (msc := 0) (As := []) (st := []) F (fun l => c_X7_readsText G z0 l (ln := w) ⟨_, _, _, _, _, _, g34, g35, ⟨_, g42⟩, ⟨_, g49⟩, ⟨_, g56⟩, ⟨_, g63⟩, ⟨_, g70⟩, ⟨_, g77⟩, htw, how, hto⟩ hnow g84 (fun j hj => ht j (by omega)) (by omega)) gX7_load_X7_readsText rfl hv_X7_readsText (by decide) (by decide) g34 rfl rfl rfl (Nat.le_of_ble_eq_true rfl) (by omega) (by omega) dX7_load_76 rfl (fun v86 h85 hqR => ?_)
  obtain ⟨hR9, frQ⟩ := hqR
  have g87 := frQ _ _ (gnc (g_neL hAX g35 (by decide)) (gnc (Ne.symm (g_neA g34 hAX)) (gnc (g_neL hAX g42 (by decide)) (gnc (g_neL hAX g49 (by decide)) (gnc (g_neL hAX g56 (by decide)) (gnc (g_neL hAX g63 (by decide)) (gnc (g_neL hAX g70 (by decide)) (gnc (g_neL hAX g77 (by decide)) gn0)))))))) hAX
  unfold reT at hR9
  cases hpa : pAll t w with
  | inl e =>
    rw [hpa] at hR9
    simp only at hR9
    obtain ⟨rfl, sp2, nu2, fr2, my2, R2, hM2, ho2⟩ := hR9
    obtain ⟨fl4, rl4, kd4, ok4, st4, wm4, hm4, hrows4, ⟨V4, hvals4⟩, ⟨M4, hmany4⟩, ⟨W4, hway4⟩, ⟨f4, htold4⟩, ⟨g4, hoth4⟩, ⟨ll4, hlst4⟩, -, -, -⟩ := hM2
    show gV G z0 X 0 0 h85 79 [(2, .int (nI 330)), (1, .int (nI w)), (0, .ref m)] [.int (nI 0)]
    refine v_istore_n (pc' := 80) (i := 2) (L' := [(2, .int (nI 0)), (1, .int (nI w)), (0, .ref m)]) F dX7_load_79 rfl (by decide) rfl rfl ?_
    refine v_aload_n (pc' := 81) F dX7_load_80 rfl (j := 2) rfl rfl ?_
    refine v_getf (pc' := 84) (v := .int (nI now)) F k_X7_load_7 hm4 3 (by decide) m_X7_load_f47 rfl dX7_load_81 rfl ?_
    refine v_iconst (pc' := 85) (v := nI 1) F dX7_load_84 (by decide) rfl ?_
    refine v_iadd (pc' := 86) (v := nI (now + 1)) F dX7_load_85 (nI_add now 1) rfl ?_
    refine v_bipush (pc' := 88) (v := nI 9) F dX7_load_86 (by decide) rfl ?_
    refine v_irem (pc' := 89) (v := nI ((now + 1) % 9)) F dX7_load_88 (nI_ne0 (by omega) (by omega)) (pk_rem (by omega) (by omega) (by omega)) rfl ?_
    refine v_istore_n (pc' := 90) (i := 3) (L' := [(3, .int (nI ((now + 1) % 9))), (2, .int (nI 0)), (1, .int (nI w)), (0, .ref m)]) F dX7_load_89 rfl (by decide) rfl rfl ?_
    refine v_iconst (pc' := 91) (v := nI 0) F dX7_load_90 (by decide) rfl ?_
    refine v_istore (pc' := 93) (i := 4) (L' := [(4, .int (nI 0)), (3, .int (nI ((now + 1) % 9))), (2, .int (nI 0)), (1, .int (nI w)), (0, .ref m)]) F dX7_load_91  (by decide) rfl rfl ?_
    refine v_sub (L' := [(4, .int (nI 0)), (3, .int (nI ((now + 1) % 9))), (2, .int (nI 0)), (1, .int (nI w)), (0, .ref m)]) [0, 1, 2, 3, 4] rfl ?_
    refine lpB0_X7_load (l := l) (k := 0) (j := 330) (R2 := R2) (R0 := R) F (by omega) (by omega) hnow hm4 hrows4 g87 hAR (by omega) (fun i hi => absurd hi (by omega)) (fun q h2 => rfl) (fun hY RY hrY hBY hCY frY => ?_)
    show gV G z0 X 0 0 hY 143 [(4, .int (nI 330)), (3, .int (nI ((now + 1) % 9))), (2, .int (nI 0)), (1, .int (nI w)), (0, .ref m)] []
    refine v_iload_n (pc' := 144) F dX7_load_143 rfl (j := 2) rfl rfl ?_
    refine w_if_ne (tgt := 152) (pc' := 147) F (by omega) dX7_load_144 (by decide) rfl (fun c0 => absurd c0 (by omega)) (fun _ => ?_)
    refine v_aload_n (pc' := 148) F dX7_load_147 rfl (j := 4) rfl rfl ?_
    have g88 := frY _ _ (gnc (g_neA hm4 hrows4) gn0) hm4
    refine v_getf (pc' := 151) (v := .int e.1) F k_X7_load_7 g88 21 (by decide) m_X7_load_f143 rfl dX7_load_148 rfl ?_
    have hRY : ∀ q, RY q = R q := fun q => by
      by_cases hq : q < 330 * now ∨ 330 * now + 330 ≤ q
      · rw [hCY q hq, ho2 q hq]
      · have e9 := hBY (q - 330 * now) (by omega)
        rw [hAR _ (by omega), show 330 * now + (q - 330 * now) = q by omega] at e9
        exact e9
    have fr89 : gfr [asd, rows, m, vals, many, way, told, oth, lst] h hY := (gfr.t (gfr.mono f3 (by intro q9 z9 m9; apply z9; simp only [List.mem_cons, List.not_mem_nil, or_false] at m9 ⊢; omega)) (gfr.t (gfr.mono f8 (by intro q9 z9 m9; apply z9; simp only [List.mem_cons, List.not_mem_nil, or_false] at m9 ⊢; omega)) (gfr.t (gfr.mono f11 (by intro q9 z9 m9; apply z9; simp only [List.mem_cons, List.not_mem_nil, or_false] at m9 ⊢; omega)) (gfr.t (gfr.mono f14 (by intro q9 z9 m9; apply z9; simp only [List.mem_cons, List.not_mem_nil, or_false] at m9 ⊢; omega)) (gfr.t (gfr.mono f17 (by intro q9 z9 m9; apply z9; simp only [List.mem_cons, List.not_mem_nil, or_false] at m9 ⊢; omega)) (gfr.t (gfr.mono f20 (by intro q9 z9 m9; apply z9; simp only [List.mem_cons, List.not_mem_nil, or_false] at m9 ⊢; omega)) (gfr.t (gfr.mono frX (by intro q9 z9 m9; apply z9; simp only [List.mem_cons, List.not_mem_nil, or_false] at m9 ⊢; omega)) (gfr.t (gfr.mono frQ (by intro q9 z9 m9; apply z9; simp only [List.mem_cons, List.not_mem_nil, or_false] at m9 ⊢; omega)) (gfr.mono frY (by intro q9 z9 m9; apply z9; simp only [List.mem_cons, List.not_mem_nil, or_false] at m9 ⊢; omega))))))))))
    have g90 := frY _ _ (gnc (g_neL hvals4 hrows4 (by decide)) gn0) hvals4
    have g91 := frY _ _ (gnc (g_neL hmany4 hrows4 (by decide)) gn0) hmany4
    have g92 := frY _ _ (gnc (g_neL hway4 hrows4 (by decide)) gn0) hway4
    have g93 := frY _ _ (gnc (g_neL htold4 hrows4 (by decide)) gn0) htold4
    have g94 := frY _ _ (gnc (g_neL hoth4 hrows4 (by decide)) gn0) hoth4
    have g95 := frY _ _ (gnc (g_neL hlst4 hrows4 (by decide)) gn0) hlst4
    have g96 := frY _ _ (gnc (g_neL g87 hrows4 (by decide)) gn0) g87
    exact v_iret F E (by omega) (by omega)  dX7_load_151 ⟨by rw [hpa]; exact ⟨rfl, _, _, _, _, _, _, RY, ⟨_, _, _, _, _, _, g88, hrY, ⟨_, g90⟩, ⟨_, g91⟩, ⟨_, g92⟩, ⟨_, g93⟩, ⟨_, g94⟩, ⟨_, g95⟩, htw, how, hto⟩, hRY⟩, ⟨_, g96⟩, fr89⟩
  | inr q =>
    rw [hpa] at hR9
    simp only at hR9
    obtain ⟨rfl, sp2, nu2, fr2, my2, R2, hM2, ho2, wf2, sl2⟩ := hR9
    obtain ⟨fl4, rl4, kd4, ok4, st4, wm4, hm4, hrows4, ⟨V4, hvals4⟩, ⟨M4, hmany4⟩, ⟨W4, hway4⟩, ⟨f4, htold4⟩, ⟨g4, hoth4⟩, ⟨ll4, hlst4⟩, -, -, -⟩ := hM2
    show gV G z0 X 0 0 h85 79 [(2, .int (nI 330)), (1, .int (nI w)), (0, .ref m)] [.int (nI 1)]
    refine v_istore_n (pc' := 80) (i := 2) (L' := [(2, .int (nI 1)), (1, .int (nI w)), (0, .ref m)]) F dX7_load_79 rfl (by decide) rfl rfl ?_
    refine v_aload_n (pc' := 81) F dX7_load_80 rfl (j := 2) rfl rfl ?_
    refine v_getf (pc' := 84) (v := .int (nI now)) F k_X7_load_7 hm4 3 (by decide) m_X7_load_f47 rfl dX7_load_81 rfl ?_
    refine v_iconst (pc' := 85) (v := nI 1) F dX7_load_84 (by decide) rfl ?_
    refine v_iadd (pc' := 86) (v := nI (now + 1)) F dX7_load_85 (nI_add now 1) rfl ?_
    refine v_bipush (pc' := 88) (v := nI 9) F dX7_load_86 (by decide) rfl ?_
    refine v_irem (pc' := 89) (v := nI ((now + 1) % 9)) F dX7_load_88 (nI_ne0 (by omega) (by omega)) (pk_rem (by omega) (by omega) (by omega)) rfl ?_
    refine v_istore_n (pc' := 90) (i := 3) (L' := [(3, .int (nI ((now + 1) % 9))), (2, .int (nI 1)), (1, .int (nI w)), (0, .ref m)]) F dX7_load_89 rfl (by decide) rfl rfl ?_
    refine v_iconst (pc' := 91) (v := nI 0) F dX7_load_90 (by decide) rfl ?_
    refine v_istore (pc' := 93) (i := 4) (L' := [(4, .int (nI 0)), (3, .int (nI ((now + 1) % 9))), (2, .int (nI 1)), (1, .int (nI w)), (0, .ref m)]) F dX7_load_91  (by decide) rfl rfl ?_
    refine v_sub (L' := [(4, .int (nI 0)), (3, .int (nI ((now + 1) % 9))), (2, .int (nI 1)), (1, .int (nI w)), (0, .ref m)]) [0, 1, 2, 3, 4] rfl ?_
    refine lpB1_X7_load (l := l) (k := 0) (j := 330) (R2 := R2) (R0 := R) F (by omega) (by omega) hnow hm4 hrows4 g87 hAR (by omega) (fun i hi => absurd hi (by omega)) (fun i hi => absurd hi (by omega)) (fun q h1 h2 => rfl) (fun hY RY hrY hNY hBY hCY frY => ?_)
    show gV G z0 X 0 0 hY 143 [(4, .int (nI 330)), (3, .int (nI ((now + 1) % 9))), (2, .int (nI 1)), (1, .int (nI w)), (0, .ref m)] []
    refine v_iload_n (pc' := 144) F dX7_load_143 rfl (j := 2) rfl rfl ?_
    refine w_if_ne (tgt := 152) (pc' := 147) F (by omega) dX7_load_144 (by decide) rfl (fun _ => ?_) (fun c0 => absurd c0 (by omega))
    refine v_aload_n (pc' := 153) F dX7_load_152 rfl (j := 4) rfl rfl ?_
    refine v_iload_n (pc' := 154) F dX7_load_153 rfl (j := 1) rfl rfl ?_
    have g97 := frY _ _ (gnc (g_neA hm4 hrows4) gn0) hm4
    refine w_putf (pc' := 157) F k_X7_load_7 tyX7_ok nmX7 g97 3 (by decide) m_X7_load_f47 rfl  rfl rfl (show 3 < 26 by decide) [.int (nI 0), .ref rows, .ref asd, .int (nI ((now + 1) % 9)), .int (nI ud), .ref vals, .ref many, .int fl4, .int rl4, .int kd4, .int ok4, .int st4, .ref way, .int wm4, .ref told, .ref oth, .ref lst, .ref text, .int (nI 0), .int (nI w), .int sp2, .int (nI 0), .int (-1), .int nu2, .int fr2, .int my2] rfl dX7_load_154 rfl (fun h98 a99 f100 => ?_)
    refine v_aload_n (pc' := 158) F dX7_load_157 rfl (j := 4) rfl rfl ?_
    refine v_aload_n (pc' := 159) F dX7_load_158 rfl (j := 4) rfl rfl ?_
    refine v_getf (pc' := 162) (v := .int (nI ud)) F k_X7_load_7 a99 4 (by decide) m_X7_load_f58 rfl dX7_load_159 rfl ?_
    refine v_bipush (pc' := 164) (v := nI 8) F dX7_load_162 (by decide) rfl ?_
    have hnx : ((now + 1) % 9) < 9 := Nat.mod_lt _ (by omega)
    have hSY : slD RY (330 * ((now + 1) % 9)) q.2 := slD.copy wf2 sl2 hNY
    have h64 := wf2.2.1
    have hOY : (∀ q, (q < 330 * ((now + 1) % 9) ∨ 330 * ((now + 1) % 9) + 330 ≤ q) → RY q = R q) := fun q9 hq9 => by
      by_cases hq : q9 < 330 * now ∨ 330 * now + 330 ≤ q9
      · rw [hCY q9 hq9 hq, ho2 q9 hq]
      · have e9 := hBY (q9 - 330 * now) (by omega)
        rw [hAR _ (by omega), show 330 * now + (q9 - 330 * now) = q9 by omega] at e9
        exact e9
    refine w_icmp_ge (tgt := 176) (pc' := 167) F (by omega) (by omega) dX7_load_164 (by decide) rfl (fun c0 => ?_) (fun c0 => ?_)
    · have em : min 8 (ud + 1) = ud := by omega
      refine v_aload_n (pc' := 177) F dX7_load_176 rfl (j := 4) rfl rfl ?_
      refine v_getf (pc' := 180) (v := .int (nI ud)) F k_X7_load_7 a99 4 (by decide) m_X7_load_f58 rfl dX7_load_177 rfl ?_
      refine w_putf (pc' := 183) F k_X7_load_7 tyX7_ok nmX7 a99 4 (by decide) m_X7_load_f58 rfl  rfl rfl (show 4 < 26 by decide) [.int (nI 0), .ref rows, .ref asd, .int (nI ((now + 1) % 9)), .int (nI ud), .ref vals, .ref many, .int fl4, .int rl4, .int kd4, .int ok4, .int st4, .ref way, .int wm4, .ref told, .ref oth, .ref lst, .ref text, .int (nI 0), .int (nI w), .int sp2, .int (nI 0), .int (-1), .int nu2, .int fr2, .int my2] rfl dX7_load_180 rfl (fun h101 a102 f103 => ?_)
      refine v_aload_n (pc' := 184) F dX7_load_183 rfl (j := 4) rfl rfl ?_
      have g104 := f100 _ _ (gnc (Ne.symm (g_neA g97 hrY)) gn0) hrY
      have g105 := f103 _ _ (gnc (Ne.symm (g_neA a99 g104)) gn0) g104
      refine v_callV (pc' := 187) (rt := (some .int)) (mcc := 0) (msc := 0) (As := []) (st := []) F (fun l => c_X7_versions G z0 l a102 g105 hnx hSY.1) gX7_load_X7_versions rfl hv_X7_versions (by decide) (by decide) a102 rfl rfl rfl (Nat.le_of_ble_eq_true rfl) (by omega) (by omega) dX7_load_184 rfl (fun v106 h101 hqv => ?_)
      obtain ⟨rfl, rfl⟩ := hqv
      have fr107 : gfr [asd, rows, m, vals, many, way, told, oth, lst] h h101 := (gfr.t (gfr.mono f3 (by intro q9 z9 m9; apply z9; simp only [List.mem_cons, List.not_mem_nil, or_false] at m9 ⊢; omega)) (gfr.t (gfr.mono f8 (by intro q9 z9 m9; apply z9; simp only [List.mem_cons, List.not_mem_nil, or_false] at m9 ⊢; omega)) (gfr.t (gfr.mono f11 (by intro q9 z9 m9; apply z9; simp only [List.mem_cons, List.not_mem_nil, or_false] at m9 ⊢; omega)) (gfr.t (gfr.mono f14 (by intro q9 z9 m9; apply z9; simp only [List.mem_cons, List.not_mem_nil, or_false] at m9 ⊢; omega)) (gfr.t (gfr.mono f17 (by intro q9 z9 m9; apply z9; simp only [List.mem_cons, List.not_mem_nil, or_false] at m9 ⊢; omega)) (gfr.t (gfr.mono f20 (by intro q9 z9 m9; apply z9; simp only [List.mem_cons, List.not_mem_nil, or_false] at m9 ⊢; omega)) (gfr.t (gfr.mono frX (by intro q9 z9 m9; apply z9; simp only [List.mem_cons, List.not_mem_nil, or_false] at m9 ⊢; omega)) (gfr.t (gfr.mono frQ (by intro q9 z9 m9; apply z9; simp only [List.mem_cons, List.not_mem_nil, or_false] at m9 ⊢; omega)) (gfr.t (gfr.mono frY (by intro q9 z9 m9; apply z9; simp only [List.mem_cons, List.not_mem_nil, or_false] at m9 ⊢; omega)) (gfr.t (gfr.mono f100 (by intro q9 z9 m9; apply z9; simp only [List.mem_cons, List.not_mem_nil, or_false] at m9 ⊢; omega)) (gfr.mono f103 (by intro q9 z9 m9; apply z9; simp only [List.mem_cons, List.not_mem_nil, or_false] at m9 ⊢; omega))))))))))))
      have g108 := frY _ _ (gnc (g_neL hvals4 hrows4 (by decide)) gn0) hvals4
      have g109 := f100 _ _ (gnc (Ne.symm (g_neA g97 g108)) gn0) g108
      have g110 := f103 _ _ (gnc (Ne.symm (g_neA a99 g109)) gn0) g109
      have g111 := frY _ _ (gnc (g_neL hmany4 hrows4 (by decide)) gn0) hmany4
      have g112 := f100 _ _ (gnc (Ne.symm (g_neA g97 g111)) gn0) g111
      have g113 := f103 _ _ (gnc (Ne.symm (g_neA a99 g112)) gn0) g112
      have g114 := frY _ _ (gnc (g_neL hway4 hrows4 (by decide)) gn0) hway4
      have g115 := f100 _ _ (gnc (Ne.symm (g_neA g97 g114)) gn0) g114
      have g116 := f103 _ _ (gnc (Ne.symm (g_neA a99 g115)) gn0) g115
      have g117 := frY _ _ (gnc (g_neL htold4 hrows4 (by decide)) gn0) htold4
      have g118 := f100 _ _ (gnc (Ne.symm (g_neA g97 g117)) gn0) g117
      have g119 := f103 _ _ (gnc (Ne.symm (g_neA a99 g118)) gn0) g118
      have g120 := frY _ _ (gnc (g_neL hoth4 hrows4 (by decide)) gn0) hoth4
      have g121 := f100 _ _ (gnc (Ne.symm (g_neA g97 g120)) gn0) g120
      have g122 := f103 _ _ (gnc (Ne.symm (g_neA a99 g121)) gn0) g121
      have g123 := frY _ _ (gnc (g_neL hlst4 hrows4 (by decide)) gn0) hlst4
      have g124 := f100 _ _ (gnc (Ne.symm (g_neA g97 g123)) gn0) g123
      have g125 := f103 _ _ (gnc (Ne.symm (g_neA a99 g124)) gn0) g124
      have g126 := frY _ _ (gnc (g_neL g87 hrows4 (by decide)) gn0) g87
      have g127 := f100 _ _ (gnc (Ne.symm (g_neA g97 g126)) gn0) g126
      have g128 := f103 _ _ (gnc (Ne.symm (g_neA a99 g127)) gn0) g127
      exact v_iret F E (by omega) (by omega)  dX7_load_187 ⟨by rw [hpa]; exact ⟨rfl, _, _, _, _, _, _, RY, by rw [em]; exact ⟨_, _, _, _, _, _, a102, g105, ⟨_, g110⟩, ⟨_, g113⟩, ⟨_, g116⟩, ⟨_, g119⟩, ⟨_, g122⟩, ⟨_, g125⟩, htw, how, hto⟩, wf2, hSY, hOY⟩, ⟨_, g128⟩, fr107⟩
    · have em : min 8 (ud + 1) = ud + 1 := by omega
      refine v_aload_n (pc' := 168) F dX7_load_167 rfl (j := 4) rfl rfl ?_
      refine v_getf (pc' := 171) (v := .int (nI ud)) F k_X7_load_7 a99 4 (by decide) m_X7_load_f58 rfl dX7_load_168 rfl ?_
      refine v_iconst (pc' := 172) (v := nI 1) F dX7_load_171 (by decide) rfl ?_
      refine v_iadd (pc' := 173) (v := nI (ud + 1)) F dX7_load_172 (nI_add ud 1) rfl ?_
      refine v_goto (tgt := 180) F dX7_load_173 (by decide) ?_
      refine w_putf (pc' := 183) F k_X7_load_7 tyX7_ok nmX7 a99 4 (by decide) m_X7_load_f58 rfl  rfl rfl (show 4 < 26 by decide) [.int (nI 0), .ref rows, .ref asd, .int (nI ((now + 1) % 9)), .int (nI (ud + 1)), .ref vals, .ref many, .int fl4, .int rl4, .int kd4, .int ok4, .int st4, .ref way, .int wm4, .ref told, .ref oth, .ref lst, .ref text, .int (nI 0), .int (nI w), .int sp2, .int (nI 0), .int (-1), .int nu2, .int fr2, .int my2] rfl dX7_load_180 rfl (fun h129 a130 f131 => ?_)
      refine v_aload_n (pc' := 184) F dX7_load_183 rfl (j := 4) rfl rfl ?_
      have g132 := f100 _ _ (gnc (Ne.symm (g_neA g97 hrY)) gn0) hrY
      have g133 := f131 _ _ (gnc (Ne.symm (g_neA a99 g132)) gn0) g132
      refine v_callV (pc' := 187) (rt := (some .int)) (mcc := 0) (msc := 0) (As := []) (st := []) F (fun l => c_X7_versions G z0 l a130 g133 hnx hSY.1) gX7_load_X7_versions rfl hv_X7_versions (by decide) (by decide) a130 rfl rfl rfl (Nat.le_of_ble_eq_true rfl) (by omega) (by omega) dX7_load_184 rfl (fun v134 h129 hqv => ?_)
      obtain ⟨rfl, rfl⟩ := hqv
      have fr135 : gfr [asd, rows, m, vals, many, way, told, oth, lst] h h129 := (gfr.t (gfr.mono f3 (by intro q9 z9 m9; apply z9; simp only [List.mem_cons, List.not_mem_nil, or_false] at m9 ⊢; omega)) (gfr.t (gfr.mono f8 (by intro q9 z9 m9; apply z9; simp only [List.mem_cons, List.not_mem_nil, or_false] at m9 ⊢; omega)) (gfr.t (gfr.mono f11 (by intro q9 z9 m9; apply z9; simp only [List.mem_cons, List.not_mem_nil, or_false] at m9 ⊢; omega)) (gfr.t (gfr.mono f14 (by intro q9 z9 m9; apply z9; simp only [List.mem_cons, List.not_mem_nil, or_false] at m9 ⊢; omega)) (gfr.t (gfr.mono f17 (by intro q9 z9 m9; apply z9; simp only [List.mem_cons, List.not_mem_nil, or_false] at m9 ⊢; omega)) (gfr.t (gfr.mono f20 (by intro q9 z9 m9; apply z9; simp only [List.mem_cons, List.not_mem_nil, or_false] at m9 ⊢; omega)) (gfr.t (gfr.mono frX (by intro q9 z9 m9; apply z9; simp only [List.mem_cons, List.not_mem_nil, or_false] at m9 ⊢; omega)) (gfr.t (gfr.mono frQ (by intro q9 z9 m9; apply z9; simp only [List.mem_cons, List.not_mem_nil, or_false] at m9 ⊢; omega)) (gfr.t (gfr.mono frY (by intro q9 z9 m9; apply z9; simp only [List.mem_cons, List.not_mem_nil, or_false] at m9 ⊢; omega)) (gfr.t (gfr.mono f100 (by intro q9 z9 m9; apply z9; simp only [List.mem_cons, List.not_mem_nil, or_false] at m9 ⊢; omega)) (gfr.mono f131 (by intro q9 z9 m9; apply z9; simp only [List.mem_cons, List.not_mem_nil, or_false] at m9 ⊢; omega))))))))))))
      have g136 := frY _ _ (gnc (g_neL hvals4 hrows4 (by decide)) gn0) hvals4
      have g137 := f100 _ _ (gnc (Ne.symm (g_neA g97 g136)) gn0) g136
      have g138 := f131 _ _ (gnc (Ne.symm (g_neA a99 g137)) gn0) g137
      have g139 := frY _ _ (gnc (g_neL hmany4 hrows4 (by decide)) gn0) hmany4
      have g140 := f100 _ _ (gnc (Ne.symm (g_neA g97 g139)) gn0) g139
      have g141 := f131 _ _ (gnc (Ne.symm (g_neA a99 g140)) gn0) g140
      have g142 := frY _ _ (gnc (g_neL hway4 hrows4 (by decide)) gn0) hway4
      have g143 := f100 _ _ (gnc (Ne.symm (g_neA g97 g142)) gn0) g142
      have g144 := f131 _ _ (gnc (Ne.symm (g_neA a99 g143)) gn0) g143
      have g145 := frY _ _ (gnc (g_neL htold4 hrows4 (by decide)) gn0) htold4
      have g146 := f100 _ _ (gnc (Ne.symm (g_neA g97 g145)) gn0) g145
      have g147 := f131 _ _ (gnc (Ne.symm (g_neA a99 g146)) gn0) g146
      have g148 := frY _ _ (gnc (g_neL hoth4 hrows4 (by decide)) gn0) hoth4
      have g149 := f100 _ _ (gnc (Ne.symm (g_neA g97 g148)) gn0) g148
      have g150 := f131 _ _ (gnc (Ne.symm (g_neA a99 g149)) gn0) g149
      have g151 := frY _ _ (gnc (g_neL hlst4 hrows4 (by decide)) gn0) hlst4
      have g152 := f100 _ _ (gnc (Ne.symm (g_neA g97 g151)) gn0) g151
      have g153 := f131 _ _ (gnc (Ne.symm (g_neA a99 g152)) gn0) g152
      have g154 := frY _ _ (gnc (g_neL g87 hrows4 (by decide)) gn0) g87
      have g155 := f100 _ _ (gnc (Ne.symm (g_neA g97 g154)) gn0) g154
      have g156 := f131 _ _ (gnc (Ne.symm (g_neA a99 g155)) gn0) g155
      exact v_iret F E (by omega) (by omega)  dX7_load_187 ⟨by rw [hpa]; exact ⟨rfl, _, _, _, _, _, _, RY, by rw [em]; exact ⟨_, _, _, _, _, _, a130, g133, ⟨_, g138⟩, ⟨_, g141⟩, ⟨_, g144⟩, ⟨_, g147⟩, ⟨_, g150⟩, ⟨_, g153⟩, htw, how, hto⟩, wf2, hSY, hOY⟩, ⟨_, g156⟩, fr135⟩
theorem ps_dr (t : Nat → Nat) (len : Nat) : ∀ (m : Nat) (fs : Bool) (v s : Nat) (D : Dt) (q : Nat × Dt), pPs t len m fs v s D = .inr q → q.2.2.2.1 = D.2.2.1
  | 0, _, _, _, _, q, h => by
    unfold pPs at h
    cases h
    rfl
  | m + 1, fs, v, s, D, q, h => by
    unfold pPs at h
    split at h
    · split at h
      · cases h
      · cases h; rfl
    · split at h
      · cases h
      · split at h
        · cases h
        · have h2 := ps_dr t len m false _ _ _ q h
          exact h2
theorem pops_dr : ∀ (k v : Nat) (D : Dt), (dPops k v D).2.2.1 = D.2.2.1
  | 0, _, _ => rfl
  | k + 1, v, D => pops_dr k D.1 (dAdd D v (-1))
theorem st_dr {t : Nat → Nat} {len s : Nat} {may : Bool} {D : Dt} {q : Nat × Dt} (h : pSt t len may s D = .inr q) : q.2.2.2.1 = D.2.2.1 := by
  unfold pSt at h
  split at h
  · unfold pPush at h
    split at h
    · cases h
    · exact ps_dr t len _ _ _ _ _ q h
  · split at h
    · unfold pPop at h
      split at h
      · cases h
      · split at h
        · cases h
        · split at h
          · cases h
          · split at h
            · cases h
            · cases h
              exact pops_dr _ _ _
    · split at h
      · unfold pPace at h
        split at h
        · cases h
        · cases h
          rfl
      · cases h
theorem main_dr (t : Nat → Nat) (len : Nat) : ∀ (m : Nat) (may : Bool) (s : Nat) (D : Dt) (q : Nat × Dt), pMain t len m may s D = .inr q → q.2.2.2.1 = D.2.2.1
  | 0, _, _, _, q, h => by
    unfold pMain at h
    cases h
    rfl
  | m + 1, may, s, D, q, h => by
    by_cases e0 : kdT t len s = 0
    · rw [show pMain t len (m + 1) may s D = .inr (s, D) from if_pos e0] at h
      cases h
      rfl
    · rw [pMain_s e0] at h
      cases hs : pSt t len may s D with
      | inl e => rw [hs] at h; cases h
      | inr q1 =>
        rw [hs] at h
        simp only at h
        split at h
        · rw [main_dr t len m false _ _ q h, st_dr hs]
        · cases h
theorem all_dr {t : Nat → Nat} {len : Nat} {q : Nat × Dt} (h : pAll t len = .inr q) : q.2.2.2.1 = 0 := by
  unfold pAll at h
  split at h
  · cases h
  · split at h
    · cases h
    · exact main_dr t len len true _ D0 q h
theorem sub_l9 (m rows asd vals many way told oth lst text : Nat) : ∀ s, s ∈ [asd, rows, m, vals, many, way, told, oth, lst] → s ∈ [m, rows, asd, vals, many, way, told, oth, lst, text] := fun s hs => by
  simp only [List.mem_cons, List.not_mem_nil, or_false] at hs ⊢
  omega
theorem mS.atL {G : gG} {h h' : gH} {m rows asd vals many way told oth lst text now : Nat} {th und fed len spot fa fat num frm may : Int32} {R A T : Nat → Int32} (c : mS G h m rows asd vals many way told oth lst text th now und fed len spot fa fat num frm may R) (ha : h asd = some (oI G 330 A)) (ht : h text = some (oI G 500 T)) (f : gfr [asd, rows, m, vals, many, way, told, oth, lst] h h') : h' text = some (oI G 500 T) := by
  obtain ⟨fl, rl, kd, ok, st, wm, hm, hrows, ⟨V, hvals⟩, ⟨M, hmany⟩, ⟨W, hway⟩, ⟨f1, htold⟩, ⟨g, hoth⟩, ⟨ll, hlst⟩, hn⟩ := c
  exact f _ _ (gnc (g_neL ht ha (by decide)) (gnc (g_neL ht hrows (by decide)) (gnc (Ne.symm (g_neA hm ht)) (gnc (g_neL ht hvals (by decide)) (gnc (g_neL ht hmany (by decide)) (gnc (g_neL ht hway (by decide)) (gnc (g_neL ht htold (by decide)) (gnc (g_neL ht hoth (by decide)) (gnc (g_neL ht hlst (by decide)) gn0))))))))) ht
theorem hd_L_load : yL_load.cls ≠ "java/lang/invoke/MethodHandle" ∧ yL_load.cls ≠ "java/lang/invoke/VarHandle" ∧ (parseMethodDescriptor yL_load.desc).map (fun d => d.parameters.length) = some 3 := by decide +kernel
theorem hv_X7_load : yX7_load.cls = RX7 ∧ yX7_load.cls ≠ "java/lang/invoke/MethodHandle" ∧ yX7_load.cls ≠ "java/lang/invoke/VarHandle" ∧ (parseMethodDescriptor yX7_load.desc).map (fun d => d.parameters.length) = some 1 := by decide +kernel
set_option maxHeartbeats 4000000 in
set_option maxRecDepth 100000 in
theorem op_load {G : gG} {z0 : Nat} {X : gX} {mc ms cells slots i N sb k : Nat} {nm : String} {xs : Nat → Int32} {h : gH} {x buf rd bks oq rw orw root m rows asd vals many way told oth lst text out : Nat} {bk bv : Nat → Nat} (F : gF G z0 X cL_law 9 RL wsL_law (some .boolean) nm 14 526 mc ms) (hst : X.2.1.stackTraces = false) (hSc : gSc z0 X sb N xs) (hN : N ≤ 3072) (hiN : i + 6 ≤ N) (hcc : cells + 1173 ≤ mc) (hss : slots + 14000 ≤ ms) (hk9 : k < 60000) (hL : LI G h x buf rd bks oq rw orw root m rows asd vals many way told oth lst text out bk bv k) (K : ∀ (c9 s9 : Nat) (h' : gH), c9 ≤ cells + 1173 → s9 ≤ slots + 14000 → LI G h' x buf rd bks oq rw orw root m rows asd vals many way told oth lst text out bk bv (k + 1) → gV G z0 X c9 s9 h' 1252 [(4, .int (nI i)), (3, .ref out), (2, .ref m), (1, .ref x), (0, .ref sb)] []) : gV G z0 X cells slots h 213 [(4, .int (nI i)), (3, .ref out), (2, .ref m), (1, .ref x), (0, .ref sb)] [] := by
  obtain ⟨t, bl, off, cur, und, now, Ds, g, hCI, hMI, hAP, ho⟩ := hL
  obtain ⟨hX, ⟨hc, hu, hb5⟩, ⟨fb, hbuf, hft⟩, hRd, hsc, hro, hVr, hring, ⟨hbi, hvi⟩, hDs⟩ := id hCI
  obtain ⟨w9, hdr, ad, as, hcl, hroot⟩ := hCI.now
  have hB := hcl.1
  have hD := hcl.dat w9
  have hn := w9.2.1
  have h1n := w9.1
  have hx6 := hX.1
  obtain ⟨th, len, spot, fa, num, frm, may, R, A, T, hMS, hnow, hasd, htext, hT, hsl⟩ := id hMI
  have hnc : (cur + 1) % 10 < 10 := Nat.mod_lt _ (by omega)
  obtain ⟨n2, pc2, dr2, f2, hb2, hva2, hf0⟩ := hring _ hnc
  have hRd0 := hRd
  obtain ⟨o9, e9, l9, tx, bk9, at9, st9, kd9_, nu9, may9, z7, z8⟩ := hRd0
  have hoK : ∀ h9 : gH, gfr [x, rd, bk ((cur + 1) % 10), bv ((cur + 1) % 10)] h h9 → h9 out = some (oL G 1 g) := fun h9 f9 => f9 _ _ (gnc (ne9 ho hx6 (by simp [kd9])) (gnc (ne9 ho z8 (by simp [kd9])) (gnc (ne9 ho hb2 (by simp [kd9])) (gnc (ne9 ho hva2 (by simp [kd9])) gn0)))) ho
  have hvK : ∀ (k7 : Nat) (v : Option Value) (h9 : gH), ldQ G h x buf rd bks oq rw orw cur und bk (bv ((cur + 1) % 10)) k7 root t v h9 → ∃ k8 : Int32, v = some (.int k8) := fun k7 v h9 z => by
    obtain ⟨-, -, D1, ad1, as1, -, -, -, zz⟩ := z
    cases hp : pAll t k7 with
    | inl e => rw [hp] at zz; exact ⟨_, zz.1⟩
    | inr q => rw [hp] at zz; exact ⟨_, zz.1⟩
  obtain ⟨w1, hw1⟩ : ∃ w, xs (i + 1) = w := ⟨_, rfl⟩
  refine v_aload_n (pc' := 214) F dL_law_213 rfl (j := 3) rfl rfl ?_
  refine v_aload_n (pc' := 215) F dL_law_214 rfl (j := 4) rfl rfl ?_
  refine v_iload (pc' := 217) F dL_law_215  (j := 0) rfl rfl ?_
  refine v_iconst (pc' := 218) (v := nI 1) F dL_law_217 (by decide) rfl ?_
  refine v_iadd (pc' := 219) (v := nI (i + 1)) F dL_law_218 (nI_add i 1) rfl ?_
  refine w_sld (pc' := 220) (j := i + 1) F hSc (by omega) (by omega) hw1 dL_law_219 rfl ?_
  refine v_aload_n (pc' := 221) F dL_law_220 rfl (j := 1) rfl rfl ?_
  refine v_callSH (pc' := 224) (rt := (some .int)) (hh := [(0, 9, 12, 13)]) (mcc := 700) (msc := 2100) (As := [.ref x, .int w1, .ref out]) (st := []) F hst (fun l hst => c_L_load G z0 l hst w1 hx6 ho (fun l hst => c_X6_load G z0 l hst w1 hX hc hu hRd hbuf hft hb5 hb2 hva2 hf0 hVr) (fun v h9 hq => by obtain ⟨k7, hk7, ew1, hld⟩ := hq; exact ⟨hvK k7 v h9 hld, hoK _ hld.1⟩) (fun E h9 hq => hq.2.1)) gL_law_L_load rfl hd_L_load (by decide) (by decide) rfl rfl (Nat.le_of_ble_eq_true rfl) (by omega) (by omega) dL_law_221 rfl (fun v9 h9 hq => ?_)
  rcases hq with ⟨k9, h1, hq1, rfl, g9, hgo, hg0, fO⟩ | ⟨E9, kc, hx1, rfl, hec⟩
  · obtain ⟨k7, hk7, ew1, f1, hrd1, D1, ad1, as1, wf1, hcl1, hr1, hm9⟩ := hq1
    subst ew1
    have ho1 := hoK _ f1
    have hM1 := hMI.fr (nin (fun s9 hs9 a9 ha9 => by
      simp only [List.mem_cons, List.not_mem_nil, or_false] at hs9
      rcases hs9 with rfl | rfl | rfl | rfl
      · exact hMI.no hx6 (.inl (by show 6 < 7; decide)) a9 ha9
      · exact hMI.no z8 (.inl (by show 3 < 7; decide)) a9 ha9
      · exact hMI.no hb2 (.inl (by show 0 < 7; decide)) a9 ha9
      · exact hMI.no hva2 (.inr (.inr rfl)) a9 ha9)) f1
    cases hpa : pAll t k7 with
    | inl e =>
      rw [hpa] at hm9
      simp only at hm9
      obtain ⟨hv, -, -, hX1⟩ := hm9
      have hC1 := hCI.lde f1 hrd1 wf1 hcl1 hr1 hX1
      obtain rfl := Value.int.inj (Option.some.inj hv)
      obtain ⟨hC2, hM2⟩ := LI.o2 hC1 hM1 ho1 fO
      obtain ⟨th2, len2, spot2, fa2, num2, frm2, may2, R2, A2, T2, hMS2, hnow2, hasd2, htext2, hT2, hsl2⟩ := id hM2
      have hS2 : slD R2 (330 * now) (Ds 0) := by have h0 := hsl2 0 (Nat.zero_le _); rwa [show (now + 9 - 0) % 9 = now by omega] at h0
      obtain ⟨_, _, _, _, _, _, hm2, -⟩ := id hMS2
      refine v_istore (pc' := 226) (i := 5) (L' := [(5, .int (nI 0)), (4, .int (nI i)), (3, .ref out), (2, .ref m), (1, .ref x), (0, .ref sb)]) F dL_law_224  (by decide) rfl rfl ?_
      refine v_aload_n (pc' := 227) F dL_law_226 rfl (j := 3) rfl rfl ?_
      refine v_aload_n (pc' := 228) F dL_law_227 rfl (j := 5) rfl rfl ?_
      refine v_iload (pc' := 230) F dL_law_228  (j := 1) rfl rfl ?_
      refine v_iconst (pc' := 231) (v := nI 1) F dL_law_230 (by decide) rfl ?_
      refine v_iadd (pc' := 232) (v := nI (i + 1)) F dL_law_231 (nI_add i 1) rfl ?_
      refine w_sld (pc' := 233) (j := i + 1) F hSc (by omega) (by omega) hw1 dL_law_232 rfl ?_
      refine v_callV (pc' := 236) (rt := (some .int)) (mcc := 0) (msc := 0) (As := [.int (nI k7)]) (st := []) F (fun l => d_X7_load G z0 l hMS2 hnow2 hu hasd2 htext2 (fun j hj => ⟨hT2 j hj, (hft j hj).2⟩) hb5 (by omega)) gL_law_X7_load rfl hv_X7_load (by decide) (by decide) hm2 rfl rfl rfl (Nat.le_of_ble_eq_true rfl) (by omega) (by omega) dL_law_233 rfl (fun v2 h1 hqm => ?_)
      rw [hpa] at hqm
      simp only at hqm
      obtain ⟨⟨rfl, ln9, sp9, fa9, nu8, fr9, my9, RN, hMS3, hRN⟩, ⟨A9, ha3⟩, fQ⟩ := hqm
      obtain ⟨hC3, ho3⟩ := LI.m2 hC2 hM2 hAP hgo (sub_l9 m rows asd vals many way told oth lst text) fQ
      have ht3 := mS.atL hMS2 hasd2 htext2 fQ
      obtain ⟨_, _, _, _, _, _, hm3, -⟩ := id hMS3
      refine v_istore (pc' := 238) (i := 6) (L' := [(6, .int e.1), (5, .int (nI 0)), (4, .int (nI i)), (3, .ref out), (2, .ref m), (1, .ref x), (0, .ref sb)]) F dL_law_236  (by decide) rfl rfl ?_
      refine v_aload_n (pc' := 239) F dL_law_238 rfl (j := 4) rfl rfl ?_
      refine v_callV (pc' := 242) (rt := (some .int)) (mcc := 0) (msc := 0) (As := []) (st := []) F (fun l => c_X7_thrown G z0 l hm3) gL_law_X7_thrown rfl hv_X7_thrown (by decide) (by decide) hm3 rfl rfl rfl (Nat.le_of_ble_eq_true rfl) (by omega) (by omega) dL_law_239 rfl (fun v3 h1 hqt => ?_)
      obtain ⟨rfl, rfl⟩ := hqt
      refine v_iload (pc' := 244) F dL_law_242  (j := 1) rfl rfl ?_
      refine w_icmp_eq (tgt := 249) (pc' := 247) F (by omega) (by omega) dL_law_244 (by decide) rfl (fun _ => ?_) (fun c0 => absurd c0 (by omega))
      refine v_iload (pc' := 251) F dL_law_249  (j := 1) rfl rfl ?_
      refine w_if_ne (tgt := 266) (pc' := 254) F (by omega) dL_law_251 (by decide) rfl (fun c0 => absurd c0 (by omega)) (fun _ => ?_)
      refine v_aload_n (pc' := 255) F dL_law_254 rfl (j := 3) rfl rfl ?_
      refine v_iconst (pc' := 256) (v := nI 0) F dL_law_255 (by decide) rfl ?_
      refine w_lald (pc' := 257) (v := (e.1).toInt64) F ho3 (by omega) (by omega) hg0 dL_law_256 rfl ?_
      refine v_iload (pc' := 259) F dL_law_257  (j := 0) rfl rfl ?_
      refine v_i2l (pc' := 260) (v := (e.1).toInt64) F dL_law_259 rfl rfl ?_
      refine v_lcmp (pc' := 261) F dL_law_260 rfl ?_
      refine v_if_eq (tgt := 266) (pc' := 264) F dL_law_261 (by decide) rfl (fun _ => ?_) (fun c0 => absurd (lg_self _) c0)
      refine v_goto (tgt := 1252) F dL_law_266 (by decide) ?_
      refine v_sub (L' := [(4, .int (nI i)), (3, .ref out), (2, .ref m), (1, .ref x), (0, .ref sb)]) [2, 3, 4, 5, 6] rfl ?_
      exact K _ _ _ (by omega) (by omega) ⟨t, 0, _, cur, und, now, Ds, g9, hC3, ⟨_, ln9, sp9, fa9, nu8, fr9, my9, RN, A9, T2, hMS3, hnow2, ha3, ht3, fun j hj => absurd hj (Nat.not_lt_zero j), sl_eq (fun i hi => (hDs i hi).1) hsl2 hRN⟩, hAP, ho3⟩
    | inr q =>
      rw [hpa] at hm9
      simp only at hm9
      obtain ⟨hv, hqD, hX1⟩ := hm9
      subst hqD
      have hC1 := hCI.chg f1 hrd1 wf1 hcl1 hr1 hX1 (Nat.zero_le _) (by rw [all_dr hpa]; exact Nat.zero_le _)
      obtain rfl := Value.int.inj (Option.some.inj hv)
      obtain ⟨hC2, hM2⟩ := LI.o2 hC1 hM1 ho1 fO
      obtain ⟨th2, len2, spot2, fa2, num2, frm2, may2, R2, A2, T2, hMS2, hnow2, hasd2, htext2, hT2, hsl2⟩ := id hM2
      have hS2 : slD R2 (330 * now) (Ds 0) := by have h0 := hsl2 0 (Nat.zero_le _); rwa [show (now + 9 - 0) % 9 = now by omega] at h0
      obtain ⟨_, _, _, _, _, _, hm2, -⟩ := id hMS2
      refine v_istore (pc' := 226) (i := 5) (L' := [(5, .int (nI 0)), (4, .int (nI i)), (3, .ref out), (2, .ref m), (1, .ref x), (0, .ref sb)]) F dL_law_224  (by decide) rfl rfl ?_
      refine v_aload_n (pc' := 227) F dL_law_226 rfl (j := 3) rfl rfl ?_
      refine v_aload_n (pc' := 228) F dL_law_227 rfl (j := 5) rfl rfl ?_
      refine v_iload (pc' := 230) F dL_law_228  (j := 1) rfl rfl ?_
      refine v_iconst (pc' := 231) (v := nI 1) F dL_law_230 (by decide) rfl ?_
      refine v_iadd (pc' := 232) (v := nI (i + 1)) F dL_law_231 (nI_add i 1) rfl ?_
      refine w_sld (pc' := 233) (j := i + 1) F hSc (by omega) (by omega) hw1 dL_law_232 rfl ?_
      refine v_callV (pc' := 236) (rt := (some .int)) (mcc := 0) (msc := 0) (As := [.int (nI k7)]) (st := []) F (fun l => d_X7_load G z0 l hMS2 hnow2 hu hasd2 htext2 (fun j hj => ⟨hT2 j hj, (hft j hj).2⟩) hb5 (by omega)) gL_law_X7_load rfl hv_X7_load (by decide) (by decide) hm2 rfl rfl rfl (Nat.le_of_ble_eq_true rfl) (by omega) (by omega) dL_law_233 rfl (fun v5 h4 hqm => ?_)
      rw [hpa] at hqm
      simp only at hqm
      obtain ⟨⟨rfl, ln9, sp9, fa9, nu8, fr9, my9, RN, hMS3, wf3, hSN, hON⟩, ⟨A9, ha3⟩, fQ⟩ := hqm
      obtain ⟨hC3, ho3⟩ := LI.m2 hC2 hM2 hAP hgo (sub_l9 m rows asd vals many way told oth lst text) fQ
      have ht3 := mS.atL hMS2 hasd2 htext2 fQ
      obtain ⟨_, _, _, _, _, _, hm3, -⟩ := id hMS3
      refine v_istore (pc' := 238) (i := 6) (L' := [(6, .int (nI q.2.1)), (5, .int (nI 0)), (4, .int (nI i)), (3, .ref out), (2, .ref m), (1, .ref x), (0, .ref sb)]) F dL_law_236  (by decide) rfl rfl ?_
      refine v_aload_n (pc' := 239) F dL_law_238 rfl (j := 4) rfl rfl ?_
      refine v_callV (pc' := 242) (rt := (some .int)) (mcc := 0) (msc := 0) (As := []) (st := []) F (fun l => c_X7_thrown G z0 l hm3) gL_law_X7_thrown rfl hv_X7_thrown (by decide) (by decide) hm3 rfl rfl rfl (Nat.le_of_ble_eq_true rfl) (by omega) (by omega) dL_law_239 rfl (fun v6 h4 hqt => ?_)
      obtain ⟨rfl, rfl⟩ := hqt
      refine v_iload (pc' := 244) F dL_law_242  (j := 1) rfl rfl ?_
      refine w_icmp_eq (tgt := 249) (pc' := 247) F (by omega) (by omega) dL_law_244 (by decide) rfl (fun _ => ?_) (fun c0 => absurd c0 (by omega))
      refine v_iload (pc' := 251) F dL_law_249  (j := 1) rfl rfl ?_
      refine w_if_ne (tgt := 266) (pc' := 254) F (by omega) dL_law_251 (by decide) rfl (fun c0 => absurd c0 (by omega)) (fun _ => ?_)
      refine v_aload_n (pc' := 255) F dL_law_254 rfl (j := 3) rfl rfl ?_
      refine v_iconst (pc' := 256) (v := nI 0) F dL_law_255 (by decide) rfl ?_
      refine w_lald (pc' := 257) (v := (nI q.2.1).toInt64) F ho3 (by omega) (by omega) hg0 dL_law_256 rfl ?_
      refine v_iload (pc' := 259) F dL_law_257  (j := 0) rfl rfl ?_
      refine v_i2l (pc' := 260) (v := (nI q.2.1).toInt64) F dL_law_259 rfl rfl ?_
      refine v_lcmp (pc' := 261) F dL_law_260 rfl ?_
      refine v_if_eq (tgt := 266) (pc' := 264) F dL_law_261 (by decide) rfl (fun _ => ?_) (fun c0 => absurd (lg_self _) c0)
      refine v_goto (tgt := 1252) F dL_law_266 (by decide) ?_
      refine v_sub (L' := [(4, .int (nI i)), (3, .ref out), (2, .ref m), (1, .ref x), (0, .ref sb)]) [2, 3, 4, 5, 6] rfl ?_
      exact K _ _ _ (by omega) (by omega) ⟨t, 0, _, _, _, ((now + 1) % 9), _, g9, hC3, ⟨_, ln9, sp9, fa9, nu8, fr9, my9, RN, A9, T2, hMS3, Nat.mod_lt _ (by omega), ha3, ht3, fun j hj => absurd hj (Nat.not_lt_zero j), sl_chg hnow2 (fun i hi => (hDs i hi).1) hsl2 hSN hON⟩, hAP, ho3⟩
  · obtain ⟨he, rfl, hno⟩ := hx1
    replace he := he.symm
    subst he
    have hkc : kc = 1 := by rw [← hec]; decide
    subst hkc
    obtain ⟨th2, len2, spot2, fa2, num2, frm2, may2, R2, A2, T2, hMS2, hnow2, hasd2, htext2, hT2, hsl2⟩ := id hMI
    have hS2 : slD R2 (330 * now) (Ds 0) := by have h0 := hsl2 0 (Nat.zero_le _); rwa [show (now + 9 - 0) % 9 = now by omega] at h0
    obtain ⟨_, _, _, _, _, _, hm2, -⟩ := id hMS2
    refine v_istore (pc' := 226) (i := 5) (L' := [(5, .int (nI 1)), (4, .int (nI i)), (3, .ref out), (2, .ref m), (1, .ref x), (0, .ref sb)]) F dL_law_224  (by decide) rfl rfl ?_
    refine v_aload_n (pc' := 227) F dL_law_226 rfl (j := 3) rfl rfl ?_
    refine v_aload_n (pc' := 228) F dL_law_227 rfl (j := 5) rfl rfl ?_
    refine v_iload (pc' := 230) F dL_law_228  (j := 1) rfl rfl ?_
    refine v_iconst (pc' := 231) (v := nI 1) F dL_law_230 (by decide) rfl ?_
    refine v_iadd (pc' := 232) (v := nI (i + 1)) F dL_law_231 (nI_add i 1) rfl ?_
    refine w_sld (pc' := 233) (j := i + 1) F hSc (by omega) (by omega) hw1 dL_law_232 rfl ?_
    refine v_callV (pc' := 236) (rt := (some .int)) (mcc := 0) (msc := 0) (As := [.int w1]) (st := []) F (fun l => o1_X7_load G z0 l hMS2 hnow2 hu hasd2 htext2 (fun j hj => ⟨hT2 j hj, (hft j hj).2⟩) hb5 w1 hno) gL_law_X7_load rfl hv_X7_load (by decide) (by decide) hm2 rfl rfl rfl (Nat.le_of_ble_eq_true rfl) (by omega) (by omega) dL_law_233 rfl (fun v8 h7 hqm => ?_)
    obtain ⟨⟨y9, rfl⟩, hMS3, fQ⟩ := hqm
    obtain ⟨hC3, ho3⟩ := LI.m hCI hMI hAP ho (sub_q m rows asd vals many way told oth lst text) fQ
    obtain ⟨ha3, ht3⟩ := mS.at hMS2 hasd2 htext2 fQ
    obtain ⟨_, _, _, _, _, _, hm3, -⟩ := id hMS3
    refine v_istore (pc' := 238) (i := 6) (L' := [(6, .int y9), (5, .int (nI 1)), (4, .int (nI i)), (3, .ref out), (2, .ref m), (1, .ref x), (0, .ref sb)]) F dL_law_236  (by decide) rfl rfl ?_
    refine v_aload_n (pc' := 239) F dL_law_238 rfl (j := 4) rfl rfl ?_
    refine v_callV (pc' := 242) (rt := (some .int)) (mcc := 0) (msc := 0) (As := []) (st := []) F (fun l => c_X7_thrown G z0 l hm3) gL_law_X7_thrown rfl hv_X7_thrown (by decide) (by decide) hm3 rfl rfl rfl (Nat.le_of_ble_eq_true rfl) (by omega) (by omega) dL_law_239 rfl (fun v9 h7 hqt => ?_)
    obtain ⟨rfl, rfl⟩ := hqt
    refine v_iload (pc' := 244) F dL_law_242  (j := 1) rfl rfl ?_
    refine w_icmp_eq (tgt := 249) (pc' := 247) F (by omega) (by omega) dL_law_244 (by decide) rfl (fun _ => ?_) (fun c0 => absurd c0 (by omega))
    refine v_iload (pc' := 251) F dL_law_249  (j := 1) rfl rfl ?_
    refine w_if_ne (tgt := 266) (pc' := 254) F (by omega) dL_law_251 (by decide) rfl (fun _ => ?_) (fun c0 => absurd c0 (by omega))
    refine v_goto (tgt := 1252) F dL_law_266 (by decide) ?_
    refine v_sub (L' := [(4, .int (nI i)), (3, .ref out), (2, .ref m), (1, .ref x), (0, .ref sb)]) [2, 3, 4, 5, 6] rfl ?_
    exact K _ _ _ (by omega) (by omega) ⟨t, bl, off, cur, und, now, Ds, g, hC3.more, ⟨_, len2, spot2, fa2, num2, frm2, may2, R2, A2, T2, hMS3, hnow2, ha3, ht3, hT2, hsl2⟩, hAP, ho3⟩
