theorem hv_X7_begins : yX7_begins.cls = RX7 ∧ yX7_begins.cls ≠ "java/lang/invoke/MethodHandle" ∧ yX7_begins.cls ≠ "java/lang/invoke/VarHandle" ∧ (parseMethodDescriptor yX7_begins.desc).map (fun d => d.parameters.length) = some 0 := by decide +kernel
theorem m_X7_readsText_f180 : Cond.fieldLink RX7 180 "SteadyQueuesModel" "mayPace" "Z" ∈ wsX7_readsText := by decide +kernel
set_option maxHeartbeats 4000000 in
set_option maxRecDepth 100000 in
theorem c_X7_readsText (G : gG) (z0 : Nat) (l : Launch) {h : gH} {m rows asd vals many way told oth lst text now : Nat} {th und fed fat num frm may : Int32} {R : Nat → Int32} {T : Nat → Int32} {t : Nat → Nat} {ln : Nat} (hMS : mS G h m rows asd vals many way told oth lst text th now und fed (nI ln) (nI 0) (nI 0) fat num frm may R) (hnow : now < 9) (htext : h text = some (oI G 500 T)) (ht : ∀ j, j < ln → T j = nI (t j) ∧ t j < 256) (hln : ln ≤ 500) : gC G z0 l yX7_readsText wsX7_readsText 7 153 [.ref m] h (fun v h' => reT G h' m rows asd vals many way told oth lst text th now und fed fat R ln (pAll t ln) v ∧ gfr [rows, m, vals, many, way, told, oth, lst] h h') 0 0 := by
  have hsb := sk_b t (Nat.zero_le ln)
  obtain ⟨fl, rl, kd, ok, st, wm, hm, hrows, ⟨V, hvals⟩, ⟨M, hmany⟩, ⟨W, hway⟩, ⟨f, htold⟩, ⟨g, hoth⟩, ⟨ll, hlst⟩, htw, how, hto⟩ := hMS
  refine gC_of (cc := cX7_readsText) (nL := 3) (ret := (some .boolean)) (by decide) rfl (Nat.le_of_ble_eq_true rfl) ?_
  intro X F E _
  change gF G z0 X cX7_readsText 3 RX7 wsX7_readsText (some .boolean) "readsText" 7 153 _ _ at F
  show gV G z0 X 0 0 h 0 [(0, .ref m)] []
  refine v_aload_n (pc' := 1) F dX7_readsText_0 rfl (j := 0) rfl rfl ?_
  refine v_ldcS (pc' := 3) (i := 0) (tx := "queue") F (by decide) dX7_readsText_1 rfl ?_
  by_cases hk4 : kdT t ln (sk t ln 0) = 4
  · skip
    refine v_callV (pc' := 6) (rt := (some .boolean)) (mcc := 0) (msc := 0) (As := [.ref (G.2.2 0)]) (st := []) F (fun l => y_X7_passes G z0 l (a := 0) (i := 0) hm htext ht hln (by omega) (by omega) hk4) gX7_readsText_X7_passes rfl hv_X7_passes (by decide) (by decide) hm rfl rfl rfl (Nat.le_of_ble_eq_true rfl) (by omega) (by omega) dX7_readsText_3 rfl (fun v2 h1 hqp => ?_)
    obtain ⟨rfl, hmP, frP⟩ := hqp
    refine w_if_ne (tgt := 20) (pc' := 9) F (by omega) dX7_readsText_6 (by decide) rfl (fun _ => ?_) (fun c0 => absurd c0 (by omega))
    refine v_aload_n (pc' := 21) F dX7_readsText_20 rfl (j := 0) rfl rfl ?_
    have heb := enT_b t hsb.2
    have hsb1 := sk_b t (show (enT t ln (sk t ln 0)) ≤ ln by omega)
    have g3 := frP _ _ (gnc (Ne.symm (g_neA hm hrows)) gn0) hrows
    refine v_callV (pc' := 24) (rt := none) (mcc := 0) (msc := 0) (As := []) (st := []) F (fun l => c_X7_begins G z0 l hmP g3 hnow) gX7_readsText_X7_begins rfl hv_X7_begins (by decide) (by decide) hmP rfl rfl rfl (Nat.le_of_ble_eq_true rfl) (by omega) (by omega) dX7_readsText_21 rfl (fun v5 h4 hqb => ?_)
    obtain ⟨rfl, RB, hrB, hSB, hoB, frB⟩ := hqb
    refine v_aload_n (pc' := 25) F dX7_readsText_24 rfl (j := 0) rfl rfl ?_
    refine v_iconst (pc' := 26) (v := nI 1) F dX7_readsText_25 (by decide) rfl ?_
    have g6 := frB _ _ (gnc (g_neA hmP g3) gn0) hmP
    refine w_putf (pc' := 29) F k_X7_readsText_7 tyX7_ok nmX7 g6 25 (by decide) m_X7_readsText_f180 rfl  (by decide) rfl (show 25 < 26 by decide) [.int th, .ref rows, .ref asd, .int (nI now), .int und, .ref vals, .ref many, .int fl, .int rl, .int kd, .int ok, .int st, .ref way, .int wm, .ref told, .ref oth, .ref lst, .ref text, .int fed, .int (nI ln), .int (nI (enT t ln (sk t ln 0))), .int (nI 0), .int fat, .int num, .int frm, .int (nI 1)] rfl dX7_readsText_26 rfl (fun h7 a8 f9 => ?_)
    refine v_aload_n (pc' := 30) F dX7_readsText_29 rfl (j := 0) rfl rfl ?_
    refine v_bipush (pc' := 32) (v := nI 59) F dX7_readsText_30 (by decide) rfl ?_
    by_cases hk3 : kdT t ln (sk t ln (enT t ln (sk t ln 0))) = 3
    · skip
      have g10 := frP _ _ (gnc (Ne.symm (g_neA hm htext)) gn0) htext
      have g11 := frB _ _ (gnc (g_neL g10 g3 (by decide)) gn0) g10
      have g12 := f9 _ _ (gnc (Ne.symm (g_neA g6 g11)) gn0) g11
      refine v_callV (pc' := 35) (rt := (some .boolean)) (mcc := 0) (msc := 0) (As := [.int (nI 59)]) (st := []) F (fun l => c_X7_sign G z0 l (a := (enT t ln (sk t ln 0))) a8 g12 ht hln (by omega) hk3) gX7_readsText_X7_sign rfl hv_X7_sign (by decide) (by decide) a8 rfl rfl rfl (Nat.le_of_ble_eq_true rfl) (by omega) (by omega) dX7_readsText_32 rfl (fun v14 h13 hqs => ?_)
      obtain ⟨rfl, hmS, frS⟩ := hqs
      refine w_if_ne (tgt := 40) (pc' := 38) F (by omega) dX7_readsText_35 (by decide) rfl (fun _ => ?_) (fun c0 => absurd c0 (by omega))
      have fr15 : gfr [rows, m, vals, many, way, told, oth, lst] h h13 := (gfr.t (gfr.mono frP (by intro q9 z9 m9; apply z9; simp only [List.mem_cons, List.not_mem_nil, or_false] at m9 ⊢; omega)) (gfr.t (gfr.mono frB (by intro q9 z9 m9; apply z9; simp only [List.mem_cons, List.not_mem_nil, or_false] at m9 ⊢; omega)) (gfr.t (gfr.mono f9 (by intro q9 z9 m9; apply z9; simp only [List.mem_cons, List.not_mem_nil, or_false] at m9 ⊢; omega)) (gfr.mono frS (by intro q9 z9 m9; apply z9; simp only [List.mem_cons, List.not_mem_nil, or_false] at m9 ⊢; omega)))))
      have g16 := f9 _ _ (gnc (Ne.symm (g_neA g6 hrB)) gn0) hrB
      have g17 := frS _ _ (gnc (Ne.symm (g_neA a8 g16)) gn0) g16
      have g18 := frP _ _ (gnc (Ne.symm (g_neA hm hvals)) gn0) hvals
      have g19 := frB _ _ (gnc (g_neL g18 g3 (by decide)) gn0) g18
      have g20 := f9 _ _ (gnc (Ne.symm (g_neA g6 g19)) gn0) g19
      have g21 := frS _ _ (gnc (Ne.symm (g_neA a8 g20)) gn0) g20
      have g22 := frP _ _ (gnc (Ne.symm (g_neA hm hmany)) gn0) hmany
      have g23 := frB _ _ (gnc (g_neL g22 g3 (by decide)) gn0) g22
      have g24 := f9 _ _ (gnc (Ne.symm (g_neA g6 g23)) gn0) g23
      have g25 := frS _ _ (gnc (Ne.symm (g_neA a8 g24)) gn0) g24
      have g26 := frP _ _ (gnc (Ne.symm (g_neA hm hway)) gn0) hway
      have g27 := frB _ _ (gnc (g_neL g26 g3 (by decide)) gn0) g26
      have g28 := f9 _ _ (gnc (Ne.symm (g_neA g6 g27)) gn0) g27
      have g29 := frS _ _ (gnc (Ne.symm (g_neA a8 g28)) gn0) g28
      have g30 := frP _ _ (gnc (Ne.symm (g_neA hm htold)) gn0) htold
      have g31 := frB _ _ (gnc (g_neL g30 g3 (by decide)) gn0) g30
      have g32 := f9 _ _ (gnc (Ne.symm (g_neA g6 g31)) gn0) g31
      have g33 := frS _ _ (gnc (Ne.symm (g_neA a8 g32)) gn0) g32
      have g34 := frP _ _ (gnc (Ne.symm (g_neA hm hoth)) gn0) hoth
      have g35 := frB _ _ (gnc (g_neL g34 g3 (by decide)) gn0) g34
      have g36 := f9 _ _ (gnc (Ne.symm (g_neA g6 g35)) gn0) g35
      have g37 := frS _ _ (gnc (Ne.symm (g_neA a8 g36)) gn0) g36
      have g38 := frP _ _ (gnc (Ne.symm (g_neA hm hlst)) gn0) hlst
      have g39 := frB _ _ (gnc (g_neL g38 g3 (by decide)) gn0) g38
      have g40 := f9 _ _ (gnc (Ne.symm (g_neA g6 g39)) gn0) g39
      have g41 := frS _ _ (gnc (Ne.symm (g_neA a8 g40)) gn0) g40
      have g42 := frS _ _ (gnc (Ne.symm (g_neA a8 g12)) gn0) g12
      have hlt3 := ((kdI3 t ln (sk t ln (enT t ln (sk t ln 0)))).mp hk3).1
      have hnx : sk t ln ((sk t ln (enT t ln (sk t ln 0))) + 1) = nxT t ln (sk t ln (enT t ln (sk t ln 0))) := by unfold nxT; rw [en3 hk3]
      exact lp_X7_readsText (l := l) (fuel := ln) (mp := true) (D := D0) (R := RB) (a := (sk t ln (enT t ln (sk t ln 0))) + 1) F E (by omega) (by omega) hnow ht hln ⟨_, _, _, _, _, _, hmS, g17, ⟨_, g21⟩, ⟨_, g25⟩, ⟨_, g29⟩, ⟨_, g33⟩, ⟨_, g37⟩, ⟨_, g41⟩, htw, how, hto⟩ wfD.d0 hSB g42 (by omega) (by omega) (fun v9 h9 n1 n2 => ⟨reT_out hoB (by rw [pAll, if_neg (fun zi => zi hk4), if_neg (show ¬ kdT t ln (nxT t ln (sk t ln 0)) ≠ 3 from fun zi => zi hk3)]; rw [hnx] at n1; exact n1), gfr.t fr15 n2⟩)
    · skip
      have g43 := frP _ _ (gnc (Ne.symm (g_neA hm htext)) gn0) htext
      have g44 := frB _ _ (gnc (g_neL g43 g3 (by decide)) gn0) g43
      have g45 := f9 _ _ (gnc (Ne.symm (g_neA g6 g44)) gn0) g44
      refine v_callV (pc' := 35) (rt := (some .boolean)) (mcc := 0) (msc := 0) (As := [.int (nI 59)]) (st := []) F (fun l => n_X7_sign G z0 l (a := (enT t ln (sk t ln 0))) a8 g45 ht hln (by omega) hk3) gX7_readsText_X7_sign rfl hv_X7_sign (by decide) (by decide) a8 rfl rfl rfl (Nat.le_of_ble_eq_true rfl) (by omega) (by omega) dX7_readsText_32 rfl (fun v47 h46 hqs => ?_)
      obtain ⟨rfl, hmS, frS⟩ := hqs
      refine w_if_ne (tgt := 40) (pc' := 38) F (by omega) dX7_readsText_35 (by decide) rfl (fun c0 => absurd c0 (by omega)) (fun _ => ?_)
      refine v_iconst (pc' := 39) (v := nI 0) F dX7_readsText_38 (by decide) rfl ?_
      have fr48 : gfr [rows, m, vals, many, way, told, oth, lst] h h46 := (gfr.t (gfr.mono frP (by intro q9 z9 m9; apply z9; simp only [List.mem_cons, List.not_mem_nil, or_false] at m9 ⊢; omega)) (gfr.t (gfr.mono frB (by intro q9 z9 m9; apply z9; simp only [List.mem_cons, List.not_mem_nil, or_false] at m9 ⊢; omega)) (gfr.t (gfr.mono f9 (by intro q9 z9 m9; apply z9; simp only [List.mem_cons, List.not_mem_nil, or_false] at m9 ⊢; omega)) (gfr.mono frS (by intro q9 z9 m9; apply z9; simp only [List.mem_cons, List.not_mem_nil, or_false] at m9 ⊢; omega)))))
      have g49 := f9 _ _ (gnc (Ne.symm (g_neA g6 hrB)) gn0) hrB
      have g50 := frS _ _ (gnc (Ne.symm (g_neA a8 g49)) gn0) g49
      have g51 := frP _ _ (gnc (Ne.symm (g_neA hm hvals)) gn0) hvals
      have g52 := frB _ _ (gnc (g_neL g51 g3 (by decide)) gn0) g51
      have g53 := f9 _ _ (gnc (Ne.symm (g_neA g6 g52)) gn0) g52
      have g54 := frS _ _ (gnc (Ne.symm (g_neA a8 g53)) gn0) g53
      have g55 := frP _ _ (gnc (Ne.symm (g_neA hm hmany)) gn0) hmany
      have g56 := frB _ _ (gnc (g_neL g55 g3 (by decide)) gn0) g55
      have g57 := f9 _ _ (gnc (Ne.symm (g_neA g6 g56)) gn0) g56
      have g58 := frS _ _ (gnc (Ne.symm (g_neA a8 g57)) gn0) g57
      have g59 := frP _ _ (gnc (Ne.symm (g_neA hm hway)) gn0) hway
      have g60 := frB _ _ (gnc (g_neL g59 g3 (by decide)) gn0) g59
      have g61 := f9 _ _ (gnc (Ne.symm (g_neA g6 g60)) gn0) g60
      have g62 := frS _ _ (gnc (Ne.symm (g_neA a8 g61)) gn0) g61
      have g63 := frP _ _ (gnc (Ne.symm (g_neA hm htold)) gn0) htold
      have g64 := frB _ _ (gnc (g_neL g63 g3 (by decide)) gn0) g63
      have g65 := f9 _ _ (gnc (Ne.symm (g_neA g6 g64)) gn0) g64
      have g66 := frS _ _ (gnc (Ne.symm (g_neA a8 g65)) gn0) g65
      have g67 := frP _ _ (gnc (Ne.symm (g_neA hm hoth)) gn0) hoth
      have g68 := frB _ _ (gnc (g_neL g67 g3 (by decide)) gn0) g67
      have g69 := f9 _ _ (gnc (Ne.symm (g_neA g6 g68)) gn0) g68
      have g70 := frS _ _ (gnc (Ne.symm (g_neA a8 g69)) gn0) g69
      have g71 := frP _ _ (gnc (Ne.symm (g_neA hm hlst)) gn0) hlst
      have g72 := frB _ _ (gnc (g_neL g71 g3 (by decide)) gn0) g71
      have g73 := f9 _ _ (gnc (Ne.symm (g_neA g6 g72)) gn0) g72
      have g74 := frS _ _ (gnc (Ne.symm (g_neA a8 g73)) gn0) g73
      refine v_zret F E (by omega) (by omega) (by decide) dX7_readsText_39 ?_
      exact ⟨by rw [pAll, if_neg (fun zi => zi hk4), if_pos (show kdT t ln (nxT t ln (sk t ln 0)) ≠ 3 from hk3)]; exact reT_e (R2 := RB) rfl ⟨_, _, _, _, _, _, hmS, g50, ⟨_, g54⟩, ⟨_, g58⟩, ⟨_, g62⟩, ⟨_, g66⟩, ⟨_, g70⟩, ⟨_, g74⟩, htw, how, hto⟩ hoB, fr48⟩
  · skip
    refine v_callV (pc' := 6) (rt := (some .boolean)) (mcc := 0) (msc := 0) (As := [.ref (G.2.2 0)]) (st := []) F (fun l => n_X7_passes G z0 l (a := 0) (i := 0) hm htext ht hln (by omega) (by omega) hk4) gX7_readsText_X7_passes rfl hv_X7_passes (by decide) (by decide) hm rfl rfl rfl (Nat.le_of_ble_eq_true rfl) (by omega) (by omega) dX7_readsText_3 rfl (fun v76 h75 hqp => ?_)
    obtain ⟨rfl, hmP, frP⟩ := hqp
    refine w_if_ne (tgt := 20) (pc' := 9) F (by omega) dX7_readsText_6 (by decide) rfl (fun c0 => absurd c0 (by omega)) (fun _ => ?_)
    refine v_aload_n (pc' := 10) F dX7_readsText_9 rfl (j := 0) rfl rfl ?_
    refine v_bipush (pc' := 12) (v := (-2)) F dX7_readsText_10 (by decide) rfl ?_
    refine v_aload_n (pc' := 13) F dX7_readsText_12 rfl (j := 0) rfl rfl ?_
    refine v_getf (pc' := 16) (v := .int (nI (sk t ln 0))) F k_X7_readsText_7 hmP 20 (by decide) m_X7_readsText_f146 rfl dX7_readsText_13 rfl ?_
    refine v_callV (pc' := 19) (rt := (some .boolean)) (mcc := 0) (msc := 0) (As := [.int (-2), .int (nI (sk t ln 0))]) (st := []) F (fun l => c_X7_fails G z0 l (-2) (nI (sk t ln 0)) hmP) gX7_readsText_X7_fails rfl hv_X7_fails (by decide) (by decide) hmP rfl rfl rfl (Nat.le_of_ble_eq_true rfl) (by omega) (by omega) dX7_readsText_16 rfl (fun v78 h77 hqf => ?_)
    obtain ⟨rfl, hmF, frF⟩ := hqf
    have fr79 : gfr [rows, m, vals, many, way, told, oth, lst] h h77 := (gfr.t (gfr.mono frP (by intro q9 z9 m9; apply z9; simp only [List.mem_cons, List.not_mem_nil, or_false] at m9 ⊢; omega)) (gfr.mono frF (by intro q9 z9 m9; apply z9; simp only [List.mem_cons, List.not_mem_nil, or_false] at m9 ⊢; omega)))
    have g80 := frP _ _ (gnc (Ne.symm (g_neA hm hrows)) gn0) hrows
    have g81 := frF _ _ (gnc (Ne.symm (g_neA hmP g80)) gn0) g80
    have g82 := frP _ _ (gnc (Ne.symm (g_neA hm hvals)) gn0) hvals
    have g83 := frF _ _ (gnc (Ne.symm (g_neA hmP g82)) gn0) g82
    have g84 := frP _ _ (gnc (Ne.symm (g_neA hm hmany)) gn0) hmany
    have g85 := frF _ _ (gnc (Ne.symm (g_neA hmP g84)) gn0) g84
    have g86 := frP _ _ (gnc (Ne.symm (g_neA hm hway)) gn0) hway
    have g87 := frF _ _ (gnc (Ne.symm (g_neA hmP g86)) gn0) g86
    have g88 := frP _ _ (gnc (Ne.symm (g_neA hm htold)) gn0) htold
    have g89 := frF _ _ (gnc (Ne.symm (g_neA hmP g88)) gn0) g88
    have g90 := frP _ _ (gnc (Ne.symm (g_neA hm hoth)) gn0) hoth
    have g91 := frF _ _ (gnc (Ne.symm (g_neA hmP g90)) gn0) g90
    have g92 := frP _ _ (gnc (Ne.symm (g_neA hm hlst)) gn0) hlst
    have g93 := frF _ _ (gnc (Ne.symm (g_neA hmP g92)) gn0) g92
    refine v_zret F E (by omega) (by omega) (by decide) dX7_readsText_19 ?_
    exact ⟨by rw [pAll, if_pos hk4]; exact reT_e (R2 := R) rfl ⟨_, _, _, _, _, _, hmF, g81, ⟨_, g83⟩, ⟨_, g85⟩, ⟨_, g87⟩, ⟨_, g89⟩, ⟨_, g91⟩, ⟨_, g93⟩, htw, how, hto⟩ (fun q hq => rfl), fr79⟩
