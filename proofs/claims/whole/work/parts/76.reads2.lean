theorem m_X7_readsPush_f180 : Cond.fieldLink RX7 180 "SteadyQueuesModel" "mayPace" "Z" ∈ wsX7_readsPush := by decide +kernel
set_option maxHeartbeats 4000000 in
set_option maxRecDepth 100000 in
theorem c_X7_readsPush (G : gG) (z0 : Nat) (l : Launch) {h : gH} {m rows asd vals many way told oth lst text now : Nat} {th und fed fat num frm may : Int32} {R : Nat → Int32} {D : Dt} {T : Nat → Int32} {t : Nat → Nat} {a ln : Nat} (hMS : mS G h m rows asd vals many way told oth lst text th now und fed (nI ln) (nI a) (nI 0) fat num frm may R) (hnow : now < 9) (w9 : wfD D) (hS : slD R (330 * now) D) (htext : h text = some (oI G 500 T)) (ht : ∀ j, j < ln → T j = nI (t j) ∧ t j < 256) (hln : ln ≤ 500) (ha : a ≤ ln) : gC G z0 l yX7_readsPush wsX7_readsPush 6 131 [.ref m] h (fun v h' => rdT G h' m rows asd vals many way told oth lst text th now und fed fat R t ln a (match pNum t ln (sk t ln a) 0 (D.1 - 1) D.1 with | some e => .inl e | none => pPs t ln 64 true (vl t ln (sk t ln a)) (nxT t ln (sk t ln a)) D) v ∧ gfr [rows, m, vals, many, way, told, oth, lst] h h') 0 0 := by
  have hsb := sk_b t ha
  have h1n := w9.1
  have hn64 := w9.2.1
  obtain ⟨fl, rl, kd, ok, st, wm, hm, hrows, ⟨V, hvals⟩, ⟨M, hmany⟩, ⟨W, hway⟩, ⟨f, htold⟩, ⟨g, hoth⟩, ⟨ll, hlst⟩, htw, how, hto⟩ := hMS
  refine gC_of (cc := cX7_readsPush) (nL := 2) (ret := (some .boolean)) (by decide) rfl (Nat.le_of_ble_eq_true rfl) ?_
  intro X F E _
  change gF G z0 X cX7_readsPush 2 RX7 wsX7_readsPush (some .boolean) "readsPush" 6 131 _ _ at F
  show gV G z0 X 0 0 h 0 [(0, .ref m)] []
  refine v_aload_n (pc' := 1) F dX7_readsPush_0 rfl (j := 0) rfl rfl ?_
  refine v_iconst (pc' := 2) (v := nI 0) F dX7_readsPush_1 (by decide) rfl ?_
  refine w_putf (pc' := 5) F k_X7_readsPush_7 tyX7_ok nmX7 hm 25 (by decide) m_X7_readsPush_f180 rfl  (by decide) rfl (show 25 < 26 by decide) [.int th, .ref rows, .ref asd, .int (nI now), .int und, .ref vals, .ref many, .int fl, .int rl, .int kd, .int ok, .int st, .ref way, .int wm, .ref told, .ref oth, .ref lst, .ref text, .int fed, .int (nI ln), .int (nI a), .int (nI 0), .int fat, .int num, .int frm, .int (nI 0)] rfl dX7_readsPush_2 rfl (fun h1 a2 f3 => ?_)
  refine v_aload_n (pc' := 6) F dX7_readsPush_5 rfl (j := 0) rfl rfl ?_
  refine v_iconst (pc' := 7) (v := nI 0) F dX7_readsPush_6 (by decide) rfl ?_
  refine v_aload_n (pc' := 8) F dX7_readsPush_7 rfl (j := 0) rfl rfl ?_
  have g4 := f3 _ _ (gnc (Ne.symm (g_neA hm hrows)) gn0) hrows
  refine v_callV (pc' := 11) (rt := (some .int)) (mcc := 0) (msc := 0) (As := []) (st := [.int (nI 0), .ref m]) F (fun l => c_X7_versions G z0 l a2 g4 hnow hS.1) gX7_readsPush_X7_versions rfl hv_X7_versions (by decide) (by decide) a2 rfl rfl rfl (Nat.le_of_ble_eq_true rfl) (by omega) (by omega) dX7_readsPush_8 rfl (fun v5 h1 hqv => ?_)
  obtain ⟨rfl, rfl⟩ := hqv
  refine v_iconst (pc' := 12) (v := nI 1) F dX7_readsPush_11 (by decide) rfl ?_
  refine v_isub (pc' := 13) (v := nI (D.1 - 1)) F dX7_readsPush_12 (g_subn (by omega) (by omega)) rfl ?_
  by_cases hkA : kdT t ln (sk t ln a) = 2
  · skip
    by_cases hlA : 0 ≤ vl t ln (sk t ln a) ∧ vl t ln (sk t ln a) ≤ D.1 - 1
    · skip
      have g6 := f3 _ _ (gnc (Ne.symm (g_neA hm htext)) gn0) htext
      refine v_callV (pc' := 16) (rt := (some .boolean)) (mcc := 0) (msc := 0) (As := [.int (nI 0), .int (nI (D.1 - 1))]) (st := []) F (fun l => c_X7_reads G z0 l (a := a) (lo := 0) (hi := D.1 - 1) a2 g6 ht hln (by omega) (by omega) (by omega) hkA hlA) gX7_readsPush_X7_reads rfl hv_X7_reads (by decide) (by decide) a2 rfl rfl rfl (Nat.le_of_ble_eq_true rfl) (by omega) (by omega) dX7_readsPush_13 rfl (fun v8 h7 hqr => ?_)
      obtain ⟨rfl, hmA, frA⟩ := hqr
      refine w_if_ne (tgt := 21) (pc' := 19) F (by omega) dX7_readsPush_16 (by decide) rfl (fun _ => ?_) (fun c0 => absurd c0 (by omega))
      refine v_aload_n (pc' := 22) F dX7_readsPush_21 rfl (j := 0) rfl rfl ?_
      refine v_getf (pc' := 25) (v := .int (nI (vl t ln (sk t ln a)))) F k_X7_readsPush_7 hmA 23 (by decide) m_X7_readsPush_f176 rfl dX7_readsPush_22 rfl ?_
      refine v_istore_n (pc' := 26) (i := 1) (L' := [(1, .int (nI (vl t ln (sk t ln a)))), (0, .ref m)]) F dX7_readsPush_25 rfl (by decide) rfl rfl ?_
      have heb := enT_b t hsb.2
      refine v_sub (L' := [(1, .int (nI (vl t ln (sk t ln a)))), (0, .ref m)]) [0, 1] rfl ?_
      have fr9 : gfr [rows, m, vals, many, way, told, oth, lst] h h7 := (gfr.t (gfr.mono f3 (by intro q9 z9 m9; apply z9; simp only [List.mem_cons, List.not_mem_nil, or_false] at m9 ⊢; omega)) (gfr.mono frA (by intro q9 z9 m9; apply z9; simp only [List.mem_cons, List.not_mem_nil, or_false] at m9 ⊢; omega)))
      have g10 := frA _ _ (gnc (Ne.symm (g_neA a2 g4)) gn0) g4
      have g11 := f3 _ _ (gnc (Ne.symm (g_neA hm hvals)) gn0) hvals
      have g12 := frA _ _ (gnc (Ne.symm (g_neA a2 g11)) gn0) g11
      have g13 := f3 _ _ (gnc (Ne.symm (g_neA hm hmany)) gn0) hmany
      have g14 := frA _ _ (gnc (Ne.symm (g_neA a2 g13)) gn0) g13
      have g15 := f3 _ _ (gnc (Ne.symm (g_neA hm hway)) gn0) hway
      have g16 := frA _ _ (gnc (Ne.symm (g_neA a2 g15)) gn0) g15
      have g17 := f3 _ _ (gnc (Ne.symm (g_neA hm htold)) gn0) htold
      have g18 := frA _ _ (gnc (Ne.symm (g_neA a2 g17)) gn0) g17
      have g19 := f3 _ _ (gnc (Ne.symm (g_neA hm hoth)) gn0) hoth
      have g20 := frA _ _ (gnc (Ne.symm (g_neA a2 g19)) gn0) g19
      have g21 := f3 _ _ (gnc (Ne.symm (g_neA hm hlst)) gn0) hlst
      have g22 := frA _ _ (gnc (Ne.symm (g_neA a2 g21)) gn0) g21
      have g23 := frA _ _ (gnc (Ne.symm (g_neA a2 g6)) gn0) g6
      refine lp_X7_readsPush (l := l) (r := 64) (v := vl t ln (sk t ln a)) (a := enT t ln (sk t ln a)) (lo9 := a) F E (by omega) (by omega) hnow ht hln ⟨_, _, _, _, _, _, hmA, g10, ⟨_, g12⟩, ⟨_, g14⟩, ⟨_, g16⟩, ⟨_, g18⟩, ⟨_, g20⟩, ⟨_, g22⟩, htw, how, hto⟩ w9 hS g23 (by omega) (by omega) (by omega) (by omega) (fun v9 hA a1 a2 => ⟨?_, gfr.t fr9 a2⟩)
      rw [pNum_0 hkA hlA]
      exact a1
    · skip
      have g24 := f3 _ _ (gnc (Ne.symm (g_neA hm htext)) gn0) htext
      refine v_callV (pc' := 16) (rt := (some .boolean)) (mcc := 0) (msc := 0) (As := [.int (nI 0), .int (nI (D.1 - 1))]) (st := []) F (fun l => n3_X7_reads G z0 l (a := a) (lo := 0) (hi := D.1 - 1) a2 g24 ht hln (by omega) (by omega) (by omega) hkA hlA) gX7_readsPush_X7_reads rfl hv_X7_reads (by decide) (by decide) a2 rfl rfl rfl (Nat.le_of_ble_eq_true rfl) (by omega) (by omega) dX7_readsPush_13 rfl (fun v26 h25 hqr => ?_)
      obtain ⟨rfl, sp9, nu9, fr9, hmA, frA⟩ := hqr
      refine w_if_ne (tgt := 21) (pc' := 19) F (by omega) dX7_readsPush_16 (by decide) rfl (fun c0 => absurd c0 (by omega)) (fun _ => ?_)
      refine v_iconst (pc' := 20) (v := nI 0) F dX7_readsPush_19 (by decide) rfl ?_
      have fr27 : gfr [rows, m, vals, many, way, told, oth, lst] h h25 := (gfr.t (gfr.mono f3 (by intro q9 z9 m9; apply z9; simp only [List.mem_cons, List.not_mem_nil, or_false] at m9 ⊢; omega)) (gfr.mono frA (by intro q9 z9 m9; apply z9; simp only [List.mem_cons, List.not_mem_nil, or_false] at m9 ⊢; omega)))
      have g28 := frA _ _ (gnc (Ne.symm (g_neA a2 g4)) gn0) g4
      have g29 := f3 _ _ (gnc (Ne.symm (g_neA hm hvals)) gn0) hvals
      have g30 := frA _ _ (gnc (Ne.symm (g_neA a2 g29)) gn0) g29
      have g31 := f3 _ _ (gnc (Ne.symm (g_neA hm hmany)) gn0) hmany
      have g32 := frA _ _ (gnc (Ne.symm (g_neA a2 g31)) gn0) g31
      have g33 := f3 _ _ (gnc (Ne.symm (g_neA hm hway)) gn0) hway
      have g34 := frA _ _ (gnc (Ne.symm (g_neA a2 g33)) gn0) g33
      have g35 := f3 _ _ (gnc (Ne.symm (g_neA hm htold)) gn0) htold
      have g36 := frA _ _ (gnc (Ne.symm (g_neA a2 g35)) gn0) g35
      have g37 := f3 _ _ (gnc (Ne.symm (g_neA hm hoth)) gn0) hoth
      have g38 := frA _ _ (gnc (Ne.symm (g_neA a2 g37)) gn0) g37
      have g39 := f3 _ _ (gnc (Ne.symm (g_neA hm hlst)) gn0) hlst
      have g40 := frA _ _ (gnc (Ne.symm (g_neA a2 g39)) gn0) g39
      refine v_zret F E (by omega) (by omega) (by decide) dX7_readsPush_20 ?_
      exact ⟨by rw [pNum_3 hkA hlA]; exact (rdT_e (R2 := R) rfl ⟨_, _, _, _, _, _, hmA, g28, ⟨_, g30⟩, ⟨_, g32⟩, ⟨_, g34⟩, ⟨_, g36⟩, ⟨_, g38⟩, ⟨_, g40⟩, htw, how, hto⟩ fun q hq => rfl), fr27⟩
  · skip
    have g41 := f3 _ _ (gnc (Ne.symm (g_neA hm htext)) gn0) htext
    refine v_callV (pc' := 16) (rt := (some .boolean)) (mcc := 0) (msc := 0) (As := [.int (nI 0), .int (nI (D.1 - 1))]) (st := []) F (fun l => n2_X7_reads G z0 l (a := a) (lo := 0) (hi := D.1 - 1) a2 g41 ht hln (by omega) hkA) gX7_readsPush_X7_reads rfl hv_X7_reads (by decide) (by decide) a2 rfl rfl rfl (Nat.le_of_ble_eq_true rfl) (by omega) (by omega) dX7_readsPush_13 rfl (fun v43 h42 hqr => ?_)
    obtain ⟨rfl, sp9, nu9, fr9, hmA, frA⟩ := hqr
    refine w_if_ne (tgt := 21) (pc' := 19) F (by omega) dX7_readsPush_16 (by decide) rfl (fun c0 => absurd c0 (by omega)) (fun _ => ?_)
    refine v_iconst (pc' := 20) (v := nI 0) F dX7_readsPush_19 (by decide) rfl ?_
    have fr44 : gfr [rows, m, vals, many, way, told, oth, lst] h h42 := (gfr.t (gfr.mono f3 (by intro q9 z9 m9; apply z9; simp only [List.mem_cons, List.not_mem_nil, or_false] at m9 ⊢; omega)) (gfr.mono frA (by intro q9 z9 m9; apply z9; simp only [List.mem_cons, List.not_mem_nil, or_false] at m9 ⊢; omega)))
    have g45 := frA _ _ (gnc (Ne.symm (g_neA a2 g4)) gn0) g4
    have g46 := f3 _ _ (gnc (Ne.symm (g_neA hm hvals)) gn0) hvals
    have g47 := frA _ _ (gnc (Ne.symm (g_neA a2 g46)) gn0) g46
    have g48 := f3 _ _ (gnc (Ne.symm (g_neA hm hmany)) gn0) hmany
    have g49 := frA _ _ (gnc (Ne.symm (g_neA a2 g48)) gn0) g48
    have g50 := f3 _ _ (gnc (Ne.symm (g_neA hm hway)) gn0) hway
    have g51 := frA _ _ (gnc (Ne.symm (g_neA a2 g50)) gn0) g50
    have g52 := f3 _ _ (gnc (Ne.symm (g_neA hm htold)) gn0) htold
    have g53 := frA _ _ (gnc (Ne.symm (g_neA a2 g52)) gn0) g52
    have g54 := f3 _ _ (gnc (Ne.symm (g_neA hm hoth)) gn0) hoth
    have g55 := frA _ _ (gnc (Ne.symm (g_neA a2 g54)) gn0) g54
    have g56 := f3 _ _ (gnc (Ne.symm (g_neA hm hlst)) gn0) hlst
    have g57 := frA _ _ (gnc (Ne.symm (g_neA a2 g56)) gn0) g56
    refine v_zret F E (by omega) (by omega) (by decide) dX7_readsPush_20 ?_
    exact ⟨by rw [pNum_2 hkA]; exact (rdT_e (R2 := R) rfl ⟨_, _, _, _, _, _, hmA, g45, ⟨_, g47⟩, ⟨_, g49⟩, ⟨_, g51⟩, ⟨_, g53⟩, ⟨_, g55⟩, ⟨_, g57⟩, htw, how, hto⟩ fun q hq => rfl), fr44⟩
set_option maxHeartbeats 4000000 in
set_option maxRecDepth 100000 in
theorem lp_X7_readsPop {G : gG} {z0 : Nat} {X : gX} {l : Launch} {post : Option Value → gH → Prop} {mc ms cells slots k v : Nat} {h : gH} {m rows asd vals many way told oth lst text now : Nat} {th und fed len spot fa fat num frm may : Int32} {R : Nat → Int32} {D : Dt} (F : gF G z0 X cX7_readsPop 3 RX7 wsX7_readsPop (some .boolean) "readsPop" 6 131 mc ms) (E : gE G z0 X post mc ms) (hcc : cells ≤ mc) (hss : slots ≤ ms) (hnow : now < 9) (hMS : mS G h m rows asd vals many way told oth lst text th now und fed len spot fa fat num frm may R) (w9 : wfD D) (hS : slD R (330 * now) D) (hv : v < D.1) (hkl : k ≤ (wVals (D.2.2.2.2 v)).length) (hkn : D.1 + k ≤ 64) (hp : ∀ (h' : gH) (R' : Nat → Int32), mS G h' m rows asd vals many way told oth lst text th now und fed len spot fa fat num frm may R' → wfD (dPops k v D) → slD R' (330 * now) (dPops k v D) → (∀ q, (q < 330 * now ∨ 330 * now + 330 ≤ q) → R' q = R q) → gfr [rows, m, vals, many, way, told, oth, lst] h h' → post (some (.int (nI 1))) h') : gV G z0 X cells slots h 91 [(2, .int (nI k)), (1, .int (nI v)), (0, .ref m)] [] := by
  induction k generalizing v D R h with
  | zero =>
    refine v_iload_n (pc' := 92) F dX7_readsPop_91 rfl (j := 0) rfl rfl ?_
    refine w_if_le (tgt := 108) (pc' := 95) F (by omega) dX7_readsPop_92 (by decide) rfl (fun _ => ?_) (fun c0 => absurd c0 (by omega))
    refine v_iconst (pc' := 109) (v := nI 1) F dX7_readsPop_108 (by decide) rfl ?_
    refine v_zret F E (by omega) (by omega) (by decide) dX7_readsPop_109 ?_
    exact hp h R hMS w9 hS (fun q hq => rfl) gfr.rf
  | succ k ih =>
    have hMS0 := hMS
    obtain ⟨fl, rl, kd, ok, st, wm, hm, hrows, ⟨V, hvals⟩, ⟨M, hmany⟩, ⟨W, hway⟩, ⟨f, htold⟩, ⟨g, hoth⟩, ⟨ll, hlst⟩, htw, how, hto⟩ := hMS
    refine v_iload_n (pc' := 92) F dX7_readsPop_91 rfl (j := 0) rfl rfl ?_
    refine w_if_le (tgt := 108) (pc' := 95) F (by omega) dX7_readsPop_92 (by decide) rfl (fun c0 => absurd c0 (by omega)) (fun _ => ?_)
    refine v_aload_n (pc' := 96) F dX7_readsPop_95 rfl (j := 2) rfl rfl ?_
    refine v_iload_n (pc' := 97) F dX7_readsPop_96 rfl (j := 1) rfl rfl ?_
    refine v_iconst (pc' := 98) (v := (-1)) F dX7_readsPop_97 (by decide) rfl ?_
    have hn64 := w9.2.1
    have hne : wVals (D.2.2.2.2 v) ≠ [] := fun zi => by rw [zi] at hkl; exact absurd hkl (by simp)
    have hwk : wOk ((-1, D.2.1) :: D.2.2.2.2 v) := ⟨(w9.os hv).1, w9.2.2.1, w9.2.2.2.1, fun _ => hne, fun zi => absurd rfl zi⟩
    refine v_callV (pc' := 101) (rt := (some .int)) (mcc := 0) (msc := 0) (As := [.int (nI v), .int (-1)]) (st := []) F (fun l => c_X7_makes G z0 l (-1) hMS0 hnow w9 hS (by omega) hv hwk) gX7_readsPop_X7_makes rfl hv_X7_makes (by decide) (by decide) hm rfl rfl rfl (Nat.le_of_ble_eq_true rfl) (by omega) (by omega) dX7_readsPop_98 rfl (fun v2 h1 hqc => ?_)
    obtain ⟨rfl, R2, hMD, hSD, hoD, frD⟩ := hqc
    have wA := w9.add (by omega) hv hwk
    have hon : (dAdd D v (-1)).2.2.2.2 D.1 = (-1, D.2.1) :: D.2.2.2.2 v := by show va_up D.2.2.2.2 D.1 _ D.1 = _; unfold va_up; rw [if_pos rfl]
    have hwl : (wVals ((-1, D.2.1) :: D.2.2.2.2 v)).length + 1 = (wVals (D.2.2.2.2 v)).length := by show (if (-1 : Int32) = -1 then (wVals (D.2.2.2.2 v)).tail else _).length + 1 = _; rw [if_pos rfl, List.length_tail]; have := List.length_pos_iff.mpr hne; omega
    refine v_istore_n (pc' := 102) (i := 1) (L' := [(1, .int (nI D.1)), (2, .int (nI (k + 1))), (0, .ref m)]) F dX7_readsPop_101 rfl (by decide) rfl rfl ?_
    refine v_iinc (pc' := 105) (j := 1) (x := nI (k + 1)) (v := nI k) (L' := [(2, .int (nI k)), (1, .int (nI D.1)), (0, .ref m)]) F dX7_readsPop_102 rfl (g_dec (by omega)) (by decide) rfl rfl ?_
    refine v_goto (tgt := 91) F dX7_readsPop_105 (by decide) ?_
    refine v_sub (L' := [(2, .int (nI k)), (1, .int (nI D.1)), (0, .ref m)]) [0, 1, 2] rfl ?_
    exact ih (v := D.1) (D := dAdd D v (-1)) (R := R2) hMD wA hSD (show D.1 < D.1 + 1 by omega) (by rw [hon]; omega) (show D.1 + 1 + k ≤ 64 by omega) (fun hA RA a1 a2 a3 a4 a5 => hp hA RA a1 a2 a3 (fun q hq => by rw [a4 q hq, hoD q hq]) (gfr.t frD a5))
theorem k_X7_readsPop_7 : gCl wsX7_readsPop 7 RX7 TX7 26 := ⟨by decide +kernel, rfl⟩
theorem m_X7_readsPop_f180 : Cond.fieldLink RX7 180 "SteadyQueuesModel" "mayPace" "Z" ∈ wsX7_readsPop := by decide +kernel
theorem m_X7_readsPop_f176 : Cond.fieldLink RX7 176 "SteadyQueuesModel" "number" "I" ∈ wsX7_readsPop := by decide +kernel
theorem m_X7_readsPop_f173 : Cond.fieldLink RX7 173 "SteadyQueuesModel" "from" "I" ∈ wsX7_readsPop := by decide +kernel
set_option maxHeartbeats 4000000 in
set_option maxRecDepth 100000 in
theorem c_X7_readsPop (G : gG) (z0 : Nat) (l : Launch) {h : gH} {m rows asd vals many way told oth lst text now : Nat} {th und fed fat num frm may : Int32} {R : Nat → Int32} {D : Dt} {T : Nat → Int32} {t : Nat → Nat} {a ln : Nat} (hMS : mS G h m rows asd vals many way told oth lst text th now und fed (nI ln) (nI a) (nI 0) fat num frm may R) (hnow : now < 9) (w9 : wfD D) (hS : slD R (330 * now) D) (htext : h text = some (oI G 500 T)) (ht : ∀ j, j < ln → T j = nI (t j) ∧ t j < 256) (hln : ln ≤ 500) (ha : a ≤ ln) : gC G z0 l yX7_readsPop wsX7_readsPop 6 131 [.ref m] h (fun v h' => rdT G h' m rows asd vals many way told oth lst text th now und fed fat R t ln a (match pNum t ln (sk t ln a) 0 (D.1 - 1) D.1 with | some e => .inl e | none => match pNum t ln (nxT t ln (sk t ln a)) 1 64 D.1 with | some e => .inl e | none => if 64 < D.1 + vl t ln (nxT t ln (sk t ln a)) then .inl (-4, nxT t ln (sk t ln a), D.1) else if (wVals (D.2.2.2.2 (vl t ln (sk t ln a)))).length < vl t ln (nxT t ln (sk t ln a)) then .inl (-5, nxT t ln (sk t ln a), D.1) else .inr (nxT t ln (nxT t ln (sk t ln a)), dPops (vl t ln (nxT t ln (sk t ln a))) (vl t ln (sk t ln a)) D)) v ∧ gfr [rows, m, vals, many, way, told, oth, lst] h h') 0 0 := by
  have hsb := sk_b t ha
  have h1n := w9.1
  have hn64 := w9.2.1
  obtain ⟨fl, rl, kd, ok, st, wm, hm, hrows, ⟨V, hvals⟩, ⟨M, hmany⟩, ⟨W, hway⟩, ⟨f, htold⟩, ⟨g, hoth⟩, ⟨ll, hlst⟩, htw, how, hto⟩ := hMS
  refine gC_of (cc := cX7_readsPop) (nL := 3) (ret := (some .boolean)) (by decide) rfl (Nat.le_of_ble_eq_true rfl) ?_
  intro X F E _
  change gF G z0 X cX7_readsPop 3 RX7 wsX7_readsPop (some .boolean) "readsPop" 6 131 _ _ at F
  show gV G z0 X 0 0 h 0 [(0, .ref m)] []
  refine v_aload_n (pc' := 1) F dX7_readsPop_0 rfl (j := 0) rfl rfl ?_
  refine v_iconst (pc' := 2) (v := nI 0) F dX7_readsPop_1 (by decide) rfl ?_
  refine w_putf (pc' := 5) F k_X7_readsPop_7 tyX7_ok nmX7 hm 25 (by decide) m_X7_readsPop_f180 rfl  (by decide) rfl (show 25 < 26 by decide) [.int th, .ref rows, .ref asd, .int (nI now), .int und, .ref vals, .ref many, .int fl, .int rl, .int kd, .int ok, .int st, .ref way, .int wm, .ref told, .ref oth, .ref lst, .ref text, .int fed, .int (nI ln), .int (nI a), .int (nI 0), .int fat, .int num, .int frm, .int (nI 0)] rfl dX7_readsPop_2 rfl (fun h1 a2 f3 => ?_)
  refine v_aload_n (pc' := 6) F dX7_readsPop_5 rfl (j := 0) rfl rfl ?_
  refine v_iconst (pc' := 7) (v := nI 0) F dX7_readsPop_6 (by decide) rfl ?_
  refine v_aload_n (pc' := 8) F dX7_readsPop_7 rfl (j := 0) rfl rfl ?_
  have g4 := f3 _ _ (gnc (Ne.symm (g_neA hm hrows)) gn0) hrows
  refine v_callV (pc' := 11) (rt := (some .int)) (mcc := 0) (msc := 0) (As := []) (st := [.int (nI 0), .ref m]) F (fun l => c_X7_versions G z0 l a2 g4 hnow hS.1) gX7_readsPop_X7_versions rfl hv_X7_versions (by decide) (by decide) a2 rfl rfl rfl (Nat.le_of_ble_eq_true rfl) (by omega) (by omega) dX7_readsPop_8 rfl (fun v5 h1 hqv => ?_)
  obtain ⟨rfl, rfl⟩ := hqv
  refine v_iconst (pc' := 12) (v := nI 1) F dX7_readsPop_11 (by decide) rfl ?_
  refine v_isub (pc' := 13) (v := nI (D.1 - 1)) F dX7_readsPop_12 (g_subn (by omega) (by omega)) rfl ?_
  by_cases hkA : kdT t ln (sk t ln a) = 2
  · skip
    by_cases hlA : 0 ≤ vl t ln (sk t ln a) ∧ vl t ln (sk t ln a) ≤ D.1 - 1
    · skip
      have g6 := f3 _ _ (gnc (Ne.symm (g_neA hm htext)) gn0) htext
      refine v_callV (pc' := 16) (rt := (some .boolean)) (mcc := 0) (msc := 0) (As := [.int (nI 0), .int (nI (D.1 - 1))]) (st := []) F (fun l => c_X7_reads G z0 l (a := a) (lo := 0) (hi := D.1 - 1) a2 g6 ht hln (by omega) (by omega) (by omega) hkA hlA) gX7_readsPop_X7_reads rfl hv_X7_reads (by decide) (by decide) a2 rfl rfl rfl (Nat.le_of_ble_eq_true rfl) (by omega) (by omega) dX7_readsPop_13 rfl (fun v8 h7 hqr => ?_)
      obtain ⟨rfl, hmA, frA⟩ := hqr
      refine w_if_ne (tgt := 21) (pc' := 19) F (by omega) dX7_readsPop_16 (by decide) rfl (fun _ => ?_) (fun c0 => absurd c0 (by omega))
      refine v_aload_n (pc' := 22) F dX7_readsPop_21 rfl (j := 0) rfl rfl ?_
      refine v_getf (pc' := 25) (v := .int (nI (vl t ln (sk t ln a)))) F k_X7_readsPop_7 hmA 23 (by decide) m_X7_readsPop_f176 rfl dX7_readsPop_22 rfl ?_
      refine v_istore_n (pc' := 26) (i := 1) (L' := [(1, .int (nI (vl t ln (sk t ln a)))), (0, .ref m)]) F dX7_readsPop_25 rfl (by decide) rfl rfl ?_
      refine v_aload_n (pc' := 27) F dX7_readsPop_26 rfl (j := 1) rfl rfl ?_
      refine v_iconst (pc' := 28) (v := nI 1) F dX7_readsPop_27 (by decide) rfl ?_
      refine v_bipush (pc' := 30) (v := nI 64) F dX7_readsPop_28 (by decide) rfl ?_
      have heb := enT_b t hsb.2
      have hsb2 := sk_b t (show (enT t ln (sk t ln a)) ≤ ln by omega)
      have eA : pNum t ln (sk t ln a) 0 (D.1 - 1) D.1 = none := pNum_0 hkA hlA
      by_cases hkB : kdT t ln (sk t ln (enT t ln (sk t ln a))) = 2
      · skip
        by_cases hlB : 1 ≤ vl t ln (sk t ln (enT t ln (sk t ln a))) ∧ vl t ln (sk t ln (enT t ln (sk t ln a))) ≤ 64
        · skip
          have g9 := frA _ _ (gnc (Ne.symm (g_neA a2 g6)) gn0) g6
          refine v_callV (pc' := 33) (rt := (some .boolean)) (mcc := 0) (msc := 0) (As := [.int (nI 1), .int (nI 64)]) (st := []) F (fun l => c_X7_reads G z0 l (a := (enT t ln (sk t ln a))) (lo := 1) (hi := 64) hmA g9 ht hln (by omega) (by omega) (by omega) hkB hlB) gX7_readsPop_X7_reads rfl hv_X7_reads (by decide) (by decide) hmA rfl rfl rfl (Nat.le_of_ble_eq_true rfl) (by omega) (by omega) dX7_readsPop_30 rfl (fun v11 h10 hqr => ?_)
          obtain ⟨rfl, hmB, frB⟩ := hqr
          refine w_if_ne (tgt := 38) (pc' := 36) F (by omega) dX7_readsPop_33 (by decide) rfl (fun _ => ?_) (fun c0 => absurd c0 (by omega))
          refine v_aload_n (pc' := 39) F dX7_readsPop_38 rfl (j := 1) rfl rfl ?_
          have heb2 := enT_b t hsb2.2
          have eB : pNum t ln (sk t ln (enT t ln (sk t ln a))) 1 64 D.1 = none := pNum_0 hkB hlB
          have g12 := frA _ _ (gnc (Ne.symm (g_neA a2 g4)) gn0) g4
          have g13 := frB _ _ (gnc (Ne.symm (g_neA hmA g12)) gn0) g12
          refine v_callV (pc' := 42) (rt := (some .int)) (mcc := 0) (msc := 0) (As := []) (st := []) F (fun l => c_X7_versions G z0 l hmB g13 hnow hS.1) gX7_readsPop_X7_versions rfl hv_X7_versions (by decide) (by decide) hmB rfl rfl rfl (Nat.le_of_ble_eq_true rfl) (by omega) (by omega) dX7_readsPop_39 rfl (fun v14 h10 hqv => ?_)
          obtain ⟨rfl, rfl⟩ := hqv
          refine v_aload_n (pc' := 43) F dX7_readsPop_42 rfl (j := 1) rfl rfl ?_
          refine v_getf (pc' := 46) (v := .int (nI (vl t ln (sk t ln (enT t ln (sk t ln a)))))) F k_X7_readsPop_7 hmB 23 (by decide) m_X7_readsPop_f176 rfl dX7_readsPop_43 rfl ?_
          refine v_iadd (pc' := 47) (v := nI (D.1 + (vl t ln (sk t ln (enT t ln (sk t ln a)))))) F dX7_readsPop_46 (nI_add D.1 (vl t ln (sk t ln (enT t ln (sk t ln a))))) rfl ?_
          refine v_bipush (pc' := 49) (v := nI 64) F dX7_readsPop_47 (by decide) rfl ?_
          refine w_icmp_le (tgt := 63) (pc' := 52) F (by omega) (by omega) dX7_readsPop_49 (by decide) rfl (fun c0 => ?_) (fun c0 => ?_)
          · refine v_aload_n (pc' := 64) F dX7_readsPop_63 rfl (j := 1) rfl rfl ?_
            refine v_getf (pc' := 67) (v := .int (nI (vl t ln (sk t ln (enT t ln (sk t ln a)))))) F k_X7_readsPop_7 hmB 23 (by decide) m_X7_readsPop_f176 rfl dX7_readsPop_64 rfl ?_
            refine v_aload_n (pc' := 68) F dX7_readsPop_67 rfl (j := 1) rfl rfl ?_
            refine v_iload_n (pc' := 69) F dX7_readsPop_68 rfl (j := 0) rfl rfl ?_
            have g15 := f3 _ _ (gnc (Ne.symm (g_neA hm hvals)) gn0) hvals
            have g16 := frA _ _ (gnc (Ne.symm (g_neA a2 g15)) gn0) g15
            have g17 := frB _ _ (gnc (Ne.symm (g_neA hmA g16)) gn0) g16
            have g18 := f3 _ _ (gnc (Ne.symm (g_neA hm hmany)) gn0) hmany
            have g19 := frA _ _ (gnc (Ne.symm (g_neA a2 g18)) gn0) g18
            have g20 := frB _ _ (gnc (Ne.symm (g_neA hmA g19)) gn0) g19
            have g21 := f3 _ _ (gnc (Ne.symm (g_neA hm hway)) gn0) hway
            have g22 := frA _ _ (gnc (Ne.symm (g_neA a2 g21)) gn0) g21
            have g23 := frB _ _ (gnc (Ne.symm (g_neA hmA g22)) gn0) g22
            have g24 := f3 _ _ (gnc (Ne.symm (g_neA hm htold)) gn0) htold
            have g25 := frA _ _ (gnc (Ne.symm (g_neA a2 g24)) gn0) g24
            have g26 := frB _ _ (gnc (Ne.symm (g_neA hmA g25)) gn0) g25
            have g27 := f3 _ _ (gnc (Ne.symm (g_neA hm hoth)) gn0) hoth
            have g28 := frA _ _ (gnc (Ne.symm (g_neA a2 g27)) gn0) g27
            have g29 := frB _ _ (gnc (Ne.symm (g_neA hmA g28)) gn0) g28
            have g30 := f3 _ _ (gnc (Ne.symm (g_neA hm hlst)) gn0) hlst
            have g31 := frA _ _ (gnc (Ne.symm (g_neA a2 g30)) gn0) g30
            have g32 := frB _ _ (gnc (Ne.symm (g_neA hmA g31)) gn0) g31
            refine v_callV (pc' := 72) (rt := (some .int)) (mcc := 0) (msc := 0) (As := [.int (nI (vl t ln (sk t ln a)))]) (st := [.int (nI (vl t ln (sk t ln (enT t ln (sk t ln a)))))]) F (fun l => s_X7_length G z0 l ⟨_, _, _, _, _, _, hmB, g13, ⟨_, g17⟩, ⟨_, g20⟩, ⟨_, g23⟩, ⟨_, g26⟩, ⟨_, g29⟩, ⟨_, g32⟩, htw, how, hto⟩ hnow w9 hS (v := (vl t ln (sk t ln a))) (by omega)) gX7_readsPop_X7_length rfl hv_X7_length (by decide) (by decide) hmB rfl rfl rfl (Nat.le_of_ble_eq_true rfl) (by omega) (by omega) dX7_readsPop_69 rfl (fun v34 h33 hqc => ?_)
            obtain ⟨rfl, hMA, -, frL⟩ := hqc
            have hwl := wVals_lt w9 (v := (vl t ln (sk t ln a))) (by omega)
            have hMA0 := hMA
            obtain ⟨fl4, rl4, kd4, ok4, st4, wm4, hm4, hrows4, ⟨V4, hvals4⟩, ⟨M4, hmany4⟩, ⟨W4, hway4⟩, ⟨f4, htold4⟩, ⟨g4, hoth4⟩, ⟨ll4, hlst4⟩, -, -, -⟩ := hMA
            refine w_icmp_le (tgt := 86) (pc' := 75) F (by omega) (by omega) dX7_readsPop_72 (by decide) rfl (fun c1 => ?_) (fun c1 => ?_)
            · refine v_aload_n (pc' := 87) F dX7_readsPop_86 rfl (j := 1) rfl rfl ?_
              refine v_getf (pc' := 90) (v := .int (nI (vl t ln (sk t ln (enT t ln (sk t ln a)))))) F k_X7_readsPop_7 hm4 23 (by decide) m_X7_readsPop_f176 rfl dX7_readsPop_87 rfl ?_
              refine v_istore_n (pc' := 91) (i := 2) (L' := [(2, .int (nI (vl t ln (sk t ln (enT t ln (sk t ln a)))))), (1, .int (nI (vl t ln (sk t ln a)))), (0, .ref m)]) F dX7_readsPop_90 rfl (by decide) rfl rfl ?_
              refine v_sub (L' := [(2, .int (nI (vl t ln (sk t ln (enT t ln (sk t ln a)))))), (1, .int (nI (vl t ln (sk t ln a)))), (0, .ref m)]) [0, 1, 2] rfl ?_
              have fr35 : gfr [rows, m, vals, many, way, told, oth, lst] h h33 := (gfr.t (gfr.mono f3 (by intro q9 z9 m9; apply z9; simp only [List.mem_cons, List.not_mem_nil, or_false] at m9 ⊢; omega)) (gfr.t (gfr.mono frA (by intro q9 z9 m9; apply z9; simp only [List.mem_cons, List.not_mem_nil, or_false] at m9 ⊢; omega)) (gfr.t (gfr.mono frB (by intro q9 z9 m9; apply z9; simp only [List.mem_cons, List.not_mem_nil, or_false] at m9 ⊢; omega)) (gfr.mono frL (by intro q9 z9 m9; apply z9; simp only [List.mem_cons, List.not_mem_nil, or_false] at m9 ⊢; omega)))))
              refine lp_X7_readsPop (l := l) (k := (vl t ln (sk t ln (enT t ln (sk t ln a))))) (v := (vl t ln (sk t ln a))) F E (by omega) (by omega) hnow hMA0 w9 hS (by omega) (by omega) (by omega) (fun hA RA a1 a2 a3 a4 a5 => ⟨?_, gfr.t fr35 a5⟩)
              simp only [eA, show nxT t ln (sk t ln a) = (sk t ln (enT t ln (sk t ln a))) from rfl, eB]
              rw [if_neg (by omega), if_neg (by omega)]
              exact rdT_k (q := (_, _)) rfl a1 a4 (by omega) (by omega) rfl a2 a3
            · refine v_aload_n (pc' := 76) F dX7_readsPop_75 rfl (j := 1) rfl rfl ?_
              refine v_bipush (pc' := 78) (v := (-5)) F dX7_readsPop_76 (by decide) rfl ?_
              refine v_aload_n (pc' := 79) F dX7_readsPop_78 rfl (j := 1) rfl rfl ?_
              refine v_getf (pc' := 82) (v := .int (nI (sk t ln (enT t ln (sk t ln a))))) F k_X7_readsPop_7 hm4 24 (by decide) m_X7_readsPop_f173 rfl dX7_readsPop_79 rfl ?_
              refine v_callV (pc' := 85) (rt := (some .boolean)) (mcc := 0) (msc := 0) (As := [.int (-5), .int (nI (sk t ln (enT t ln (sk t ln a))))]) (st := []) F (fun l => c_X7_fails G z0 l (-5) (nI (sk t ln (enT t ln (sk t ln a)))) hm4) gX7_readsPop_X7_fails rfl hv_X7_fails (by decide) (by decide) hm4 rfl rfl rfl (Nat.le_of_ble_eq_true rfl) (by omega) (by omega) dX7_readsPop_82 rfl (fun v37 h36 hqf => ?_)
              obtain ⟨rfl, hmF, frF⟩ := hqf
              have fr38 : gfr [rows, m, vals, many, way, told, oth, lst] h h36 := (gfr.t (gfr.mono f3 (by intro q9 z9 m9; apply z9; simp only [List.mem_cons, List.not_mem_nil, or_false] at m9 ⊢; omega)) (gfr.t (gfr.mono frA (by intro q9 z9 m9; apply z9; simp only [List.mem_cons, List.not_mem_nil, or_false] at m9 ⊢; omega)) (gfr.t (gfr.mono frB (by intro q9 z9 m9; apply z9; simp only [List.mem_cons, List.not_mem_nil, or_false] at m9 ⊢; omega)) (gfr.t (gfr.mono frL (by intro q9 z9 m9; apply z9; simp only [List.mem_cons, List.not_mem_nil, or_false] at m9 ⊢; omega)) (gfr.mono frF (by intro q9 z9 m9; apply z9; simp only [List.mem_cons, List.not_mem_nil, or_false] at m9 ⊢; omega))))))
              have g39 := frF _ _ (gnc (Ne.symm (g_neA hm4 hrows4)) gn0) hrows4
              have g40 := frF _ _ (gnc (Ne.symm (g_neA hm4 hvals4)) gn0) hvals4
              have g41 := frF _ _ (gnc (Ne.symm (g_neA hm4 hmany4)) gn0) hmany4
              have g42 := frF _ _ (gnc (Ne.symm (g_neA hm4 hway4)) gn0) hway4
              have g43 := frF _ _ (gnc (Ne.symm (g_neA hm4 htold4)) gn0) htold4
              have g44 := frF _ _ (gnc (Ne.symm (g_neA hm4 hoth4)) gn0) hoth4
              have g45 := frF _ _ (gnc (Ne.symm (g_neA hm4 hlst4)) gn0) hlst4
              refine v_zret F E (by omega) (by omega) (by decide) dX7_readsPop_85 ?_
              exact ⟨by simp only [eA, show nxT t ln (sk t ln a) = (sk t ln (enT t ln (sk t ln a))) from rfl, eB]; rw [if_neg (by omega), if_pos (by omega)]; exact (rdT_e (R2 := R) rfl ⟨_, _, _, _, _, _, hmF, g39, ⟨_, g40⟩, ⟨_, g41⟩, ⟨_, g42⟩, ⟨_, g43⟩, ⟨_, g44⟩, ⟨_, g45⟩, htw, how, hto⟩ (fun q hq => rfl)), fr38⟩
          · refine v_aload_n (pc' := 53) F dX7_readsPop_52 rfl (j := 1) rfl rfl ?_
            refine v_bipush (pc' := 55) (v := (-4)) F dX7_readsPop_53 (by decide) rfl ?_
            refine v_aload_n (pc' := 56) F dX7_readsPop_55 rfl (j := 1) rfl rfl ?_
            refine v_getf (pc' := 59) (v := .int (nI (sk t ln (enT t ln (sk t ln a))))) F k_X7_readsPop_7 hmB 24 (by decide) m_X7_readsPop_f173 rfl dX7_readsPop_56 rfl ?_
            refine v_callV (pc' := 62) (rt := (some .boolean)) (mcc := 0) (msc := 0) (As := [.int (-4), .int (nI (sk t ln (enT t ln (sk t ln a))))]) (st := []) F (fun l => c_X7_fails G z0 l (-4) (nI (sk t ln (enT t ln (sk t ln a)))) hmB) gX7_readsPop_X7_fails rfl hv_X7_fails (by decide) (by decide) hmB rfl rfl rfl (Nat.le_of_ble_eq_true rfl) (by omega) (by omega) dX7_readsPop_59 rfl (fun v47 h46 hqf => ?_)
            obtain ⟨rfl, hmF, frF⟩ := hqf
            have fr48 : gfr [rows, m, vals, many, way, told, oth, lst] h h46 := (gfr.t (gfr.mono f3 (by intro q9 z9 m9; apply z9; simp only [List.mem_cons, List.not_mem_nil, or_false] at m9 ⊢; omega)) (gfr.t (gfr.mono frA (by intro q9 z9 m9; apply z9; simp only [List.mem_cons, List.not_mem_nil, or_false] at m9 ⊢; omega)) (gfr.t (gfr.mono frB (by intro q9 z9 m9; apply z9; simp only [List.mem_cons, List.not_mem_nil, or_false] at m9 ⊢; omega)) (gfr.mono frF (by intro q9 z9 m9; apply z9; simp only [List.mem_cons, List.not_mem_nil, or_false] at m9 ⊢; omega)))))
            have g49 := frF _ _ (gnc (Ne.symm (g_neA hmB g13)) gn0) g13
            have g50 := f3 _ _ (gnc (Ne.symm (g_neA hm hvals)) gn0) hvals
            have g51 := frA _ _ (gnc (Ne.symm (g_neA a2 g50)) gn0) g50
            have g52 := frB _ _ (gnc (Ne.symm (g_neA hmA g51)) gn0) g51
            have g53 := frF _ _ (gnc (Ne.symm (g_neA hmB g52)) gn0) g52
            have g54 := f3 _ _ (gnc (Ne.symm (g_neA hm hmany)) gn0) hmany
            have g55 := frA _ _ (gnc (Ne.symm (g_neA a2 g54)) gn0) g54
            have g56 := frB _ _ (gnc (Ne.symm (g_neA hmA g55)) gn0) g55
            have g57 := frF _ _ (gnc (Ne.symm (g_neA hmB g56)) gn0) g56
            have g58 := f3 _ _ (gnc (Ne.symm (g_neA hm hway)) gn0) hway
            have g59 := frA _ _ (gnc (Ne.symm (g_neA a2 g58)) gn0) g58
            have g60 := frB _ _ (gnc (Ne.symm (g_neA hmA g59)) gn0) g59
            have g61 := frF _ _ (gnc (Ne.symm (g_neA hmB g60)) gn0) g60
            have g62 := f3 _ _ (gnc (Ne.symm (g_neA hm htold)) gn0) htold
            have g63 := frA _ _ (gnc (Ne.symm (g_neA a2 g62)) gn0) g62
            have g64 := frB _ _ (gnc (Ne.symm (g_neA hmA g63)) gn0) g63
            have g65 := frF _ _ (gnc (Ne.symm (g_neA hmB g64)) gn0) g64
            have g66 := f3 _ _ (gnc (Ne.symm (g_neA hm hoth)) gn0) hoth
            have g67 := frA _ _ (gnc (Ne.symm (g_neA a2 g66)) gn0) g66
            have g68 := frB _ _ (gnc (Ne.symm (g_neA hmA g67)) gn0) g67
            have g69 := frF _ _ (gnc (Ne.symm (g_neA hmB g68)) gn0) g68
            have g70 := f3 _ _ (gnc (Ne.symm (g_neA hm hlst)) gn0) hlst
            have g71 := frA _ _ (gnc (Ne.symm (g_neA a2 g70)) gn0) g70
            have g72 := frB _ _ (gnc (Ne.symm (g_neA hmA g71)) gn0) g71
            have g73 := frF _ _ (gnc (Ne.symm (g_neA hmB g72)) gn0) g72
            refine v_zret F E (by omega) (by omega) (by decide) dX7_readsPop_62 ?_
            exact ⟨by simp only [eA, show nxT t ln (sk t ln a) = (sk t ln (enT t ln (sk t ln a))) from rfl, eB]; rw [if_pos (by omega)]; exact (rdT_e (R2 := R) rfl ⟨_, _, _, _, _, _, hmF, g49, ⟨_, g53⟩, ⟨_, g57⟩, ⟨_, g61⟩, ⟨_, g65⟩, ⟨_, g69⟩, ⟨_, g73⟩, htw, how, hto⟩ (fun q hq => rfl)), fr48⟩
        · skip
          have g74 := frA _ _ (gnc (Ne.symm (g_neA a2 g6)) gn0) g6
          refine v_callV (pc' := 33) (rt := (some .boolean)) (mcc := 0) (msc := 0) (As := [.int (nI 1), .int (nI 64)]) (st := []) F (fun l => n3_X7_reads G z0 l (a := (enT t ln (sk t ln a))) (lo := 1) (hi := 64) hmA g74 ht hln (by omega) (by omega) (by omega) hkB hlB) gX7_readsPop_X7_reads rfl hv_X7_reads (by decide) (by decide) hmA rfl rfl rfl (Nat.le_of_ble_eq_true rfl) (by omega) (by omega) dX7_readsPop_30 rfl (fun v76 h75 hqr => ?_)
          obtain ⟨rfl, sp9, nu9, fr9, hmB, frB⟩ := hqr
          refine w_if_ne (tgt := 38) (pc' := 36) F (by omega) dX7_readsPop_33 (by decide) rfl (fun c0 => absurd c0 (by omega)) (fun _ => ?_)
          refine v_iconst (pc' := 37) (v := nI 0) F dX7_readsPop_36 (by decide) rfl ?_
          have fr77 : gfr [rows, m, vals, many, way, told, oth, lst] h h75 := (gfr.t (gfr.mono f3 (by intro q9 z9 m9; apply z9; simp only [List.mem_cons, List.not_mem_nil, or_false] at m9 ⊢; omega)) (gfr.t (gfr.mono frA (by intro q9 z9 m9; apply z9; simp only [List.mem_cons, List.not_mem_nil, or_false] at m9 ⊢; omega)) (gfr.mono frB (by intro q9 z9 m9; apply z9; simp only [List.mem_cons, List.not_mem_nil, or_false] at m9 ⊢; omega))))
          have g78 := frA _ _ (gnc (Ne.symm (g_neA a2 g4)) gn0) g4
          have g79 := frB _ _ (gnc (Ne.symm (g_neA hmA g78)) gn0) g78
          have g80 := f3 _ _ (gnc (Ne.symm (g_neA hm hvals)) gn0) hvals
          have g81 := frA _ _ (gnc (Ne.symm (g_neA a2 g80)) gn0) g80
          have g82 := frB _ _ (gnc (Ne.symm (g_neA hmA g81)) gn0) g81
          have g83 := f3 _ _ (gnc (Ne.symm (g_neA hm hmany)) gn0) hmany
          have g84 := frA _ _ (gnc (Ne.symm (g_neA a2 g83)) gn0) g83
          have g85 := frB _ _ (gnc (Ne.symm (g_neA hmA g84)) gn0) g84
          have g86 := f3 _ _ (gnc (Ne.symm (g_neA hm hway)) gn0) hway
          have g87 := frA _ _ (gnc (Ne.symm (g_neA a2 g86)) gn0) g86
          have g88 := frB _ _ (gnc (Ne.symm (g_neA hmA g87)) gn0) g87
          have g89 := f3 _ _ (gnc (Ne.symm (g_neA hm htold)) gn0) htold
          have g90 := frA _ _ (gnc (Ne.symm (g_neA a2 g89)) gn0) g89
          have g91 := frB _ _ (gnc (Ne.symm (g_neA hmA g90)) gn0) g90
          have g92 := f3 _ _ (gnc (Ne.symm (g_neA hm hoth)) gn0) hoth
          have g93 := frA _ _ (gnc (Ne.symm (g_neA a2 g92)) gn0) g92
          have g94 := frB _ _ (gnc (Ne.symm (g_neA hmA g93)) gn0) g93
          have g95 := f3 _ _ (gnc (Ne.symm (g_neA hm hlst)) gn0) hlst
          have g96 := frA _ _ (gnc (Ne.symm (g_neA a2 g95)) gn0) g95
          have g97 := frB _ _ (gnc (Ne.symm (g_neA hmA g96)) gn0) g96
          refine v_zret F E (by omega) (by omega) (by decide) dX7_readsPop_37 ?_
          exact ⟨by rw [eA, show nxT t ln (sk t ln a) = (sk t ln (enT t ln (sk t ln a))) from rfl, pNum_3 hkB hlB]; exact (rdT_e (R2 := R) rfl ⟨_, _, _, _, _, _, hmB, g79, ⟨_, g82⟩, ⟨_, g85⟩, ⟨_, g88⟩, ⟨_, g91⟩, ⟨_, g94⟩, ⟨_, g97⟩, htw, how, hto⟩ fun q hq => rfl), fr77⟩
      · skip
        have g98 := frA _ _ (gnc (Ne.symm (g_neA a2 g6)) gn0) g6
        refine v_callV (pc' := 33) (rt := (some .boolean)) (mcc := 0) (msc := 0) (As := [.int (nI 1), .int (nI 64)]) (st := []) F (fun l => n2_X7_reads G z0 l (a := (enT t ln (sk t ln a))) (lo := 1) (hi := 64) hmA g98 ht hln (by omega) hkB) gX7_readsPop_X7_reads rfl hv_X7_reads (by decide) (by decide) hmA rfl rfl rfl (Nat.le_of_ble_eq_true rfl) (by omega) (by omega) dX7_readsPop_30 rfl (fun v100 h99 hqr => ?_)
        obtain ⟨rfl, sp9, nu9, fr9, hmB, frB⟩ := hqr
        refine w_if_ne (tgt := 38) (pc' := 36) F (by omega) dX7_readsPop_33 (by decide) rfl (fun c0 => absurd c0 (by omega)) (fun _ => ?_)
        refine v_iconst (pc' := 37) (v := nI 0) F dX7_readsPop_36 (by decide) rfl ?_
        have fr101 : gfr [rows, m, vals, many, way, told, oth, lst] h h99 := (gfr.t (gfr.mono f3 (by intro q9 z9 m9; apply z9; simp only [List.mem_cons, List.not_mem_nil, or_false] at m9 ⊢; omega)) (gfr.t (gfr.mono frA (by intro q9 z9 m9; apply z9; simp only [List.mem_cons, List.not_mem_nil, or_false] at m9 ⊢; omega)) (gfr.mono frB (by intro q9 z9 m9; apply z9; simp only [List.mem_cons, List.not_mem_nil, or_false] at m9 ⊢; omega))))
        have g102 := frA _ _ (gnc (Ne.symm (g_neA a2 g4)) gn0) g4
        have g103 := frB _ _ (gnc (Ne.symm (g_neA hmA g102)) gn0) g102
        have g104 := f3 _ _ (gnc (Ne.symm (g_neA hm hvals)) gn0) hvals
        have g105 := frA _ _ (gnc (Ne.symm (g_neA a2 g104)) gn0) g104
        have g106 := frB _ _ (gnc (Ne.symm (g_neA hmA g105)) gn0) g105
        have g107 := f3 _ _ (gnc (Ne.symm (g_neA hm hmany)) gn0) hmany
        have g108 := frA _ _ (gnc (Ne.symm (g_neA a2 g107)) gn0) g107
        have g109 := frB _ _ (gnc (Ne.symm (g_neA hmA g108)) gn0) g108
        have g110 := f3 _ _ (gnc (Ne.symm (g_neA hm hway)) gn0) hway
        have g111 := frA _ _ (gnc (Ne.symm (g_neA a2 g110)) gn0) g110
        have g112 := frB _ _ (gnc (Ne.symm (g_neA hmA g111)) gn0) g111
        have g113 := f3 _ _ (gnc (Ne.symm (g_neA hm htold)) gn0) htold
        have g114 := frA _ _ (gnc (Ne.symm (g_neA a2 g113)) gn0) g113
        have g115 := frB _ _ (gnc (Ne.symm (g_neA hmA g114)) gn0) g114
        have g116 := f3 _ _ (gnc (Ne.symm (g_neA hm hoth)) gn0) hoth
        have g117 := frA _ _ (gnc (Ne.symm (g_neA a2 g116)) gn0) g116
        have g118 := frB _ _ (gnc (Ne.symm (g_neA hmA g117)) gn0) g117
        have g119 := f3 _ _ (gnc (Ne.symm (g_neA hm hlst)) gn0) hlst
        have g120 := frA _ _ (gnc (Ne.symm (g_neA a2 g119)) gn0) g119
        have g121 := frB _ _ (gnc (Ne.symm (g_neA hmA g120)) gn0) g120
        refine v_zret F E (by omega) (by omega) (by decide) dX7_readsPop_37 ?_
        exact ⟨by rw [eA, show nxT t ln (sk t ln a) = (sk t ln (enT t ln (sk t ln a))) from rfl, pNum_2 hkB]; exact (rdT_e (R2 := R) rfl ⟨_, _, _, _, _, _, hmB, g103, ⟨_, g106⟩, ⟨_, g109⟩, ⟨_, g112⟩, ⟨_, g115⟩, ⟨_, g118⟩, ⟨_, g121⟩, htw, how, hto⟩ fun q hq => rfl), fr101⟩
    · skip
      have g122 := f3 _ _ (gnc (Ne.symm (g_neA hm htext)) gn0) htext
      refine v_callV (pc' := 16) (rt := (some .boolean)) (mcc := 0) (msc := 0) (As := [.int (nI 0), .int (nI (D.1 - 1))]) (st := []) F (fun l => n3_X7_reads G z0 l (a := a) (lo := 0) (hi := D.1 - 1) a2 g122 ht hln (by omega) (by omega) (by omega) hkA hlA) gX7_readsPop_X7_reads rfl hv_X7_reads (by decide) (by decide) a2 rfl rfl rfl (Nat.le_of_ble_eq_true rfl) (by omega) (by omega) dX7_readsPop_13 rfl (fun v124 h123 hqr => ?_)
      obtain ⟨rfl, sp9, nu9, fr9, hmA, frA⟩ := hqr
      refine w_if_ne (tgt := 21) (pc' := 19) F (by omega) dX7_readsPop_16 (by decide) rfl (fun c0 => absurd c0 (by omega)) (fun _ => ?_)
      refine v_iconst (pc' := 20) (v := nI 0) F dX7_readsPop_19 (by decide) rfl ?_
      have fr125 : gfr [rows, m, vals, many, way, told, oth, lst] h h123 := (gfr.t (gfr.mono f3 (by intro q9 z9 m9; apply z9; simp only [List.mem_cons, List.not_mem_nil, or_false] at m9 ⊢; omega)) (gfr.mono frA (by intro q9 z9 m9; apply z9; simp only [List.mem_cons, List.not_mem_nil, or_false] at m9 ⊢; omega)))
      have g126 := frA _ _ (gnc (Ne.symm (g_neA a2 g4)) gn0) g4
      have g127 := f3 _ _ (gnc (Ne.symm (g_neA hm hvals)) gn0) hvals
      have g128 := frA _ _ (gnc (Ne.symm (g_neA a2 g127)) gn0) g127
      have g129 := f3 _ _ (gnc (Ne.symm (g_neA hm hmany)) gn0) hmany
      have g130 := frA _ _ (gnc (Ne.symm (g_neA a2 g129)) gn0) g129
      have g131 := f3 _ _ (gnc (Ne.symm (g_neA hm hway)) gn0) hway
      have g132 := frA _ _ (gnc (Ne.symm (g_neA a2 g131)) gn0) g131
      have g133 := f3 _ _ (gnc (Ne.symm (g_neA hm htold)) gn0) htold
      have g134 := frA _ _ (gnc (Ne.symm (g_neA a2 g133)) gn0) g133
      have g135 := f3 _ _ (gnc (Ne.symm (g_neA hm hoth)) gn0) hoth
      have g136 := frA _ _ (gnc (Ne.symm (g_neA a2 g135)) gn0) g135
      have g137 := f3 _ _ (gnc (Ne.symm (g_neA hm hlst)) gn0) hlst
      have g138 := frA _ _ (gnc (Ne.symm (g_neA a2 g137)) gn0) g137
      refine v_zret F E (by omega) (by omega) (by decide) dX7_readsPop_20 ?_
      exact ⟨by rw [pNum_3 hkA hlA]; exact (rdT_e (R2 := R) rfl ⟨_, _, _, _, _, _, hmA, g126, ⟨_, g128⟩, ⟨_, g130⟩, ⟨_, g132⟩, ⟨_, g134⟩, ⟨_, g136⟩, ⟨_, g138⟩, htw, how, hto⟩ fun q hq => rfl), fr125⟩
  · skip
    have g139 := f3 _ _ (gnc (Ne.symm (g_neA hm htext)) gn0) htext
    refine v_callV (pc' := 16) (rt := (some .boolean)) (mcc := 0) (msc := 0) (As := [.int (nI 0), .int (nI (D.1 - 1))]) (st := []) F (fun l => n2_X7_reads G z0 l (a := a) (lo := 0) (hi := D.1 - 1) a2 g139 ht hln (by omega) hkA) gX7_readsPop_X7_reads rfl hv_X7_reads (by decide) (by decide) a2 rfl rfl rfl (Nat.le_of_ble_eq_true rfl) (by omega) (by omega) dX7_readsPop_13 rfl (fun v141 h140 hqr => ?_)
    obtain ⟨rfl, sp9, nu9, fr9, hmA, frA⟩ := hqr
    refine w_if_ne (tgt := 21) (pc' := 19) F (by omega) dX7_readsPop_16 (by decide) rfl (fun c0 => absurd c0 (by omega)) (fun _ => ?_)
    refine v_iconst (pc' := 20) (v := nI 0) F dX7_readsPop_19 (by decide) rfl ?_
    have fr142 : gfr [rows, m, vals, many, way, told, oth, lst] h h140 := (gfr.t (gfr.mono f3 (by intro q9 z9 m9; apply z9; simp only [List.mem_cons, List.not_mem_nil, or_false] at m9 ⊢; omega)) (gfr.mono frA (by intro q9 z9 m9; apply z9; simp only [List.mem_cons, List.not_mem_nil, or_false] at m9 ⊢; omega)))
    have g143 := frA _ _ (gnc (Ne.symm (g_neA a2 g4)) gn0) g4
    have g144 := f3 _ _ (gnc (Ne.symm (g_neA hm hvals)) gn0) hvals
    have g145 := frA _ _ (gnc (Ne.symm (g_neA a2 g144)) gn0) g144
    have g146 := f3 _ _ (gnc (Ne.symm (g_neA hm hmany)) gn0) hmany
    have g147 := frA _ _ (gnc (Ne.symm (g_neA a2 g146)) gn0) g146
    have g148 := f3 _ _ (gnc (Ne.symm (g_neA hm hway)) gn0) hway
    have g149 := frA _ _ (gnc (Ne.symm (g_neA a2 g148)) gn0) g148
    have g150 := f3 _ _ (gnc (Ne.symm (g_neA hm htold)) gn0) htold
    have g151 := frA _ _ (gnc (Ne.symm (g_neA a2 g150)) gn0) g150
    have g152 := f3 _ _ (gnc (Ne.symm (g_neA hm hoth)) gn0) hoth
    have g153 := frA _ _ (gnc (Ne.symm (g_neA a2 g152)) gn0) g152
    have g154 := f3 _ _ (gnc (Ne.symm (g_neA hm hlst)) gn0) hlst
    have g155 := frA _ _ (gnc (Ne.symm (g_neA a2 g154)) gn0) g154
    refine v_zret F E (by omega) (by omega) (by decide) dX7_readsPop_20 ?_
    exact ⟨by rw [pNum_2 hkA]; exact (rdT_e (R2 := R) rfl ⟨_, _, _, _, _, _, hmA, g143, ⟨_, g145⟩, ⟨_, g147⟩, ⟨_, g149⟩, ⟨_, g151⟩, ⟨_, g153⟩, ⟨_, g155⟩, htw, how, hto⟩ fun q hq => rfl), fr142⟩
