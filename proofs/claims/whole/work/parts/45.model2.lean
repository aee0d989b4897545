/-! THE REFERENCE: its laid lists (first value last) -/
def mdL (V M : Nat → Int32) (ls : Nat → List Int32) : Prop := ∀ L, L < 6 → M L = nI (ls L).length ∧ (ls L).length ≤ 64 ∧ fHas V (64 * L) (ls L).reverse
theorem mdL.ahead {V M : Nat → Int32} {ls : Nat → List Int32} {L : Nat} (h : mdL V M ls) (hL : L < 6) (hl : (ls L).length < 64) (v : Int32) : mdL (upd V (64 * L + (ls L).length) v) (upd M L (nI ((ls L).length + 1))) (va_up ls L (v :: ls L)) := fun K hK => by
  obtain ⟨h1, h2, h3⟩ := h K hK
  by_cases e : K = L
  · subst e
    have e1 : va_up ls K (v :: ls K) K = v :: ls K := by unfold va_up; rw [if_pos rfl]
    rw [e1, upd_eq]
    refine ⟨rfl, by rw [List.length_cons]; omega, ?_⟩
    rw [List.reverse_cons]
    refine fHas.app (h3.keep (fun j hj => upd_ne (by rw [List.length_reverse] at hj; omega))) (fun j hj => ?_)
    rw [List.length_singleton] at hj
    have e2 : j = 0 := by omega
    subst e2
    rw [List.length_reverse, Nat.add_zero, upd_eq]
    rfl
  · have e1 : va_up ls L (v :: ls L) K = ls K := by unfold va_up; rw [if_neg e]
    rw [e1, upd_ne e]
    refine ⟨h1, h2, fun j hj => ?_⟩
    rw [List.length_reverse] at hj
    rw [upd_ne (by omega)]
    exact h3 j (by rw [List.length_reverse]; exact hj)
theorem mdL.takes {V M : Nat → Int32} {ls : Nat → List Int32} {L : Nat} {x : Int32} {xs : List Int32} (h : mdL V M ls) (hL : L < 6) (he : ls L = x :: xs) : mdL V (upd M L (nI xs.length)) (va_up ls L xs) ∧ V (64 * L + xs.length) = x := by
  have hh := h L hL
  rw [he, List.reverse_cons] at hh
  refine ⟨fun K hK => ?_, ?_⟩
  · obtain ⟨h1, h2, h3⟩ := h K hK
    by_cases e : K = L
    · subst e
      have e1 : va_up ls K xs K = xs := by unfold va_up; rw [if_pos rfl]
      rw [e1, upd_eq]
      refine ⟨rfl, by have := hh.2.1; rw [List.length_cons] at this; omega, fun j hj => ?_⟩
      have := hh.2.2 j (by rw [List.length_append]; omega)
      rw [this, List.getD_eq_getElem?_getD, List.getD_eq_getElem?_getD, List.getElem?_append_left hj]
    · have e1 : va_up ls L xs K = ls K := by unfold va_up; rw [if_neg e]
      rw [e1, upd_ne e]
      exact ⟨h1, h2, h3⟩
  · have := hh.2.2 xs.length (by rw [List.length_append, List.length_reverse, List.length_singleton]; omega)
    rw [this]
    simp
theorem k_X7_ahead_7 : gCl wsX7_ahead 7 RX7 TX7 26 := ⟨by decide +kernel, rfl⟩
theorem m_X7_ahead_f16 : Cond.fieldLink RX7 16 "SteadyQueuesModel" "values" "[I" ∈ wsX7_ahead := by decide +kernel
theorem m_X7_ahead_f19 : Cond.fieldLink RX7 19 "SteadyQueuesModel" "many" "[I" ∈ wsX7_ahead := by decide +kernel
set_option maxHeartbeats 4000000 in
set_option maxRecDepth 100000 in
theorem c_X7_ahead (G : gG) (z0 : Nat) (l : Launch) {h : gH} {m rows asd vals many way told oth lst text : Nat} {th now und fl rl kd ok st wm fed len spot fa fat num frm may : Int32} {V M : Nat → Int32} {ls : Nat → List Int32} {L : Nat} (y : Int32) (hm : h m = some (.inr (7, [.int th, .ref rows, .ref asd, .int now, .int und, .ref vals, .ref many, .int fl, .int rl, .int kd, .int ok, .int st, .ref way, .int wm, .ref told, .ref oth, .ref lst, .ref text, .int fed, .int len, .int spot, .int fa, .int fat, .int num, .int frm, .int may]))) (hvals : h vals = some (oI G 384 V)) (hmany : h many = some (oI G 6 M)) (hls : mdL V M ls) (hL : L < 6) (hl : (ls L).length < 64) : gC G z0 l yX7_ahead wsX7_ahead 0 0 [.ref m, .int (nI L), .int y] h (fun v h' => v = none ∧ ∃ V' M', h' vals = some (oI G 384 V') ∧ h' many = some (oI G 6 M') ∧ mdL V' M' (va_up ls L (y :: ls L)) ∧ gfr [vals, many] h h') 0 0 := by
  have hM := hls L hL
  refine gC_of (cc := cX7_ahead) (nL := 3) (ret := none) (by decide) rfl (Nat.le_of_ble_eq_true rfl) ?_
  intro X F E _
  change gF G z0 X cX7_ahead 3 RX7 wsX7_ahead none "ahead" 0 0 _ _ at F
  show gV G z0 X 0 0 h 0 [(0, .ref m), (1, .int (nI L)), (2, .int y)] []
  refine v_aload_n (pc' := 1) F dX7_ahead_0 rfl (j := 0) rfl rfl ?_
  refine v_getf (pc' := 4) (v := .ref vals) F k_X7_ahead_7 hm 5 (by decide) m_X7_ahead_f16 rfl dX7_ahead_1 rfl ?_
  refine v_bipush (pc' := 6) (v := nI 64) F dX7_ahead_4 (by decide) rfl ?_
  refine v_iload_n (pc' := 7) F dX7_ahead_6 rfl (j := 1) rfl rfl ?_
  refine v_imul (pc' := 8) (v := nI (64 * L)) F dX7_ahead_7 (pk_mul 64 L) rfl ?_
  refine v_aload_n (pc' := 9) F dX7_ahead_8 rfl (j := 0) rfl rfl ?_
  refine v_getf (pc' := 12) (v := .ref many) F k_X7_ahead_7 hm 6 (by decide) m_X7_ahead_f19 rfl dX7_ahead_9 rfl ?_
  refine v_iload_n (pc' := 13) F dX7_ahead_12 rfl (j := 1) rfl rfl ?_
  refine w_iald (pc' := 14) (v := nI ((ls L).length)) F hmany (by omega) (by omega) hM.1 dX7_ahead_13 rfl ?_
  refine v_iadd (pc' := 15) (v := nI (64 * L + ((ls L).length))) F dX7_ahead_14 (nI_add (64 * L) ((ls L).length)) rfl ?_
  refine v_iload_n (pc' := 16) F dX7_ahead_15 rfl (j := 2) rfl rfl ?_
  refine w_iast (pc' := 17) F hvals (by omega) (by omega) dX7_ahead_16 rfl (fun h1 a2 f3 => ?_)
  refine v_aload_n (pc' := 18) F dX7_ahead_17 rfl (j := 0) rfl rfl ?_
  have g4 := f3 _ _ (gnc (g_neA hm hvals) gn0) hm
  refine v_getf (pc' := 21) (v := .ref many) F k_X7_ahead_7 g4 6 (by decide) m_X7_ahead_f19 rfl dX7_ahead_18 rfl ?_
  refine v_iload_n (pc' := 22) F dX7_ahead_21 rfl (j := 1) rfl rfl ?_
  refine v_dup2 (pc' := 23) F dX7_ahead_22 rfl rfl rfl ?_
  have g5 := f3 _ _ (gnc ((g_neL hvals hmany (by decide)).symm) gn0) hmany
  refine w_iald (pc' := 24) (v := nI ((ls L).length)) F g5 (by omega) (by omega) hM.1 dX7_ahead_23 rfl ?_
  refine v_iconst (pc' := 25) (v := nI 1) F dX7_ahead_24 (by decide) rfl ?_
  refine v_iadd (pc' := 26) (v := nI ((ls L).length + 1)) F dX7_ahead_25 (nI_add ((ls L).length) 1) rfl ?_
  refine w_iast (pc' := 27) F g5 (by omega) (by omega) dX7_ahead_26 rfl (fun h6 a7 f8 => ?_)
  have fr9 : gfr [vals, many] h h6 := (gfr.t (gfr.mono f3 (by intro q9 z9 m9; apply z9; simp only [List.mem_cons, List.not_mem_nil, or_false] at m9 ⊢; omega)) (gfr.mono f8 (by intro q9 z9 m9; apply z9; simp only [List.mem_cons, List.not_mem_nil, or_false] at m9 ⊢; omega)))
  have g10 := f8 _ _ (gnc (g_neL hvals hmany (by decide)) gn0) a2
  exact v_vret F E (by omega) (by omega)  dX7_ahead_27 ⟨rfl, _, _, g10, a7, hls.ahead hL hl y, fr9⟩
theorem k_X7_takes_7 : gCl wsX7_takes 7 RX7 TX7 26 := ⟨by decide +kernel, rfl⟩
theorem m_X7_takes_f19 : Cond.fieldLink RX7 19 "SteadyQueuesModel" "many" "[I" ∈ wsX7_takes := by decide +kernel
theorem m_X7_takes_f16 : Cond.fieldLink RX7 16 "SteadyQueuesModel" "values" "[I" ∈ wsX7_takes := by decide +kernel
set_option maxHeartbeats 4000000 in
set_option maxRecDepth 100000 in
theorem c_X7_takes (G : gG) (z0 : Nat) (l : Launch) {h : gH} {m rows asd vals many way told oth lst text : Nat} {th now und fl rl kd ok st wm fed len spot fa fat num frm may : Int32} {V M : Nat → Int32} {ls : Nat → List Int32} {L : Nat} {x : Int32} {xs : List Int32} (hm : h m = some (.inr (7, [.int th, .ref rows, .ref asd, .int now, .int und, .ref vals, .ref many, .int fl, .int rl, .int kd, .int ok, .int st, .ref way, .int wm, .ref told, .ref oth, .ref lst, .ref text, .int fed, .int len, .int spot, .int fa, .int fat, .int num, .int frm, .int may]))) (hvals : h vals = some (oI G 384 V)) (hmany : h many = some (oI G 6 M)) (hls : mdL V M ls) (hL : L < 6) (he : ls L = x :: xs) : gC G z0 l yX7_takes wsX7_takes 0 0 [.ref m, .int (nI L)] h (fun v h' => v = some (.int x) ∧ ∃ M', h' many = some (oI G 6 M') ∧ mdL V M' (va_up ls L xs) ∧ gfr [many] h h') 0 0 := by
  have hM := hls L hL
  have hT := hls.takes hL he
  have hlx : (ls L).length = xs.length + 1 := by rw [he]; rfl
  have hM2 := hM.2.1
  refine gC_of (cc := cX7_takes) (nL := 2) (ret := (some .int)) (by decide) rfl (Nat.le_of_ble_eq_true rfl) ?_
  intro X F E _
  change gF G z0 X cX7_takes 2 RX7 wsX7_takes (some .int) "takes" 0 0 _ _ at F
  show gV G z0 X 0 0 h 0 [(0, .ref m), (1, .int (nI L))] []
  refine v_aload_n (pc' := 1) F dX7_takes_0 rfl (j := 0) rfl rfl ?_
  refine v_getf (pc' := 4) (v := .ref many) F k_X7_takes_7 hm 6 (by decide) m_X7_takes_f19 rfl dX7_takes_1 rfl ?_
  refine v_iload_n (pc' := 5) F dX7_takes_4 rfl (j := 1) rfl rfl ?_
  refine v_dup2 (pc' := 6) F dX7_takes_5 rfl rfl rfl ?_
  refine w_iald (pc' := 7) (v := nI (xs.length + 1)) F hmany (by omega) (by omega) (by rw [hM.1, hlx]) dX7_takes_6 rfl ?_
  refine v_iconst (pc' := 8) (v := nI 1) F dX7_takes_7 (by decide) rfl ?_
  refine v_isub (pc' := 9) (v := nI xs.length) F dX7_takes_8 (g_subn (by omega) (by omega)) rfl ?_
  refine w_iast (pc' := 10) F hmany (by omega) (by omega) dX7_takes_9 rfl (fun h1 a2 f3 => ?_)
  refine v_aload_n (pc' := 11) F dX7_takes_10 rfl (j := 0) rfl rfl ?_
  have g4 := f3 _ _ (gnc (g_neA hm hmany) gn0) hm
  refine v_getf (pc' := 14) (v := .ref vals) F k_X7_takes_7 g4 5 (by decide) m_X7_takes_f16 rfl dX7_takes_11 rfl ?_
  refine v_bipush (pc' := 16) (v := nI 64) F dX7_takes_14 (by decide) rfl ?_
  refine v_iload_n (pc' := 17) F dX7_takes_16 rfl (j := 1) rfl rfl ?_
  refine v_imul (pc' := 18) (v := nI (64 * L)) F dX7_takes_17 (pk_mul 64 L) rfl ?_
  refine v_aload_n (pc' := 19) F dX7_takes_18 rfl (j := 0) rfl rfl ?_
  refine v_getf (pc' := 22) (v := .ref many) F k_X7_takes_7 g4 6 (by decide) m_X7_takes_f19 rfl dX7_takes_19 rfl ?_
  refine v_iload_n (pc' := 23) F dX7_takes_22 rfl (j := 1) rfl rfl ?_
  refine w_iald (pc' := 24) (v := nI xs.length) F a2 (by omega) (by omega) (upd_eq _ _ _) dX7_takes_23 rfl ?_
  refine v_iadd (pc' := 25) (v := nI (64 * L + xs.length)) F dX7_takes_24 (nI_add (64 * L) xs.length) rfl ?_
  have g5 := f3 _ _ (gnc (g_neL hvals hmany (by decide)) gn0) hvals
  refine w_iald (pc' := 26) (v := x) F g5 (by omega) (by omega) hT.2 dX7_takes_25 rfl ?_
  have fr6 : gfr [many] h h1 := f3
  exact v_iret F E (by omega) (by omega)  dX7_takes_26 ⟨rfl, _, a2, hT.1, fr6⟩
theorem k_X7_laysEmpty_7 : gCl wsX7_laysEmpty 7 RX7 TX7 26 := ⟨by decide +kernel, rfl⟩
theorem m_X7_laysEmpty_f19 : Cond.fieldLink RX7 19 "SteadyQueuesModel" "many" "[I" ∈ wsX7_laysEmpty := by decide +kernel
theorem m_X7_laysEmpty_f73 : Cond.fieldLink RX7 73 "SteadyQueuesModel" "frontLong" "I" ∈ wsX7_laysEmpty := by decide +kernel
theorem m_X7_laysEmpty_f76 : Cond.fieldLink RX7 76 "SteadyQueuesModel" "rearLong" "I" ∈ wsX7_laysEmpty := by decide +kernel
theorem m_X7_laysEmpty_f79 : Cond.fieldLink RX7 79 "SteadyQueuesModel" "kind" "I" ∈ wsX7_laysEmpty := by decide +kernel
theorem m_X7_laysEmpty_f82 : Cond.fieldLink RX7 82 "SteadyQueuesModel" "ok" "I" ∈ wsX7_laysEmpty := by decide +kernel
theorem m_X7_laysEmpty_f85 : Cond.fieldLink RX7 85 "SteadyQueuesModel" "steps" "I" ∈ wsX7_laysEmpty := by decide +kernel
set_option maxHeartbeats 4000000 in
set_option maxRecDepth 100000 in
theorem c_X7_laysEmpty (G : gG) (z0 : Nat) (l : Launch) {h : gH} {m rows asd vals many way told oth lst text : Nat} {th now und fl rl kd ok st wm fed len spot fa fat num frm may : Int32} {V M : Nat → Int32} (hm : h m = some (.inr (7, [.int th, .ref rows, .ref asd, .int now, .int und, .ref vals, .ref many, .int fl, .int rl, .int kd, .int ok, .int st, .ref way, .int wm, .ref told, .ref oth, .ref lst, .ref text, .int fed, .int len, .int spot, .int fa, .int fat, .int num, .int frm, .int may]))) (hvals : h vals = some (oI G 384 V)) (hmany : h many = some (oI G 6 M)) : gC G z0 l yX7_laysEmpty wsX7_laysEmpty 0 0 [.ref m] h (fun v h' => v = none ∧ h' m = some (.inr (7, [.int th, .ref rows, .ref asd, .int now, .int und, .ref vals, .ref many, .int (nI 0), .int (nI 0), .int (nI 0), .int (nI 0), .int (nI 0), .ref way, .int wm, .ref told, .ref oth, .ref lst, .ref text, .int fed, .int len, .int spot, .int fa, .int fat, .int num, .int frm, .int may])) ∧ ∃ M', h' many = some (oI G 6 M') ∧ mdL V M' (fun _ => []) ∧ gfr [m, many] h h') 0 0 := by
  refine gC_of (cc := cX7_laysEmpty) (nL := 2) (ret := none) (by decide) rfl (Nat.le_of_ble_eq_true rfl) ?_
  intro X F E _
  change gF G z0 X cX7_laysEmpty 2 RX7 wsX7_laysEmpty none "laysEmpty" 0 0 _ _ at F
  show gV G z0 X 0 0 h 0 [(0, .ref m)] []
  refine v_iconst (pc' := 1) (v := nI 0) F dX7_laysEmpty_0 (by decide) rfl ?_
  refine v_istore_n (pc' := 2) (i := 1) (L' := [(1, .int (nI 0)), (0, .ref m)]) F dX7_laysEmpty_1 rfl (by decide) rfl rfl ?_
  refine v_iload_n (pc' := 3) F dX7_laysEmpty_2 rfl (j := 0) rfl rfl ?_
  refine v_bipush (pc' := 5) (v := nI 6) F dX7_laysEmpty_3 (by decide) rfl ?_
  refine w_icmp_ge (tgt := 21) (pc' := 8) F (by omega) (by omega) dX7_laysEmpty_5 (by decide) rfl (fun c0 => absurd c0 (by omega)) (fun _ => ?_)
  refine v_aload_n (pc' := 9) F dX7_laysEmpty_8 rfl (j := 1) rfl rfl ?_
  refine v_getf (pc' := 12) (v := .ref many) F k_X7_laysEmpty_7 hm 6 (by decide) m_X7_laysEmpty_f19 rfl dX7_laysEmpty_9 rfl ?_
  refine v_iload_n (pc' := 13) F dX7_laysEmpty_12 rfl (j := 0) rfl rfl ?_
  refine v_iconst (pc' := 14) (v := nI 0) F dX7_laysEmpty_13 (by decide) rfl ?_
  refine w_iast (pc' := 15) F hmany (by omega) (by omega) dX7_laysEmpty_14 rfl (fun h1 a2 f3 => ?_)
  refine v_iinc (pc' := 18) (j := 0) (x := nI 0) (v := nI 1) (L' := [(1, .int (nI 1)), (0, .ref m)]) F dX7_laysEmpty_15 rfl (g_eqn (nI_add 0 1) (by omega)) (by decide) rfl rfl ?_
  refine v_goto (tgt := 2) F dX7_laysEmpty_18 (by decide) ?_
  refine v_iload_n (pc' := 3) F dX7_laysEmpty_2 rfl (j := 0) rfl rfl ?_
  refine v_bipush (pc' := 5) (v := nI 6) F dX7_laysEmpty_3 (by decide) rfl ?_
  refine w_icmp_ge (tgt := 21) (pc' := 8) F (by omega) (by omega) dX7_laysEmpty_5 (by decide) rfl (fun c0 => absurd c0 (by omega)) (fun _ => ?_)
  refine v_aload_n (pc' := 9) F dX7_laysEmpty_8 rfl (j := 1) rfl rfl ?_
  have g4 := f3 _ _ (gnc (g_neA hm hmany) gn0) hm
  refine v_getf (pc' := 12) (v := .ref many) F k_X7_laysEmpty_7 g4 6 (by decide) m_X7_laysEmpty_f19 rfl dX7_laysEmpty_9 rfl ?_
  refine v_iload_n (pc' := 13) F dX7_laysEmpty_12 rfl (j := 0) rfl rfl ?_
  refine v_iconst (pc' := 14) (v := nI 0) F dX7_laysEmpty_13 (by decide) rfl ?_
  refine w_iast (pc' := 15) F a2 (by omega) (by omega) dX7_laysEmpty_14 rfl (fun h5 a6 f7 => ?_)
  refine v_iinc (pc' := 18) (j := 0) (x := nI 1) (v := nI 2) (L' := [(1, .int (nI 2)), (0, .ref m)]) F dX7_laysEmpty_15 rfl (g_eqn (nI_add 1 1) (by omega)) (by decide) rfl rfl ?_
  refine v_goto (tgt := 2) F dX7_laysEmpty_18 (by decide) ?_
  refine v_iload_n (pc' := 3) F dX7_laysEmpty_2 rfl (j := 0) rfl rfl ?_
  refine v_bipush (pc' := 5) (v := nI 6) F dX7_laysEmpty_3 (by decide) rfl ?_
  refine w_icmp_ge (tgt := 21) (pc' := 8) F (by omega) (by omega) dX7_laysEmpty_5 (by decide) rfl (fun c0 => absurd c0 (by omega)) (fun _ => ?_)
  refine v_aload_n (pc' := 9) F dX7_laysEmpty_8 rfl (j := 1) rfl rfl ?_
  have g8 := f7 _ _ (gnc (g_neA g4 a2) gn0) g4
  refine v_getf (pc' := 12) (v := .ref many) F k_X7_laysEmpty_7 g8 6 (by decide) m_X7_laysEmpty_f19 rfl dX7_laysEmpty_9 rfl ?_
  refine v_iload_n (pc' := 13) F dX7_laysEmpty_12 rfl (j := 0) rfl rfl ?_
  refine v_iconst (pc' := 14) (v := nI 0) F dX7_laysEmpty_13 (by decide) rfl ?_
  refine w_iast (pc' := 15) F a6 (by omega) (by omega) dX7_laysEmpty_14 rfl (fun h9 a10 f11 => ?_)
  refine v_iinc (pc' := 18) (j := 0) (x := nI 2) (v := nI 3) (L' := [(1, .int (nI 3)), (0, .ref m)]) F dX7_laysEmpty_15 rfl (g_eqn (nI_add 2 1) (by omega)) (by decide) rfl rfl ?_
  refine v_goto (tgt := 2) F dX7_laysEmpty_18 (by decide) ?_
  refine v_iload_n (pc' := 3) F dX7_laysEmpty_2 rfl (j := 0) rfl rfl ?_
  refine v_bipush (pc' := 5) (v := nI 6) F dX7_laysEmpty_3 (by decide) rfl ?_
  refine w_icmp_ge (tgt := 21) (pc' := 8) F (by omega) (by omega) dX7_laysEmpty_5 (by decide) rfl (fun c0 => absurd c0 (by omega)) (fun _ => ?_)
  refine v_aload_n (pc' := 9) F dX7_laysEmpty_8 rfl (j := 1) rfl rfl ?_
  have g12 := f11 _ _ (gnc (g_neA g8 a6) gn0) g8
  refine v_getf (pc' := 12) (v := .ref many) F k_X7_laysEmpty_7 g12 6 (by decide) m_X7_laysEmpty_f19 rfl dX7_laysEmpty_9 rfl ?_
  refine v_iload_n (pc' := 13) F dX7_laysEmpty_12 rfl (j := 0) rfl rfl ?_
  refine v_iconst (pc' := 14) (v := nI 0) F dX7_laysEmpty_13 (by decide) rfl ?_
  refine w_iast (pc' := 15) F a10 (by omega) (by omega) dX7_laysEmpty_14 rfl (fun h13 a14 f15 => ?_)
  refine v_iinc (pc' := 18) (j := 0) (x := nI 3) (v := nI 4) (L' := [(1, .int (nI 4)), (0, .ref m)]) F dX7_laysEmpty_15 rfl (g_eqn (nI_add 3 1) (by omega)) (by decide) rfl rfl ?_
  refine v_goto (tgt := 2) F dX7_laysEmpty_18 (by decide) ?_
  refine v_iload_n (pc' := 3) F dX7_laysEmpty_2 rfl (j := 0) rfl rfl ?_
  refine v_bipush (pc' := 5) (v := nI 6) F dX7_laysEmpty_3 (by decide) rfl ?_
  refine w_icmp_ge (tgt := 21) (pc' := 8) F (by omega) (by omega) dX7_laysEmpty_5 (by decide) rfl (fun c0 => absurd c0 (by omega)) (fun _ => ?_)
  refine v_aload_n (pc' := 9) F dX7_laysEmpty_8 rfl (j := 1) rfl rfl ?_
  have g16 := f15 _ _ (gnc (g_neA g12 a10) gn0) g12
  refine v_getf (pc' := 12) (v := .ref many) F k_X7_laysEmpty_7 g16 6 (by decide) m_X7_laysEmpty_f19 rfl dX7_laysEmpty_9 rfl ?_
  refine v_iload_n (pc' := 13) F dX7_laysEmpty_12 rfl (j := 0) rfl rfl ?_
  refine v_iconst (pc' := 14) (v := nI 0) F dX7_laysEmpty_13 (by decide) rfl ?_
  refine w_iast (pc' := 15) F a14 (by omega) (by omega) dX7_laysEmpty_14 rfl (fun h17 a18 f19 => ?_)
  refine v_iinc (pc' := 18) (j := 0) (x := nI 4) (v := nI 5) (L' := [(1, .int (nI 5)), (0, .ref m)]) F dX7_laysEmpty_15 rfl (g_eqn (nI_add 4 1) (by omega)) (by decide) rfl rfl ?_
  refine v_goto (tgt := 2) F dX7_laysEmpty_18 (by decide) ?_
  refine v_iload_n (pc' := 3) F dX7_laysEmpty_2 rfl (j := 0) rfl rfl ?_
  refine v_bipush (pc' := 5) (v := nI 6) F dX7_laysEmpty_3 (by decide) rfl ?_
  refine w_icmp_ge (tgt := 21) (pc' := 8) F (by omega) (by omega) dX7_laysEmpty_5 (by decide) rfl (fun c0 => absurd c0 (by omega)) (fun _ => ?_)
  refine v_aload_n (pc' := 9) F dX7_laysEmpty_8 rfl (j := 1) rfl rfl ?_
  have g20 := f19 _ _ (gnc (g_neA g16 a14) gn0) g16
  refine v_getf (pc' := 12) (v := .ref many) F k_X7_laysEmpty_7 g20 6 (by decide) m_X7_laysEmpty_f19 rfl dX7_laysEmpty_9 rfl ?_
  refine v_iload_n (pc' := 13) F dX7_laysEmpty_12 rfl (j := 0) rfl rfl ?_
  refine v_iconst (pc' := 14) (v := nI 0) F dX7_laysEmpty_13 (by decide) rfl ?_
  refine w_iast (pc' := 15) F a18 (by omega) (by omega) dX7_laysEmpty_14 rfl (fun h21 a22 f23 => ?_)
  refine v_iinc (pc' := 18) (j := 0) (x := nI 5) (v := nI 6) (L' := [(1, .int (nI 6)), (0, .ref m)]) F dX7_laysEmpty_15 rfl (g_eqn (nI_add 5 1) (by omega)) (by decide) rfl rfl ?_
  refine v_goto (tgt := 2) F dX7_laysEmpty_18 (by decide) ?_
  refine v_iload_n (pc' := 3) F dX7_laysEmpty_2 rfl (j := 0) rfl rfl ?_
  refine v_bipush (pc' := 5) (v := nI 6) F dX7_laysEmpty_3 (by decide) rfl ?_
  refine w_icmp_ge (tgt := 21) (pc' := 8) F (by omega) (by omega) dX7_laysEmpty_5 (by decide) rfl (fun _ => ?_) (fun c0 => absurd c0 (by omega))
  refine v_aload_n (pc' := 22) F dX7_laysEmpty_21 rfl (j := 1) rfl rfl ?_
  refine v_iconst (pc' := 23) (v := nI 0) F dX7_laysEmpty_22 (by decide) rfl ?_
  have g24 := f23 _ _ (gnc (g_neA g20 a18) gn0) g20
  refine w_putf (pc' := 26) F k_X7_laysEmpty_7 tyX7_ok nmX7 g24 7 (by decide) m_X7_laysEmpty_f73 rfl  rfl rfl (show 7 < 26 by decide) [.int th, .ref rows, .ref asd, .int now, .int und, .ref vals, .ref many, .int (nI 0), .int rl, .int kd, .int ok, .int st, .ref way, .int wm, .ref told, .ref oth, .ref lst, .ref text, .int fed, .int len, .int spot, .int fa, .int fat, .int num, .int frm, .int may] rfl dX7_laysEmpty_23 rfl (fun h25 a26 f27 => ?_)
  refine v_aload_n (pc' := 27) F dX7_laysEmpty_26 rfl (j := 1) rfl rfl ?_
  refine v_iconst (pc' := 28) (v := nI 0) F dX7_laysEmpty_27 (by decide) rfl ?_
  refine w_putf (pc' := 31) F k_X7_laysEmpty_7 tyX7_ok nmX7 a26 8 (by decide) m_X7_laysEmpty_f76 rfl  rfl rfl (show 8 < 26 by decide) [.int th, .ref rows, .ref asd, .int now, .int und, .ref vals, .ref many, .int (nI 0), .int (nI 0), .int kd, .int ok, .int st, .ref way, .int wm, .ref told, .ref oth, .ref lst, .ref text, .int fed, .int len, .int spot, .int fa, .int fat, .int num, .int frm, .int may] rfl dX7_laysEmpty_28 rfl (fun h28 a29 f30 => ?_)
  refine v_aload_n (pc' := 32) F dX7_laysEmpty_31 rfl (j := 1) rfl rfl ?_
  refine v_iconst (pc' := 33) (v := nI 0) F dX7_laysEmpty_32 (by decide) rfl ?_
  refine w_putf (pc' := 36) F k_X7_laysEmpty_7 tyX7_ok nmX7 a29 9 (by decide) m_X7_laysEmpty_f79 rfl  rfl rfl (show 9 < 26 by decide) [.int th, .ref rows, .ref asd, .int now, .int und, .ref vals, .ref many, .int (nI 0), .int (nI 0), .int (nI 0), .int ok, .int st, .ref way, .int wm, .ref told, .ref oth, .ref lst, .ref text, .int fed, .int len, .int spot, .int fa, .int fat, .int num, .int frm, .int may] rfl dX7_laysEmpty_33 rfl (fun h31 a32 f33 => ?_)
  refine v_aload_n (pc' := 37) F dX7_laysEmpty_36 rfl (j := 1) rfl rfl ?_
  refine v_iconst (pc' := 38) (v := nI 0) F dX7_laysEmpty_37 (by decide) rfl ?_
  refine w_putf (pc' := 41) F k_X7_laysEmpty_7 tyX7_ok nmX7 a32 10 (by decide) m_X7_laysEmpty_f82 rfl  rfl rfl (show 10 < 26 by decide) [.int th, .ref rows, .ref asd, .int now, .int und, .ref vals, .ref many, .int (nI 0), .int (nI 0), .int (nI 0), .int (nI 0), .int st, .ref way, .int wm, .ref told, .ref oth, .ref lst, .ref text, .int fed, .int len, .int spot, .int fa, .int fat, .int num, .int frm, .int may] rfl dX7_laysEmpty_38 rfl (fun h34 a35 f36 => ?_)
  refine v_aload_n (pc' := 42) F dX7_laysEmpty_41 rfl (j := 1) rfl rfl ?_
  refine v_iconst (pc' := 43) (v := nI 0) F dX7_laysEmpty_42 (by decide) rfl ?_
  refine w_putf (pc' := 46) F k_X7_laysEmpty_7 tyX7_ok nmX7 a35 11 (by decide) m_X7_laysEmpty_f85 rfl  rfl rfl (show 11 < 26 by decide) [.int th, .ref rows, .ref asd, .int now, .int und, .ref vals, .ref many, .int (nI 0), .int (nI 0), .int (nI 0), .int (nI 0), .int (nI 0), .ref way, .int wm, .ref told, .ref oth, .ref lst, .ref text, .int fed, .int len, .int spot, .int fa, .int fat, .int num, .int frm, .int may] rfl dX7_laysEmpty_43 rfl (fun h37 a38 f39 => ?_)
  have fr40 : gfr [m, many] h h37 := (gfr.t (gfr.mono f3 (by intro q9 z9 m9; apply z9; simp only [List.mem_cons, List.not_mem_nil, or_false] at m9 ⊢; omega)) (gfr.t (gfr.mono f7 (by intro q9 z9 m9; apply z9; simp only [List.mem_cons, List.not_mem_nil, or_false] at m9 ⊢; omega)) (gfr.t (gfr.mono f11 (by intro q9 z9 m9; apply z9; simp only [List.mem_cons, List.not_mem_nil, or_false] at m9 ⊢; omega)) (gfr.t (gfr.mono f15 (by intro q9 z9 m9; apply z9; simp only [List.mem_cons, List.not_mem_nil, or_false] at m9 ⊢; omega)) (gfr.t (gfr.mono f19 (by intro q9 z9 m9; apply z9; simp only [List.mem_cons, List.not_mem_nil, or_false] at m9 ⊢; omega)) (gfr.t (gfr.mono f23 (by intro q9 z9 m9; apply z9; simp only [List.mem_cons, List.not_mem_nil, or_false] at m9 ⊢; omega)) (gfr.t (gfr.mono f27 (by intro q9 z9 m9; apply z9; simp only [List.mem_cons, List.not_mem_nil, or_false] at m9 ⊢; omega)) (gfr.t (gfr.mono f30 (by intro q9 z9 m9; apply z9; simp only [List.mem_cons, List.not_mem_nil, or_false] at m9 ⊢; omega)) (gfr.t (gfr.mono f33 (by intro q9 z9 m9; apply z9; simp only [List.mem_cons, List.not_mem_nil, or_false] at m9 ⊢; omega)) (gfr.t (gfr.mono f36 (by intro q9 z9 m9; apply z9; simp only [List.mem_cons, List.not_mem_nil, or_false] at m9 ⊢; omega)) (gfr.mono f39 (by intro q9 z9 m9; apply z9; simp only [List.mem_cons, List.not_mem_nil, or_false] at m9 ⊢; omega))))))))))))
  have g41 := f27 _ _ (gnc (Ne.symm (g_neA g24 a22)) gn0) a22
  have g42 := f30 _ _ (gnc (Ne.symm (g_neA a26 g41)) gn0) g41
  have g43 := f33 _ _ (gnc (Ne.symm (g_neA a29 g42)) gn0) g42
  have g44 := f36 _ _ (gnc (Ne.symm (g_neA a32 g43)) gn0) g43
  have g45 := f39 _ _ (gnc (Ne.symm (g_neA a35 g44)) gn0) g44
  exact v_vret F E (by omega) (by omega)  dX7_laysEmpty_46 ⟨rfl, a38, _, g45, fun L hL => ⟨by rcases (show L = 0 ∨ L = 1 ∨ L = 2 ∨ L = 3 ∨ L = 4 ∨ L = 5 by omega) with rfl | rfl | rfl | rfl | rfl | rfl <;> rfl, Nat.zero_le _, fun j hj => absurd hj (by simp)⟩, fr40⟩
