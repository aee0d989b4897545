/-! THE REFERENCE: its laid queue -/
def isMq (G : gG) (h : gH) (vals many : Nat) (q : mQ) : Prop := ∃ (V M : Nat → Int32) (ls : Nat → List Int32), h vals = some (oI G 384 V) ∧ h many = some (oI G 6 M) ∧ mdL V M ls ∧ mdT ls q.1 q.2.1 q.2.2.2.2
theorem qEnd_eq (f r : List Int32) (fl rl : Nat) (T : mT) : qEnd (f, r, fl, rl, T) = if T.1 = 3 then (T.2.2.2.2.2, r, fl, rl, t0) else (f, r, fl, rl, T) := by
  obtain ⟨k, ok, oF, nF, oR, nR⟩ := T
  rfl
theorem qSettle_of {p : Nat} {q : mQ} {f r : List Int32} {fl rl : Nat} {T : mT} (e : qBegin q = (f, r, fl, rl, T)) : qSettle p q = (qEnd (f, r, fl, rl, (tRun p T).1), (tRun p T).2) := by
  unfold qSettle
  rw [e]
def vOk (x : Int32) : Prop := ∃ j : Nat, j < 100 ∧ x = nI j
/-- all values in the lists are values that were pushed -/
def tV (T : mT) : Prop := ∀ x, (x ∈ T.2.2.1 ∨ x ∈ T.2.2.2.1 ∨ x ∈ T.2.2.2.2.1 ∨ x ∈ T.2.2.2.2.2) → vOk x
def qV (q : mQ) : Prop := (∀ x, x ∈ q.1 → vOk x) ∧ (∀ x, x ∈ q.2.1 → vOk x) ∧ tV q.2.2.2.2
theorem tV.step {T T' : mT} (h : tV T) (e : tStep T = some T') : tV T' := by
  unfold tStep at e
  split at e
  · cases e
    intro x hx
    refine h x ?_
    simp only [List.mem_cons] at hx ⊢
    rcases hx with hx | (hx | hx) | hx | (hx | hx) <;> simp [hx]
  · cases e
    intro x hx
    refine h x ?_
    simp only [List.mem_cons, List.not_mem_nil] at hx ⊢
    rcases hx with hx | hx | hx | (hx | hx) <;> simp_all
  · cases e
    intro x hx
    refine h x ?_
    simp only [List.not_mem_nil] at hx ⊢
    rcases hx with hx | hx | hx | hx <;> simp_all
  · cases e
    intro x hx
    refine h x ?_
    simp only [List.mem_cons] at hx ⊢
    rcases hx with hx | hx | hx | (hx | hx) <;> simp [hx]
  · cases e
theorem tV.run : ∀ (p : Nat) {T : mT}, tV T → tV (tRun p T).1
  | 0, T, h => h
  | p + 1, T, h => by
    unfold tRun
    cases e : tStep T with
    | none => exact h
    | some T' => exact tV.run p (h.step e)
theorem tV_0 : tV t0 := fun x hx => by simp [t0] at hx
theorem qV.begins {q : mQ} (h : qV q) : qV (qBegin q) := by
  obtain ⟨f, r, fl, rl, T⟩ := q
  show qV (if fl < rl then (f, [], fl + rl, 0, (1, 0, f, [], r, [])) else (f, r, fl, rl, T))
  split
  · exact ⟨h.1, fun x hx => (by simp at hx), fun x hx => by
      simp only [List.not_mem_nil] at hx
      rcases hx with hx | hx | hx | hx
      · exact h.1 x hx
      · exact hx.elim
      · exact h.2.1 x hx
      · exact hx.elim⟩
  · exact h
theorem qV.ends {q : mQ} (h : qV q) : qV (qEnd q) := by
  obtain ⟨f, r, fl, rl, T⟩ := q
  rw [qEnd_eq]
  split
  · exact ⟨fun x hx => h.2.2 x (.inr (.inr (.inr hx))), h.2.1, tV_0⟩
  · exact h
theorem qV.settle {p : Nat} {q : mQ} (h : qV q) : qV (qSettle p q).1 := by
  have hb := h.begins
  cases e : qBegin q with
  | mk f q1 =>
    obtain ⟨r, fl, rl, T⟩ := q1
    rw [qSettle_of e]
    rw [e] at hb
    exact qV.ends ⟨hb.1, hb.2.1, hb.2.2.run p⟩
theorem qV.put {v : Int32} {q : mQ} (h : qV q) (hv : vOk v) : qV (qPut v q) := by
  obtain ⟨f, r, fl, rl, T⟩ := q
  refine ⟨h.1, fun x hx => ?_, h.2.2⟩
  rcases List.mem_cons.mp hx with rfl | hx
  · exact hv
  · exact h.2.1 x hx
theorem qV.take {q : mQ} (h : qV q) : qV (qTake q) := by
  obtain ⟨f, r, fl, rl, T⟩ := q
  refine ⟨fun x hx => h.1 x (List.mem_of_mem_tail hx), h.2.1, fun x hx => h.2.2 x ?_⟩
  change x ∈ (tLose T).2.2.1 ∨ x ∈ (tLose T).2.2.2.1 ∨ x ∈ (tLose T).2.2.2.2.1 ∨ x ∈ (tLose T).2.2.2.2.2 at hx
  unfold tLose at hx
  split at hx
  · exact hx
  · simp only [List.not_mem_nil] at hx
    rcases hx with hx | hx | hx | hx
    · exact .inl hx
    · exact hx.elim
    · exact .inr (.inr (.inl hx))
    · exact .inr (.inr (.inr (List.mem_of_mem_tail hx)))
  · exact hx
  · exact hx
theorem qOf_V : ∀ {os : List mO}, wOk os → qV (qOf os).1
  | [], _ => ⟨fun x hx => by simp [qOf, q0] at hx, fun x hx => by simp [qOf, q0] at hx, tV_0⟩
  | o :: os, h => by
    have ih := qOf_V h.1
    show qV (qOp (qOf os).1 o).1
    unfold qOp
    split
    · exact ih.take.settle
    · next hn => exact (ih.put (h.2.2.2.2 hn)).settle
theorem m_X7_settles_f76 : Cond.fieldLink RX7 76 "SteadyQueuesModel" "rearLong" "I" ∈ wsX7_settles := by decide +kernel
theorem m_X7_settles_f73 : Cond.fieldLink RX7 73 "SteadyQueuesModel" "frontLong" "I" ∈ wsX7_settles := by decide +kernel
set_option maxHeartbeats 4000000 in
set_option maxRecDepth 100000 in
theorem c_X7_settles (G : gG) (z0 : Nat) (l : Launch) {h : gH} {m rows asd vals many way told oth lst text : Nat} {th now und wm fed len spot fa fat num frm may : Int32} {st : Int32} {b p : Nat} {xs : List Int32} {q : mQ} (hp9 : p < 1000) (hb : b < 64) (hm : h m = some (.inr (7, [.int th, .ref rows, .ref asd, .int now, .int und, .ref vals, .ref many, .int (nI q.2.2.1), .int (nI q.2.2.2.1), .int (nI q.2.2.2.2.1), .int (nI q.2.2.2.2.2.1), .int st, .ref way, .int wm, .ref told, .ref oth, .ref lst, .ref text, .int fed, .int len, .int spot, .int fa, .int fat, .int num, .int frm, .int may]))) (hq : isMq G h vals many q) (hP : qPre b xs p q) : gC G z0 l yX7_settles wsX7_settles 2 42 [.ref m, .int (nI p)] h (fun v h' => v = none ∧ h' m = some (.inr (7, [.int th, .ref rows, .ref asd, .int now, .int und, .ref vals, .ref many, .int (nI ((qSettle p q).1.2.2.1)), .int (nI ((qSettle p q).1.2.2.2.1)), .int (nI ((qSettle p q).1.2.2.2.2.1)), .int (nI ((qSettle p q).1.2.2.2.2.2.1)), .int (nI ((qSettle p q).2)), .ref way, .int wm, .ref told, .ref oth, .ref lst, .ref text, .int fed, .int len, .int spot, .int fa, .int fat, .int num, .int frm, .int may])) ∧ isMq G h' vals many (qSettle p q).1 ∧ gfr [m, vals, many] h h') 0 0 := by
  obtain ⟨f, r, gl, hl, T⟩ := q
  obtain ⟨V, M, ls, hvals, hmany, hls, hT⟩ := hq
  replace hm : h m = some (.inr (7, [.int th, .ref rows, .ref asd, .int now, .int und, .ref vals, .ref many, .int (nI gl), .int (nI hl), .int (nI T.1), .int (nI T.2.1), .int st, .ref way, .int wm, .ref told, .ref oth, .ref lst, .ref text, .int fed, .int len, .int spot, .int fa, .int fat, .int num, .int frm, .int may])) := hm
  change mdT ls f r T at hT
  have hbd : gl + hl ≤ b := by
    unfold qPre qBegin at hP
    by_cases c : gl < hl
    · simp only [if_pos c] at hP
      exact hP.1.2.2.2.1
    · simp only [if_neg c] at hP
      exact hP.1.2.2.2.1
  refine gC_of (cc := cX7_settles) (nL := 3) (ret := none) (by decide) rfl (Nat.le_of_ble_eq_true rfl) ?_
  intro X F E _
  change gF G z0 X cX7_settles 3 RX7 wsX7_settles none "settles" 2 42 _ _ at F
  show gV G z0 X 0 0 h 0 [(0, .ref m), (1, .int (nI p))] []
  refine v_aload_n (pc' := 1) F dX7_settles_0 rfl (j := 0) rfl rfl ?_
  refine v_getf (pc' := 4) (v := .int (nI hl)) F k_X7_settles_7 hm 8 (by decide) m_X7_settles_f76 rfl dX7_settles_1 rfl ?_
  refine v_aload_n (pc' := 5) F dX7_settles_4 rfl (j := 0) rfl rfl ?_
  refine v_getf (pc' := 8) (v := .int (nI gl)) F k_X7_settles_7 hm 7 (by decide) m_X7_settles_f73 rfl dX7_settles_5 rfl ?_
  refine w_icmp_le (tgt := 72) (pc' := 11) F (by omega) (by omega) dX7_settles_8 (by decide) rfl (fun c0 => ?_) (fun c0 => ?_)
  · have e : qBegin (f, r, gl, hl, T) = (f, r, gl, hl, T) := if_neg (by omega)
    unfold qPre at hP
    rw [e] at hP
    refine v_aload_n (pc' := 73) F dX7_settles_72 rfl (j := 0) rfl rfl ?_
    refine v_iconst (pc' := 74) (v := nI 0) F dX7_settles_73 (by decide) rfl ?_
    refine w_putf (pc' := 77) F k_X7_settles_7 tyX7_ok nmX7 hm 11 (by decide) m_X7_settles_f85 rfl  rfl rfl (show 11 < 26 by decide) [.int th, .ref rows, .ref asd, .int now, .int und, .ref vals, .ref many, .int (nI gl), .int (nI hl), .int (nI T.1), .int (nI T.2.1), .int (nI 0), .ref way, .int wm, .ref told, .ref oth, .ref lst, .ref text, .int fed, .int len, .int spot, .int fa, .int fat, .int num, .int frm, .int may] rfl dX7_settles_74 rfl (fun h1 a2 f3 => ?_)
    have hM := hP.1
    have hS := (tRun_M p hM).1.small (by omega)
    have e9 := qSettle_of (p := p) e
    rw [qEnd_eq] at e9
    refine v_sub (L' := [(1, .int (nI p)), (0, .ref m)]) [1, 0] rfl ?_
    have fr4 : gfr [m, vals, many] h h1 := (gfr.mono f3 (by intro q9 z9 m9; apply z9; simp only [List.mem_cons, List.not_mem_nil, or_false] at m9 ⊢; omega))
    have g5 := f3 _ _ (gnc (Ne.symm (g_neA hm hvals)) gn0) hvals
    have g6 := f3 _ _ (gnc (Ne.symm (g_neA hm hmany)) gn0) hmany
    refine lp_X7_settles (l := l) (k := 0) (j := p) (T := T) F (by omega) (by omega) (by omega) hb a2 g5 g6 hls hT hM (by omega) (fun h9 V9 M9 ls9 a1 a2 a3 a4 a5 a6 => ?_)
    rw [Nat.zero_add] at a1
    refine lpE_X7_settles (l := l) F E (by omega) (by omega) a1 a2 a3 a4 a5 hS.1 hS.2 (fun c3 hB VB MB lsB b1 b2 b3 b4 b5 b6 => ?_) (fun c3 hB VB MB lsB b1 b2 b3 b4 b5 b6 => ?_)
    · rw [if_pos c3] at e9
      exact ⟨rfl, by rw [e9]; exact b1, ⟨VB, MB, lsB, b2, b3, b4, by rw [e9]; exact b5⟩, gfr.t fr4 (gfr.t a6 b6)⟩
    · rw [if_neg c3] at e9
      exact ⟨rfl, by rw [e9]; exact b1, ⟨VB, MB, lsB, b2, b3, b4, by rw [e9]; exact b5⟩, gfr.t fr4 (gfr.t a6 b6)⟩
  · have e : qBegin (f, r, gl, hl, T) = (f, [], gl + hl, 0, (1, 0, f, [], r, [])) := if_pos (by omega)
    unfold qPre at hP
    rw [e] at hP
    refine v_aload_n (pc' := 12) F dX7_settles_11 rfl (j := 0) rfl rfl ?_
    refine v_iconst (pc' := 13) (v := nI 1) F dX7_settles_12 (by decide) rfl ?_
    refine w_putf (pc' := 16) F k_X7_settles_7 tyX7_ok nmX7 hm 9 (by decide) m_X7_settles_f79 rfl  rfl rfl (show 9 < 26 by decide) [.int th, .ref rows, .ref asd, .int now, .int und, .ref vals, .ref many, .int (nI gl), .int (nI hl), .int (nI 1), .int (nI T.2.1), .int st, .ref way, .int wm, .ref told, .ref oth, .ref lst, .ref text, .int fed, .int len, .int spot, .int fa, .int fat, .int num, .int frm, .int may] rfl dX7_settles_13 rfl (fun h7 a8 f9 => ?_)
    refine v_aload_n (pc' := 17) F dX7_settles_16 rfl (j := 0) rfl rfl ?_
    refine v_iconst (pc' := 18) (v := nI 0) F dX7_settles_17 (by decide) rfl ?_
    refine w_putf (pc' := 21) F k_X7_settles_7 tyX7_ok nmX7 a8 10 (by decide) m_X7_settles_f82 rfl  rfl rfl (show 10 < 26 by decide) [.int th, .ref rows, .ref asd, .int now, .int und, .ref vals, .ref many, .int (nI gl), .int (nI hl), .int (nI 1), .int (nI 0), .int st, .ref way, .int wm, .ref told, .ref oth, .ref lst, .ref text, .int fed, .int len, .int spot, .int fa, .int fat, .int num, .int frm, .int may] rfl dX7_settles_18 rfl (fun h10 a11 f12 => ?_)
    refine v_aload_n (pc' := 22) F dX7_settles_21 rfl (j := 0) rfl rfl ?_
    refine v_iconst (pc' := 23) (v := nI 2) F dX7_settles_22 (by decide) rfl ?_
    refine v_iconst (pc' := 24) (v := nI 0) F dX7_settles_23 (by decide) rfl ?_
    have g13 := f9 _ _ (gnc (Ne.symm (g_neA hm hvals)) gn0) hvals
    have g14 := f12 _ _ (gnc (Ne.symm (g_neA a8 g13)) gn0) g13
    have g15 := f9 _ _ (gnc (Ne.symm (g_neA hm hmany)) gn0) hmany
    have g16 := f12 _ _ (gnc (Ne.symm (g_neA a8 g15)) gn0) g15
    refine v_callV (pc' := 27) (rt := none) (mcc := 0) (msc := 0) (As := [.int (nI 2), .int (nI 0)]) (st := []) F (fun l => c_X7_becomes G z0 l (a := 2) (b := 0) a11 g14 g16 hls (by omega) (by omega) (by omega)) gX7_settles_X7_becomes rfl hv_X7_becomes (by decide) (by decide) a11 rfl rfl rfl (Nat.le_of_ble_eq_true rfl) (by omega) (by omega) dX7_settles_24 rfl (fun v18 h17 hq => ?_)
    obtain ⟨rfl, V2, M2, hv2, hy2, hl2, fS2⟩ := hq
    refine v_aload_n (pc' := 28) F dX7_settles_27 rfl (j := 0) rfl rfl ?_
    refine v_iconst (pc' := 29) (v := nI 4) F dX7_settles_28 (by decide) rfl ?_
    refine v_iconst (pc' := 30) (v := nI 1) F dX7_settles_29 (by decide) rfl ?_
    have g19 := fS2 _ _ (gnc (g_neA a11 g14) (gnc (g_neA a11 g16) gn0)) a11
    refine v_callV (pc' := 33) (rt := none) (mcc := 0) (msc := 0) (As := [.int (nI 4), .int (nI 1)]) (st := []) F (fun l => c_X7_becomes G z0 l (a := 4) (b := 1) g19 hv2 hy2 hl2 (by omega) (by omega) (by omega)) gX7_settles_X7_becomes rfl hv_X7_becomes (by decide) (by decide) g19 rfl rfl rfl (Nat.le_of_ble_eq_true rfl) (by omega) (by omega) dX7_settles_30 rfl (fun v21 h20 hq => ?_)
    obtain ⟨rfl, V4, M4, hv4, hy4, hl4, fS4⟩ := hq
    refine v_aload_n (pc' := 34) F dX7_settles_33 rfl (j := 0) rfl rfl ?_
    have g22 := fS4 _ _ (gnc (g_neA g19 hv2) (gnc (g_neA g19 hy2) gn0)) g19
    refine v_getf (pc' := 37) (v := .ref many) F k_X7_settles_7 g22 6 (by decide) m_X7_settles_f19 rfl dX7_settles_34 rfl ?_
    refine v_iconst (pc' := 38) (v := nI 3) F dX7_settles_37 (by decide) rfl ?_
    refine v_iconst (pc' := 39) (v := nI 0) F dX7_settles_38 (by decide) rfl ?_
    refine w_iast (pc' := 40) F hy4 (by omega) (by omega) dX7_settles_39 rfl (fun h23 a24 f25 => ?_)
    refine v_aload_n (pc' := 41) F dX7_settles_40 rfl (j := 0) rfl rfl ?_
    have g26 := f25 _ _ (gnc (g_neA g22 hy4) gn0) g22
    refine v_getf (pc' := 44) (v := .ref many) F k_X7_settles_7 g26 6 (by decide) m_X7_settles_f19 rfl dX7_settles_41 rfl ?_
    refine v_iconst (pc' := 45) (v := nI 5) F dX7_settles_44 (by decide) rfl ?_
    refine v_iconst (pc' := 46) (v := nI 0) F dX7_settles_45 (by decide) rfl ?_
    refine w_iast (pc' := 47) F a24 (by omega) (by omega) dX7_settles_46 rfl (fun h27 a28 f29 => ?_)
    refine v_aload_n (pc' := 48) F dX7_settles_47 rfl (j := 0) rfl rfl ?_
    have g30 := f29 _ _ (gnc (g_neA g26 a24) gn0) g26
    refine v_getf (pc' := 51) (v := .ref many) F k_X7_settles_7 g30 6 (by decide) m_X7_settles_f19 rfl dX7_settles_48 rfl ?_
    refine v_iconst (pc' := 52) (v := nI 1) F dX7_settles_51 (by decide) rfl ?_
    refine v_iconst (pc' := 53) (v := nI 0) F dX7_settles_52 (by decide) rfl ?_
    refine w_iast (pc' := 54) F a28 (by omega) (by omega) dX7_settles_53 rfl (fun h31 a32 f33 => ?_)
    refine v_aload_n (pc' := 55) F dX7_settles_54 rfl (j := 0) rfl rfl ?_
    refine v_dup (pc' := 56) F dX7_settles_55 rfl rfl ?_
    have g34 := f33 _ _ (gnc (g_neA g30 a28) gn0) g30
    refine v_getf (pc' := 59) (v := .int (nI gl)) F k_X7_settles_7 g34 7 (by decide) m_X7_settles_f73 rfl dX7_settles_56 rfl ?_
    refine v_aload_n (pc' := 60) F dX7_settles_59 rfl (j := 0) rfl rfl ?_
    refine v_getf (pc' := 63) (v := .int (nI hl)) F k_X7_settles_7 g34 8 (by decide) m_X7_settles_f76 rfl dX7_settles_60 rfl ?_
    refine v_iadd (pc' := 64) (v := nI (gl + hl)) F dX7_settles_63 (nI_add gl hl) rfl ?_
    refine w_putf (pc' := 67) F k_X7_settles_7 tyX7_ok nmX7 g34 7 (by decide) m_X7_settles_f73 rfl  rfl rfl (show 7 < 26 by decide) [.int th, .ref rows, .ref asd, .int now, .int und, .ref vals, .ref many, .int (nI (gl + hl)), .int (nI hl), .int (nI 1), .int (nI 0), .int st, .ref way, .int wm, .ref told, .ref oth, .ref lst, .ref text, .int fed, .int len, .int spot, .int fa, .int fat, .int num, .int frm, .int may] rfl dX7_settles_64 rfl (fun h35 a36 f37 => ?_)
    refine v_aload_n (pc' := 68) F dX7_settles_67 rfl (j := 0) rfl rfl ?_
    refine v_iconst (pc' := 69) (v := nI 0) F dX7_settles_68 (by decide) rfl ?_
    refine w_putf (pc' := 72) F k_X7_settles_7 tyX7_ok nmX7 a36 8 (by decide) m_X7_settles_f76 rfl  rfl rfl (show 8 < 26 by decide) [.int th, .ref rows, .ref asd, .int now, .int und, .ref vals, .ref many, .int (nI (gl + hl)), .int (nI 0), .int (nI 1), .int (nI 0), .int st, .ref way, .int wm, .ref told, .ref oth, .ref lst, .ref text, .int fed, .int len, .int spot, .int fa, .int fat, .int num, .int frm, .int may] rfl dX7_settles_69 rfl (fun h38 a39 f40 => ?_)
    refine v_aload_n (pc' := 73) F dX7_settles_72 rfl (j := 0) rfl rfl ?_
    refine v_iconst (pc' := 74) (v := nI 0) F dX7_settles_73 (by decide) rfl ?_
    refine w_putf (pc' := 77) F k_X7_settles_7 tyX7_ok nmX7 a39 11 (by decide) m_X7_settles_f85 rfl  rfl rfl (show 11 < 26 by decide) [.int th, .ref rows, .ref asd, .int now, .int und, .ref vals, .ref many, .int (nI (gl + hl)), .int (nI 0), .int (nI 1), .int (nI 0), .int (nI 0), .ref way, .int wm, .ref told, .ref oth, .ref lst, .ref text, .int fed, .int len, .int spot, .int fa, .int fat, .int num, .int frm, .int may] rfl dX7_settles_74 rfl (fun h41 a42 f43 => ?_)
    obtain ⟨q0, q1, q2, q3, q4, q5⟩ := hT
    have hM := hP.1
    have hS := (tRun_M p hM).1.small (by omega)
    have e9 := qSettle_of (p := p) e
    rw [qEnd_eq] at e9
    refine v_sub (L' := [(1, .int (nI p)), (0, .ref m)]) [1, 0] rfl ?_
    have fr44 : gfr [m, vals, many] h h41 := (gfr.t (gfr.mono f9 (by intro q9 z9 m9; apply z9; simp only [List.mem_cons, List.not_mem_nil, or_false] at m9 ⊢; omega)) (gfr.t (gfr.mono f12 (by intro q9 z9 m9; apply z9; simp only [List.mem_cons, List.not_mem_nil, or_false] at m9 ⊢; omega)) (gfr.t (gfr.mono fS2 (by intro q9 z9 m9; apply z9; simp only [List.mem_cons, List.not_mem_nil, or_false] at m9 ⊢; omega)) (gfr.t (gfr.mono fS4 (by intro q9 z9 m9; apply z9; simp only [List.mem_cons, List.not_mem_nil, or_false] at m9 ⊢; omega)) (gfr.t (gfr.mono f25 (by intro q9 z9 m9; apply z9; simp only [List.mem_cons, List.not_mem_nil, or_false] at m9 ⊢; omega)) (gfr.t (gfr.mono f29 (by intro q9 z9 m9; apply z9; simp only [List.mem_cons, List.not_mem_nil, or_false] at m9 ⊢; omega)) (gfr.t (gfr.mono f33 (by intro q9 z9 m9; apply z9; simp only [List.mem_cons, List.not_mem_nil, or_false] at m9 ⊢; omega)) (gfr.t (gfr.mono f37 (by intro q9 z9 m9; apply z9; simp only [List.mem_cons, List.not_mem_nil, or_false] at m9 ⊢; omega)) (gfr.t (gfr.mono f40 (by intro q9 z9 m9; apply z9; simp only [List.mem_cons, List.not_mem_nil, or_false] at m9 ⊢; omega)) (gfr.mono f43 (by intro q9 z9 m9; apply z9; simp only [List.mem_cons, List.not_mem_nil, or_false] at m9 ⊢; omega)))))))))))
    have g45 := f25 _ _ (gnc (g_neL hvals hmany (by decide)) gn0) hv4
    have g46 := f29 _ _ (gnc (g_neL hvals hmany (by decide)) gn0) g45
    have g47 := f33 _ _ (gnc (g_neL hvals hmany (by decide)) gn0) g46
    have g48 := f37 _ _ (gnc (Ne.symm (g_neA g34 g47)) gn0) g47
    have g49 := f40 _ _ (gnc (Ne.symm (g_neA a36 g48)) gn0) g48
    have g50 := f43 _ _ (gnc (Ne.symm (g_neA a39 g49)) gn0) g49
    have g51 := f37 _ _ (gnc (Ne.symm (g_neA g34 a32)) gn0) a32
    have g52 := f40 _ _ (gnc (Ne.symm (g_neA a36 g51)) gn0) g51
    have g53 := f43 _ _ (gnc (Ne.symm (g_neA a39 g52)) gn0) g52
    refine lp_X7_settles (l := l) (k := 0) (j := p) (T := (1, 0, f, [], r, [])) F (by omega) (by omega) (by omega) hb a42 g50 g53 (((hl4.clear 3).clear 5).clear 1) ⟨by simp [va_up, q0], by simp [va_up], by simp [va_up, q0], fun _ => by simp [va_up], by simp [va_up, q1], by simp [va_up]⟩ hM (by omega) (fun h9 V9 M9 ls9 a1 a2 a3 a4 a5 a6 => ?_)
    rw [Nat.zero_add] at a1
    refine lpE_X7_settles (l := l) F E (by omega) (by omega) a1 a2 a3 a4 a5 hS.1 hS.2 (fun c3 hB VB MB lsB b1 b2 b3 b4 b5 b6 => ?_) (fun c3 hB VB MB lsB b1 b2 b3 b4 b5 b6 => ?_)
    · rw [if_pos c3] at e9
      exact ⟨rfl, by rw [e9]; exact b1, ⟨VB, MB, lsB, b2, b3, b4, by rw [e9]; exact b5⟩, gfr.t fr44 (gfr.t a6 b6)⟩
    · rw [if_neg c3] at e9
      exact ⟨rfl, by rw [e9]; exact b1, ⟨VB, MB, lsB, b2, b3, b4, by rw [e9]; exact b5⟩, gfr.t fr44 (gfr.t a6 b6)⟩
