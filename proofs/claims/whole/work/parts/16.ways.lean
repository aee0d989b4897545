/-! A VERSION'S VALUES INTO A ROW -/
def wPu (os : List mO) : List Int32 := (os.map (·.1)).reverse
theorem wPu_len (os : List mO) : (wPu os).length = os.length := by simp [wPu]
theorem wPu_cons (o : mO) (os : List mO) : wPu (o :: os) = wPu os ++ [o.1] := by simp [wPu]
/-- what is left when the first p pushes are gone -/
def cW : List Int32 → Nat → List Int32
  | [], _ => []
  | x :: xs, p => if x = -1 then cW xs p else if 0 < p then cW xs (p - 1) else x :: cW xs p
def cP : List Int32 → Nat
  | [] => 0
  | x :: xs => if x = -1 then cP xs + 1 else cP xs
theorem cP_le : ∀ (xs : List Int32), cP xs ≤ xs.length
  | [] => Nat.le_refl 0
  | x :: xs => by
    have := cP_le xs
    simp only [cP, List.length_cons]
    split <;> omega
theorem cW_le : ∀ (xs : List Int32) (p : Nat), (cW xs p).length ≤ xs.length
  | [], _ => Nat.le_refl 0
  | x :: xs, p => by
    simp only [cW]
    split
    · exact Nat.le_succ_of_le (cW_le xs p)
    · split
      · exact Nat.le_succ_of_le (cW_le xs (p - 1))
      · simp only [List.length_cons]; exact Nat.succ_le_succ (cW_le xs p)
theorem cW_eq : ∀ (xs : List Int32) (p : Nat), cW xs p = (xs.filter (fun x => !(x == -1))).drop p
  | [], p => by simp [cW]
  | x :: xs, p => by
    simp only [cW]
    by_cases h : x = -1
    · rw [if_pos h, cW_eq xs p, List.filter_cons_of_neg (by simp [h])]
    · rw [if_neg h, List.filter_cons_of_pos (by simp [h])]
      cases p with
      | zero => rw [if_neg (by decide), cW_eq xs 0]; rfl
      | succ p => rw [if_pos (by omega), Nat.add_sub_cancel, cW_eq xs p]; rfl
theorem cP_app : ∀ (xs ys : List Int32), cP (xs ++ ys) = cP xs + cP ys
  | [], ys => by simp [cP]
  | x :: xs, ys => by
    simp only [cP, List.cons_append, cP_app xs ys]
    split <;> omega
theorem nI_m1 {j : Nat} (h : j < 100) : nI j ≠ -1 := by
  intro q
  have h1 := congrArg Int32.toInt q
  rw [nI_toInt (by omega)] at h1
  have : ((-1 : Int32).toInt) = -1 := by decide
  omega
theorem wVals_eq : ∀ {os : List mO}, wOk os → wVals os = ((wPu os).filter (fun x => !(x == -1))).drop (cP (wPu os)) ∧ cP (wPu os) ≤ ((wPu os).filter (fun x => !(x == -1))).length
  | [], _ => ⟨rfl, Nat.le_refl _⟩
  | o :: os, h => by
    obtain ⟨h1, h2, h3, h4, h5⟩ := h
    obtain ⟨i1, i2⟩ := wVals_eq h1
    rw [wPu_cons, List.filter_append, cP_app]
    unfold wVals
    by_cases ho : o.1 = -1
    · have hne := h4 ho
      rw [i1] at hne
      have hlt : cP (wPu os) < ((wPu os).filter (fun x => !(x == -1))).length := by
        rcases Nat.lt_or_ge (cP (wPu os)) ((wPu os).filter (fun x => !(x == -1))).length with z | z
        · exact z
        · exact absurd (List.drop_of_length_le z) hne
      have e1 : [o.1].filter (fun x => !(x == -1)) = [] := by simp [ho]
      have e2 : cP [o.1] = 1 := by simp [cP, ho]
      rw [if_pos ho, e1, e2, List.append_nil, i1, List.tail_drop]
      exact ⟨rfl, hlt⟩
    · have e1 : [o.1].filter (fun x => !(x == -1)) = [o.1] := by simp [ho]
      have e2 : cP [o.1] = 0 := by simp [cP, ho]
      rw [if_neg ho, e1, e2, Nat.add_zero, i1, List.drop_append_of_le_length i2]
      exact ⟨rfl, by simp; omega⟩
theorem cW_way {os : List mO} (h : wOk os) : cW (wPu os) (cP (wPu os)) = wVals os := by rw [cW_eq, (wVals_eq h).1]
theorem wVals_le : ∀ (os : List mO), (wVals os).length ≤ os.length
  | [] => Nat.le_refl 0
  | o :: os => by
    have := wVals_le os
    unfold wVals
    split
    · simp; omega
    · simp; omega
theorem fHas.getD {f : Nat → Int32} {ys : List Int32} (h : fHas f 0 ys) {j : Nat} (hj : j < ys.length) : f j = ys.getD j 0 := by have := h j hj; rwa [Nat.zero_add] at this
theorem k_X5_wayInto_5 : gCl wsX5_wayInto 5 RX5 TX5 9 := ⟨by decide +kernel, rfl⟩
theorem m_X5_wayInto_f35 : Cond.fieldLink RX5 35 "SteadyQueues$Version" "parent" "LSteadyQueues$Version;" ∈ wsX5_wayInto := by decide +kernel
theorem m_X5_wayInto_f42 : Cond.fieldLink RX5 42 "SteadyQueues$Version" "depth" "I" ∈ wsX5_wayInto := by decide +kernel
theorem m_X5_wayInto_f39 : Cond.fieldLink RX5 39 "SteadyQueues$Version" "pushed" "I" ∈ wsX5_wayInto := by decide +kernel
set_option maxHeartbeats 4000000 in
set_option maxRecDepth 100000 in
theorem lp_X5_wayInto {G : gG} {z0 : Nat} {X : gX} {h : gH} {mc ms cells slots v v0 w N : Nat} {os : List mO} {f : Nat → Int32} (F : gF G z0 X cX5_wayInto 4 RX5 wsX5_wayInto (some .int) "wayInto" 0 0 mc ms) (hN : N < 65536) (hV : isV h os v) (hw : h w = some (oI G N f)) (hl : os.length ≤ N) (K : ∀ (h' : gH) (f' : Nat → Int32), h' w = some (oI G N f') → gfr [w] h h' → fHas f' 0 (wPu os) → (∀ j, os.length ≤ j → f' j = f j) → ∀ v2 : Nat, gV G z0 X cells slots h' 41 [(2, .ref v2), (1, .ref w), (0, .ref v0)] []) : gV G z0 X cells slots h 2 [(2, .ref v), (1, .ref w), (0, .ref v0)] [] := by
  induction os generalizing v h f with
  | nil =>
    obtain ⟨t, a, b, hv⟩ := hV.nil
    refine v_aload_n (pc' := 3) F dX5_wayInto_2 rfl (j := 0) rfl rfl ?_
    refine v_getf (pc' := 6) (v := .null) F k_X5_wayInto_5 hv 0 (by decide) m_X5_wayInto_f35 rfl dX5_wayInto_3 rfl ?_
    refine v_ifnullN (tgt := 41) F dX5_wayInto_6 (by decide) ?_
    exact K h f hw gfr.rf (fun j hj => by simp [wPu] at hj) (fun _ _ => rfl) v
  | cons o os ih =>
    obtain ⟨u, hU, t, a, b, hv⟩ := hV.cons
    simp only [List.length_cons] at hl
    refine v_aload_n (pc' := 3) F dX5_wayInto_2 rfl (j := 0) rfl rfl ?_
    refine v_getf (pc' := 6) (v := .ref u) F k_X5_wayInto_5 hv 0 (by decide) m_X5_wayInto_f35 rfl dX5_wayInto_3 rfl ?_
    refine v_ifnull (pc' := 9) F dX5_wayInto_6 rfl ?_
    refine v_aload_n (pc' := 10) F dX5_wayInto_9 rfl (j := 0) rfl rfl ?_
    refine v_getf (pc' := 13) (v := .int (nI (os.length + 1))) F k_X5_wayInto_5 hv 2 (by decide) m_X5_wayInto_f42 rfl dX5_wayInto_10 rfl ?_
    refine v_iconst (pc' := 14) (v := nI 1) F dX5_wayInto_13 (by decide) rfl ?_
    refine v_isub (pc' := 15) (v := nI os.length) F dX5_wayInto_14 (g_subn (by omega) (by omega)) rfl ?_
    refine v_istore_n (pc' := 16) (i := 3) (L' := [(3, .int (nI os.length)), (2, .ref v), (1, .ref w), (0, .ref v0)]) F dX5_wayInto_15 rfl (by decide) rfl rfl ?_
    refine v_iload_n (pc' := 17) F dX5_wayInto_16 rfl (j := 0) rfl rfl ?_
    refine w_if_lt (tgt := 33) (pc' := 20) F (by omega) dX5_wayInto_17 (by decide) rfl (fun c0 => absurd c0 (by omega)) (fun _ => ?_)
    refine v_iload_n (pc' := 21) F dX5_wayInto_20 rfl (j := 0) rfl rfl ?_
    refine v_aload_n (pc' := 22) F dX5_wayInto_21 rfl (j := 2) rfl rfl ?_
    refine w_alenI (pc' := 23) F hw dX5_wayInto_22 rfl ?_
    refine w_icmp_ge (tgt := 33) (pc' := 26) F (by omega) (by omega) dX5_wayInto_23 (by decide) rfl (fun c0 => absurd c0 (by omega)) (fun _ => ?_)
    refine v_aload_n (pc' := 27) F dX5_wayInto_26 rfl (j := 2) rfl rfl ?_
    refine v_iload_n (pc' := 28) F dX5_wayInto_27 rfl (j := 0) rfl rfl ?_
    refine v_aload_n (pc' := 29) F dX5_wayInto_28 rfl (j := 1) rfl rfl ?_
    refine v_getf (pc' := 32) (v := .int o.1) F k_X5_wayInto_5 hv 1 (by decide) m_X5_wayInto_f39 rfl dX5_wayInto_29 rfl ?_
    refine w_iast (pc' := 33) F hw (by omega) (by omega) dX5_wayInto_32 rfl (fun h1 a2 f3 => ?_)
    refine v_aload_n (pc' := 34) F dX5_wayInto_33 rfl (j := 1) rfl rfl ?_
    have g4 := f3 _ _ (gnc (g_neA hv hw) gn0) hv
    refine v_getf (pc' := 37) (v := .ref u) F k_X5_wayInto_5 g4 0 (by decide) m_X5_wayInto_f35 rfl dX5_wayInto_34 rfl ?_
    refine v_astore_n (pc' := 38) (i := 2) (L' := [(2, .ref u), (3, .int (nI os.length)), (1, .ref w), (0, .ref v0)]) F dX5_wayInto_37 rfl (by decide) rfl rfl ?_
    refine v_goto (tgt := 2) F dX5_wayInto_38 (by decide) ?_
    have fr5 : gfr [w] h h1 := f3
    have pv := gfr.pv fr5 (by intro a9 m9 ci9 fs9 c9 z9; rw [List.mem_singleton.mp m9, hw] at z9; cases z9)
    refine v_sub (L' := [(2, .ref u), (1, .ref w), (0, .ref v0)]) [0, 2, 3] rfl ?_
    exact ih (hU.pv pv) a2 (by omega) (fun h' f' q1 q2 q3 q4 v2 => K h' f' q1 (gfr.t fr5 q2) (by rw [wPu_cons]; refine q3.app ?_; intro j hj; rw [List.length_singleton] at hj; rw [show j = 0 by omega, Nat.add_zero, Nat.zero_add, wPu_len, q4 _ (Nat.le_refl _), upd_eq]; rfl) (fun j hj => by rw [List.length_cons] at hj; rw [q4 j (by omega), upd_ne (by omega)]) v2)
set_option maxHeartbeats 4000000 in
set_option maxRecDepth 100000 in
theorem c_X5_wayInto (G : gG) (z0 : Nat) (l : Launch) {h : gH} {v w N : Nat} {os : List mO} {f : Nat → Int32} (hN : N < 65536) (hV : isV h os v) (hw : h w = some (oI G N f)) (hl : os.length ≤ N) : gC G z0 l yX5_wayInto wsX5_wayInto 0 0 [.ref v, .ref w] h (fun o h' => o = some (.int (nI os.length)) ∧ ∃ f', h' w = some (oI G N f') ∧ fHas f' 0 (wPu os) ∧ gfr [w] h h') 0 0 := by
  refine gC_of (cc := cX5_wayInto) (nL := 4) (ret := (some .int)) (by decide) rfl (Nat.le_of_ble_eq_true rfl) ?_
  intro X F E _
  change gF G z0 X cX5_wayInto 4 RX5 wsX5_wayInto (some .int) "wayInto" 0 0 _ _ at F
  show gV G z0 X 0 0 h 0 [(0, .ref v), (1, .ref w)] []
  refine v_aload_n (pc' := 1) F dX5_wayInto_0 rfl (j := 0) rfl rfl ?_
  refine v_astore_n (pc' := 2) (i := 2) (L' := [(2, .ref v), (0, .ref v), (1, .ref w)]) F dX5_wayInto_1 rfl (by decide) rfl rfl ?_
  refine v_sub (L' := [(2, .ref v), (1, .ref w), (0, .ref v)]) [0, 2, 1] rfl ?_
  refine lp_X5_wayInto F hN hV hw hl (fun h1 f1 q1 q2 q3 q4 v2 => ?_)
  obtain ⟨par, pu, t, a, b, hv, -⟩ := hV.obj
  have hv1 := q2 _ _ (gnc (g_neA hv hw) gn0) hv
  refine v_aload_n (pc' := 42) F dX5_wayInto_41 rfl (j := 2) rfl rfl ?_
  refine v_getf (pc' := 45) (v := .int (nI os.length)) F k_X5_wayInto_5 hv1 2 (by decide) m_X5_wayInto_f42 rfl dX5_wayInto_42 rfl ?_
  refine v_aload_n (pc' := 46) F dX5_wayInto_45 rfl (j := 1) rfl rfl ?_
  refine w_alenI (pc' := 47) F q1 dX5_wayInto_46 rfl ?_
  refine w_icmp_ge (tgt := 57) (pc' := 50) F (by omega) (by omega) dX5_wayInto_47 (by decide) rfl (fun c => ?_) (fun c => ?_)
  · refine v_aload_n (pc' := 58) F dX5_wayInto_57 rfl (j := 1) rfl rfl ?_
    refine w_alenI (pc' := 59) F q1 dX5_wayInto_58 rfl ?_
    exact v_iret F E (by omega) (by omega)  dX5_wayInto_59 ⟨by rw [show os.length = N by omega], f1, q1, q3, q2⟩
  · refine v_aload_n (pc' := 51) F dX5_wayInto_50 rfl (j := 2) rfl rfl ?_
    refine v_getf (pc' := 54) (v := .int (nI os.length)) F k_X5_wayInto_5 hv1 2 (by decide) m_X5_wayInto_f42 rfl dX5_wayInto_51 rfl ?_
    refine v_goto (tgt := 59) F dX5_wayInto_54 (by decide) ?_
    exact v_iret F E (by omega) (by omega)  dX5_wayInto_59 ⟨rfl, f1, q1, q3, q2⟩
theorem qVals_parts {b : Nat} {xs f r : List Int32} {fl rl k ok : Nat} {oF nF oR nR : List Int32} (hJ : qJ b xs (f, r, fl, rl, (k, ok, oF, nF, oR, nR))) : f.length ≤ b ∧ nR.length ≤ b ∧ oR.length ≤ b ∧ r.length ≤ b ∧ ok ≤ b ∧ k < 4 ∧ (qVals (f, r, fl, rl, (k, ok, oF, nF, oR, nR))).length ≤ b := by
  have hv := hJ.vals
  obtain ⟨⟨h1, h2, h3, h4, h5⟩, j⟩ := hJ
  rw [hv]
  refine ⟨h3, ?_, ?_, by omega, ?_, ?_, by omega⟩
  all_goals rcases h5 with ⟨rfl, rfl, rfl, rfl, rfl, rfl, h6, h7⟩ | ⟨rfl, h6, h7, h8, h9, h10, h11, h12⟩ | ⟨rfl, h6, h7, h8, rfl, rfl, h11, h12, h13⟩ | ⟨rfl, h6, h7, rfl, rfl, rfl, rfl⟩ <;> (try simp only [List.length_nil]) <;> omega
theorem k_X5_valuesInto_5 : gCl wsX5_valuesInto 5 RX5 TX5 9 := ⟨by decide +kernel, rfl⟩
theorem m_X5_valuesInto_f12 : Cond.fieldLink RX5 12 "SteadyQueues$Version" "turn" "LSteadyQueues$Turn;" ∈ wsX5_valuesInto := by decide +kernel
theorem k_X5_valuesInto_4 : gCl wsX5_valuesInto 4 RX4 TX4 6 := ⟨by decide +kernel, rfl⟩
theorem m_X5_valuesInto_f69 : Cond.fieldLink RX5 69 "SteadyQueues$Turn" "kind" "I" ∈ wsX5_valuesInto := by decide +kernel
theorem m_X5_valuesInto_f88 : Cond.fieldLink RX5 88 "SteadyQueues$Turn" "ok" "I" ∈ wsX5_valuesInto := by decide +kernel
theorem m_X5_valuesInto_f18 : Cond.fieldLink RX5 18 "SteadyQueues$Version" "front" "LSteadyQueues$Cell;" ∈ wsX5_valuesInto := by decide +kernel
theorem hd_X1_writeFirst : yX1_writeFirst.cls ≠ "java/lang/invoke/MethodHandle" ∧ yX1_writeFirst.cls ≠ "java/lang/invoke/VarHandle" ∧ (parseMethodDescriptor yX1_writeFirst.desc).map (fun d => d.parameters.length) = some 4 := by decide +kernel
theorem m_X5_valuesInto_f82 : Cond.fieldLink RX5 82 "SteadyQueues$Turn" "oldRear" "LSteadyQueues$Cell;" ∈ wsX5_valuesInto := by decide +kernel
theorem hd_X1_writeReversed : yX1_writeReversed.cls ≠ "java/lang/invoke/MethodHandle" ∧ yX1_writeReversed.cls ≠ "java/lang/invoke/VarHandle" ∧ (parseMethodDescriptor yX1_writeReversed.desc).map (fun d => d.parameters.length) = some 3 := by decide +kernel
theorem m_X5_valuesInto_f85 : Cond.fieldLink RX5 85 "SteadyQueues$Turn" "newRear" "LSteadyQueues$Cell;" ∈ wsX5_valuesInto := by decide +kernel
theorem m_X5_valuesInto_f22 : Cond.fieldLink RX5 22 "SteadyQueues$Version" "rear" "LSteadyQueues$Cell;" ∈ wsX5_valuesInto := by decide +kernel
set_option maxHeartbeats 4000000 in
set_option maxRecDepth 100000 in
theorem c_X5_valuesInto (G : gG) (z0 : Nat) (l : Launch) {h : gH} {v t dp st w N b : Nat} {par : Option Nat} {pu : Int32} {xs : List Int32} {q : mQ} {f0 : Nat → Int32} (hN : N < 65536) (hbN : b ≤ N) (hJ : qJ b xs q) (hV : isVt h v t par pu dp q st) (hw : h w = some (oI G N f0)) : gC G z0 l yX5_valuesInto wsX5_valuesInto 2 47 [.ref v, .ref w] h (fun o h' => o = some (.int (nI (qVals q).length)) ∧ ∃ f', h' w = some (oI G N f') ∧ fHas f' 0 (qVals q) ∧ gfr [w] h h') 0 0 := by
  obtain ⟨f, r, fl, rl, k, ok, oF, nF, oR, nR⟩ := q
  obtain ⟨a, b1, hv, ha, hb1, ta, tb, tc, td, ht, hta, htb, htc, htd⟩ := id hV
  obtain ⟨p1, p2, p3, p4, p5, p6, p7⟩ := qVals_parts hJ
  have hN2 : N < 2147483648 := by omega
  by_cases hk : k = 2
  · subst hk
    have hT3 : f.take ok ++ (oR.reverse ++ (nR ++ r.reverse)) = qVals (f, r, fl, rl, (2, ok, oF, nF, oR, nR)) := rfl
    have hT4 := p7
    rw [← hT3] at hT4
    refine gC_of (cc := cX5_valuesInto) (nL := 4) (ret := (some .int)) (by decide) rfl (Nat.le_of_ble_eq_true rfl) ?_
    intro X F E _
    change gF G z0 X cX5_valuesInto 4 RX5 wsX5_valuesInto (some .int) "valuesInto" 2 47 _ _ at F
    show gV G z0 X 0 0 h 0 [(0, .ref v), (1, .ref w)] []
    refine v_aload_n (pc' := 1) F dX5_valuesInto_0 rfl (j := 0) rfl rfl ?_
    refine v_getf (pc' := 4) (v := .ref t) F k_X5_valuesInto_5 hv 3 (by decide) m_X5_valuesInto_f12 rfl dX5_valuesInto_1 rfl ?_
    refine v_getf (pc' := 7) (v := .int (nI 2)) F k_X5_valuesInto_4 ht 0 (by decide) m_X5_valuesInto_f69 rfl dX5_valuesInto_4 rfl ?_
    refine v_iconst (pc' := 8) (v := nI 2) F dX5_valuesInto_7 (by decide) rfl ?_
    refine w_icmp_ne (tgt := 21) (pc' := 11) F (by omega) (by omega) dX5_valuesInto_8 (by decide) rfl (fun c0 => absurd c0 (by omega)) (fun _ => ?_)
    refine v_aload_n (pc' := 12) F dX5_valuesInto_11 rfl (j := 0) rfl rfl ?_
    refine v_getf (pc' := 15) (v := .ref t) F k_X5_valuesInto_5 hv 3 (by decide) m_X5_valuesInto_f12 rfl dX5_valuesInto_12 rfl ?_
    refine v_getf (pc' := 18) (v := .int (nI ok)) F k_X5_valuesInto_4 ht 1 (by decide) m_X5_valuesInto_f88 rfl dX5_valuesInto_15 rfl ?_
    refine v_goto (tgt := 23) F dX5_valuesInto_18 (by decide) ?_
    refine v_istore_n (pc' := 24) (i := 2) (L' := [(2, .int (nI ok)), (0, .ref v), (1, .ref w)]) F dX5_valuesInto_23 rfl (by decide) rfl rfl ?_
    refine v_aload_n (pc' := 25) F dX5_valuesInto_24 rfl (j := 1) rfl rfl ?_
    refine v_getf (pc' := 28) (v := va_rf a) F k_X5_valuesInto_5 hv 4 (by decide) m_X5_valuesInto_f18 rfl dX5_valuesInto_25 rfl ?_
    refine v_iload_n (pc' := 29) F dX5_valuesInto_28 rfl (j := 0) rfl rfl ?_
    refine v_aload_n (pc' := 30) F dX5_valuesInto_29 rfl (j := 2) rfl rfl ?_
    refine v_iconst (pc' := 31) (v := nI 0) F dX5_valuesInto_30 (by decide) rfl ?_
    refine v_callS (pc' := 34) (rt := (some .int)) (mcc := 0) (msc := 0) (As := [va_rf a, .int (nI ok), .ref w, .int (nI 0)]) (st := []) F (fun l => c_X1_writeFirst G z0 l hN2 (m := ok) (p := 0) (by omega) ha hw (by rw [Nat.zero_add, List.length_take]; omega)) gX5_valuesInto_X1_writeFirst rfl hd_X1_writeFirst (by decide) (by decide) rfl rfl (Nat.le_of_ble_eq_true rfl) (by omega) (by omega) dX5_valuesInto_31 rfl (fun v2 h1 hq => ?_)
    obtain ⟨rfl, f1, w1, g1, -, fw1⟩ := hq
    have pl1 := gfr.pl fw1 (by intro a9 m9 fs9 z9; rw [List.mem_singleton.mp m9, hw] at z9; cases z9)
    refine v_istore_n (pc' := 35) (i := 3) (L' := [(3, .int (nI (0 + (f.take ok).length))), (2, .int (nI ok)), (0, .ref v), (1, .ref w)]) F dX5_valuesInto_34 rfl (by decide) rfl rfl ?_
    refine v_aload_n (pc' := 36) F dX5_valuesInto_35 rfl (j := 2) rfl rfl ?_
    have g3 := fw1 _ _ (gnc (g_neA hv hw) gn0) hv
    refine v_getf (pc' := 39) (v := .ref t) F k_X5_valuesInto_5 g3 3 (by decide) m_X5_valuesInto_f12 rfl dX5_valuesInto_36 rfl ?_
    have g4 := fw1 _ _ (gnc (g_neA ht hw) gn0) ht
    refine v_getf (pc' := 42) (v := va_rf tc) F k_X5_valuesInto_4 g4 4 (by decide) m_X5_valuesInto_f82 rfl dX5_valuesInto_39 rfl ?_
    refine v_aload_n (pc' := 43) F dX5_valuesInto_42 rfl (j := 3) rfl rfl ?_
    refine v_iload_n (pc' := 44) F dX5_valuesInto_43 rfl (j := 0) rfl rfl ?_
    refine v_callS (pc' := 47) (rt := (some .int)) (mcc := 0) (msc := 0) (As := [va_rf tc, .ref w, .int (nI (0 + (f.take ok).length))]) (st := []) F (fun l => c_X1_writeReversed G z0 l hN2 (p := 0 + (f.take ok).length) (htc.keep pl1) w1 (by simp only [List.length_append, List.length_reverse] at hT4; omega)) gX5_valuesInto_X1_writeReversed rfl hd_X1_writeReversed (by decide) (by decide) rfl rfl (Nat.le_of_ble_eq_true rfl) (by omega) (by omega) dX5_valuesInto_44 rfl (fun v6 h5 hq => ?_)
    obtain ⟨rfl, f2, w2, g2, k2, fw2⟩ := hq
    have pl2 := gpl.tr pl1 (gfr.pl fw2 (by intro a9 m9 fs9 z9; rw [List.mem_singleton.mp m9, w1] at z9; cases z9))
    refine v_istore_n (pc' := 48) (i := 3) (L' := [(3, .int (nI (0 + (f.take ok).length + oR.length))), (2, .int (nI ok)), (0, .ref v), (1, .ref w)]) F dX5_valuesInto_47 rfl (by decide) rfl rfl ?_
    refine v_aload_n (pc' := 49) F dX5_valuesInto_48 rfl (j := 2) rfl rfl ?_
    have g7 := fw2 _ _ (gnc (g_neA g3 w1) gn0) g3
    refine v_getf (pc' := 52) (v := .ref t) F k_X5_valuesInto_5 g7 3 (by decide) m_X5_valuesInto_f12 rfl dX5_valuesInto_49 rfl ?_
    have g8 := fw2 _ _ (gnc (g_neA g4 w1) gn0) g4
    refine v_getf (pc' := 55) (v := va_rf td) F k_X5_valuesInto_4 g8 5 (by decide) m_X5_valuesInto_f85 rfl dX5_valuesInto_52 rfl ?_
    refine v_aload_n (pc' := 56) F dX5_valuesInto_55 rfl (j := 3) rfl rfl ?_
    refine w_alenI (pc' := 57) F w2 dX5_valuesInto_56 rfl ?_
    refine v_aload_n (pc' := 58) F dX5_valuesInto_57 rfl (j := 3) rfl rfl ?_
    refine v_iload_n (pc' := 59) F dX5_valuesInto_58 rfl (j := 0) rfl rfl ?_
    refine v_callS (pc' := 62) (rt := (some .int)) (mcc := 0) (msc := 0) (As := [va_rf td, .int (nI N), .ref w, .int (nI (0 + (f.take ok).length + oR.length))]) (st := []) F (fun l => c_X1_writeFirst G z0 l hN2 (m := N) (p := 0 + (f.take ok).length + oR.length) (by omega) (htd.keep pl2) w2 (by rw [List.take_of_length_le (show nR.length ≤ N by omega)]; simp only [List.length_append, List.length_reverse] at hT4; omega)) gX5_valuesInto_X1_writeFirst rfl hd_X1_writeFirst (by decide) (by decide) rfl rfl (Nat.le_of_ble_eq_true rfl) (by omega) (by omega) dX5_valuesInto_59 rfl (fun v10 h9 hq => ?_)
    obtain ⟨rfl, f3, w3, g3, k3, fw3⟩ := hq
    have pl3 := gpl.tr pl2 (gfr.pl fw3 (by intro a9 m9 fs9 z9; rw [List.mem_singleton.mp m9, w2] at z9; cases z9))
    refine v_istore_n (pc' := 63) (i := 3) (L' := [(3, .int (nI (0 + (f.take ok).length + oR.length + (nR.take N).length))), (2, .int (nI ok)), (0, .ref v), (1, .ref w)]) F dX5_valuesInto_62 rfl (by decide) rfl rfl ?_
    refine v_aload_n (pc' := 64) F dX5_valuesInto_63 rfl (j := 2) rfl rfl ?_
    have g11 := fw3 _ _ (gnc (g_neA g7 w2) gn0) g7
    refine v_getf (pc' := 67) (v := va_rf b1) F k_X5_valuesInto_5 g11 5 (by decide) m_X5_valuesInto_f22 rfl dX5_valuesInto_64 rfl ?_
    refine v_aload_n (pc' := 68) F dX5_valuesInto_67 rfl (j := 3) rfl rfl ?_
    refine v_iload_n (pc' := 69) F dX5_valuesInto_68 rfl (j := 0) rfl rfl ?_
    refine v_callS (pc' := 72) (rt := (some .int)) (mcc := 0) (msc := 0) (As := [va_rf b1, .ref w, .int (nI (0 + (f.take ok).length + oR.length + (nR.take N).length))]) (st := []) F (fun l => c_X1_writeReversed G z0 l hN2 (p := 0 + (f.take ok).length + oR.length + (nR.take N).length) (hb1.keep pl3) w3 (by rw [List.take_of_length_le (show nR.length ≤ N by omega)]; simp only [List.length_append, List.length_reverse] at hT4; omega)) gX5_valuesInto_X1_writeReversed rfl hd_X1_writeReversed (by decide) (by decide) rfl rfl (Nat.le_of_ble_eq_true rfl) (by omega) (by omega) dX5_valuesInto_69 rfl (fun v13 h12 hq => ?_)
    obtain ⟨rfl, f4, w4, g4, k4, fw4⟩ := hq
    have fr14 : gfr [w] h h12 := (gfr.t fw1 (gfr.t fw2 (gfr.t fw3 fw4)))
    rw [List.take_of_length_le (show nR.length ≤ N by omega)] at g3 g4 k4 ⊢
    have G4 := (g1.keep (f' := f2) (fun j hj => k2 j (by omega))).app (a := f.take ok) (b := oR.reverse) (by rw [Nat.zero_add] at g2 ⊢; exact g2)
    have G5 := (G4.keep (f' := f3) (fun j hj => k3 j (by simp only [List.length_append, List.length_reverse] at hj; omega))).app (b := nR) (by simp only [List.length_append, List.length_reverse]; rw [← Nat.add_assoc]; exact g3)
    have G6 := (G5.keep (f' := f4) (fun j hj => k4 j (by simp only [List.length_append, List.length_reverse] at hj; omega))).app (b := r.reverse) (by simp only [List.length_append, List.length_reverse]; rw [← Nat.add_assoc, ← Nat.add_assoc]; exact g4)
    rw [List.append_assoc, List.append_assoc, hT3] at G6
    exact v_iret F E (by omega) (by omega)  dX5_valuesInto_72 ⟨by rw [← hT3]; simp only [List.length_append, List.length_reverse]; exact congrArg (fun z => some (Value.int (nI z))) (by omega), f4, w4, G6, fr14⟩
  · have hT3 : f.take N ++ (oR.reverse ++ (nR ++ r.reverse)) = qVals (f, r, fl, rl, (k, ok, oF, nF, oR, nR)) := by rw [List.take_of_length_le (by omega)]; unfold qVals; simp only [if_neg hk]
    have hT4 := p7
    rw [← hT3] at hT4
    refine gC_of (cc := cX5_valuesInto) (nL := 4) (ret := (some .int)) (by decide) rfl (Nat.le_of_ble_eq_true rfl) ?_
    intro X F E _
    change gF G z0 X cX5_valuesInto 4 RX5 wsX5_valuesInto (some .int) "valuesInto" 2 47 _ _ at F
    show gV G z0 X 0 0 h 0 [(0, .ref v), (1, .ref w)] []
    refine v_aload_n (pc' := 1) F dX5_valuesInto_0 rfl (j := 0) rfl rfl ?_
    refine v_getf (pc' := 4) (v := .ref t) F k_X5_valuesInto_5 hv 3 (by decide) m_X5_valuesInto_f12 rfl dX5_valuesInto_1 rfl ?_
    refine v_getf (pc' := 7) (v := .int (nI k)) F k_X5_valuesInto_4 ht 0 (by decide) m_X5_valuesInto_f69 rfl dX5_valuesInto_4 rfl ?_
    refine v_iconst (pc' := 8) (v := nI 2) F dX5_valuesInto_7 (by decide) rfl ?_
    refine w_icmp_ne (tgt := 21) (pc' := 11) F (by omega) (by omega) dX5_valuesInto_8 (by decide) rfl (fun _ => ?_) (fun c0 => absurd c0 (by omega))
    refine v_aload_n (pc' := 22) F dX5_valuesInto_21 rfl (j := 1) rfl rfl ?_
    refine w_alenI (pc' := 23) F hw dX5_valuesInto_22 rfl ?_
    refine v_istore_n (pc' := 24) (i := 2) (L' := [(2, .int (nI N)), (0, .ref v), (1, .ref w)]) F dX5_valuesInto_23 rfl (by decide) rfl rfl ?_
    refine v_aload_n (pc' := 25) F dX5_valuesInto_24 rfl (j := 1) rfl rfl ?_
    refine v_getf (pc' := 28) (v := va_rf a) F k_X5_valuesInto_5 hv 4 (by decide) m_X5_valuesInto_f18 rfl dX5_valuesInto_25 rfl ?_
    refine v_iload_n (pc' := 29) F dX5_valuesInto_28 rfl (j := 0) rfl rfl ?_
    refine v_aload_n (pc' := 30) F dX5_valuesInto_29 rfl (j := 2) rfl rfl ?_
    refine v_iconst (pc' := 31) (v := nI 0) F dX5_valuesInto_30 (by decide) rfl ?_
    refine v_callS (pc' := 34) (rt := (some .int)) (mcc := 0) (msc := 0) (As := [va_rf a, .int (nI N), .ref w, .int (nI 0)]) (st := []) F (fun l => c_X1_writeFirst G z0 l hN2 (m := N) (p := 0) (by omega) ha hw (by rw [Nat.zero_add, List.length_take]; omega)) gX5_valuesInto_X1_writeFirst rfl hd_X1_writeFirst (by decide) (by decide) rfl rfl (Nat.le_of_ble_eq_true rfl) (by omega) (by omega) dX5_valuesInto_31 rfl (fun v2 h1 hq => ?_)
    obtain ⟨rfl, f1, w1, g1, -, fw1⟩ := hq
    have pl1 := gfr.pl fw1 (by intro a9 m9 fs9 z9; rw [List.mem_singleton.mp m9, hw] at z9; cases z9)
    refine v_istore_n (pc' := 35) (i := 3) (L' := [(3, .int (nI (0 + (f.take N).length))), (2, .int (nI N)), (0, .ref v), (1, .ref w)]) F dX5_valuesInto_34 rfl (by decide) rfl rfl ?_
    refine v_aload_n (pc' := 36) F dX5_valuesInto_35 rfl (j := 2) rfl rfl ?_
    have g3 := fw1 _ _ (gnc (g_neA hv hw) gn0) hv
    refine v_getf (pc' := 39) (v := .ref t) F k_X5_valuesInto_5 g3 3 (by decide) m_X5_valuesInto_f12 rfl dX5_valuesInto_36 rfl ?_
    have g4 := fw1 _ _ (gnc (g_neA ht hw) gn0) ht
    refine v_getf (pc' := 42) (v := va_rf tc) F k_X5_valuesInto_4 g4 4 (by decide) m_X5_valuesInto_f82 rfl dX5_valuesInto_39 rfl ?_
    refine v_aload_n (pc' := 43) F dX5_valuesInto_42 rfl (j := 3) rfl rfl ?_
    refine v_iload_n (pc' := 44) F dX5_valuesInto_43 rfl (j := 0) rfl rfl ?_
    refine v_callS (pc' := 47) (rt := (some .int)) (mcc := 0) (msc := 0) (As := [va_rf tc, .ref w, .int (nI (0 + (f.take N).length))]) (st := []) F (fun l => c_X1_writeReversed G z0 l hN2 (p := 0 + (f.take N).length) (htc.keep pl1) w1 (by simp only [List.length_append, List.length_reverse] at hT4; omega)) gX5_valuesInto_X1_writeReversed rfl hd_X1_writeReversed (by decide) (by decide) rfl rfl (Nat.le_of_ble_eq_true rfl) (by omega) (by omega) dX5_valuesInto_44 rfl (fun v6 h5 hq => ?_)
    obtain ⟨rfl, f2, w2, g2, k2, fw2⟩ := hq
    have pl2 := gpl.tr pl1 (gfr.pl fw2 (by intro a9 m9 fs9 z9; rw [List.mem_singleton.mp m9, w1] at z9; cases z9))
    refine v_istore_n (pc' := 48) (i := 3) (L' := [(3, .int (nI (0 + (f.take N).length + oR.length))), (2, .int (nI N)), (0, .ref v), (1, .ref w)]) F dX5_valuesInto_47 rfl (by decide) rfl rfl ?_
    refine v_aload_n (pc' := 49) F dX5_valuesInto_48 rfl (j := 2) rfl rfl ?_
    have g7 := fw2 _ _ (gnc (g_neA g3 w1) gn0) g3
    refine v_getf (pc' := 52) (v := .ref t) F k_X5_valuesInto_5 g7 3 (by decide) m_X5_valuesInto_f12 rfl dX5_valuesInto_49 rfl ?_
    have g8 := fw2 _ _ (gnc (g_neA g4 w1) gn0) g4
    refine v_getf (pc' := 55) (v := va_rf td) F k_X5_valuesInto_4 g8 5 (by decide) m_X5_valuesInto_f85 rfl dX5_valuesInto_52 rfl ?_
    refine v_aload_n (pc' := 56) F dX5_valuesInto_55 rfl (j := 3) rfl rfl ?_
    refine w_alenI (pc' := 57) F w2 dX5_valuesInto_56 rfl ?_
    refine v_aload_n (pc' := 58) F dX5_valuesInto_57 rfl (j := 3) rfl rfl ?_
    refine v_iload_n (pc' := 59) F dX5_valuesInto_58 rfl (j := 0) rfl rfl ?_
    refine v_callS (pc' := 62) (rt := (some .int)) (mcc := 0) (msc := 0) (As := [va_rf td, .int (nI N), .ref w, .int (nI (0 + (f.take N).length + oR.length))]) (st := []) F (fun l => c_X1_writeFirst G z0 l hN2 (m := N) (p := 0 + (f.take N).length + oR.length) (by omega) (htd.keep pl2) w2 (by rw [List.take_of_length_le (show nR.length ≤ N by omega)]; simp only [List.length_append, List.length_reverse] at hT4; omega)) gX5_valuesInto_X1_writeFirst rfl hd_X1_writeFirst (by decide) (by decide) rfl rfl (Nat.le_of_ble_eq_true rfl) (by omega) (by omega) dX5_valuesInto_59 rfl (fun v10 h9 hq => ?_)
    obtain ⟨rfl, f3, w3, g3, k3, fw3⟩ := hq
    have pl3 := gpl.tr pl2 (gfr.pl fw3 (by intro a9 m9 fs9 z9; rw [List.mem_singleton.mp m9, w2] at z9; cases z9))
    refine v_istore_n (pc' := 63) (i := 3) (L' := [(3, .int (nI (0 + (f.take N).length + oR.length + (nR.take N).length))), (2, .int (nI N)), (0, .ref v), (1, .ref w)]) F dX5_valuesInto_62 rfl (by decide) rfl rfl ?_
    refine v_aload_n (pc' := 64) F dX5_valuesInto_63 rfl (j := 2) rfl rfl ?_
    have g11 := fw3 _ _ (gnc (g_neA g7 w2) gn0) g7
    refine v_getf (pc' := 67) (v := va_rf b1) F k_X5_valuesInto_5 g11 5 (by decide) m_X5_valuesInto_f22 rfl dX5_valuesInto_64 rfl ?_
    refine v_aload_n (pc' := 68) F dX5_valuesInto_67 rfl (j := 3) rfl rfl ?_
    refine v_iload_n (pc' := 69) F dX5_valuesInto_68 rfl (j := 0) rfl rfl ?_
    refine v_callS (pc' := 72) (rt := (some .int)) (mcc := 0) (msc := 0) (As := [va_rf b1, .ref w, .int (nI (0 + (f.take N).length + oR.length + (nR.take N).length))]) (st := []) F (fun l => c_X1_writeReversed G z0 l hN2 (p := 0 + (f.take N).length + oR.length + (nR.take N).length) (hb1.keep pl3) w3 (by rw [List.take_of_length_le (show nR.length ≤ N by omega)]; simp only [List.length_append, List.length_reverse] at hT4; omega)) gX5_valuesInto_X1_writeReversed rfl hd_X1_writeReversed (by decide) (by decide) rfl rfl (Nat.le_of_ble_eq_true rfl) (by omega) (by omega) dX5_valuesInto_69 rfl (fun v13 h12 hq => ?_)
    obtain ⟨rfl, f4, w4, g4, k4, fw4⟩ := hq
    have fr14 : gfr [w] h h12 := (gfr.t fw1 (gfr.t fw2 (gfr.t fw3 fw4)))
    rw [List.take_of_length_le (show nR.length ≤ N by omega)] at g3 g4 k4 ⊢
    have G4 := (g1.keep (f' := f2) (fun j hj => k2 j (by omega))).app (a := f.take N) (b := oR.reverse) (by rw [Nat.zero_add] at g2 ⊢; exact g2)
    have G5 := (G4.keep (f' := f3) (fun j hj => k3 j (by simp only [List.length_append, List.length_reverse] at hj; omega))).app (b := nR) (by simp only [List.length_append, List.length_reverse]; rw [← Nat.add_assoc]; exact g3)
    have G6 := (G5.keep (f' := f4) (fun j hj => k4 j (by simp only [List.length_append, List.length_reverse] at hj; omega))).app (b := r.reverse) (by simp only [List.length_append, List.length_reverse]; rw [← Nat.add_assoc, ← Nat.add_assoc]; exact g4)
    rw [List.append_assoc, List.append_assoc, hT3] at G6
    exact v_iret F E (by omega) (by omega)  dX5_valuesInto_72 ⟨by rw [← hT3]; simp only [List.length_append, List.length_reverse]; exact congrArg (fun z => some (Value.int (nI z))) (by omega), f4, w4, G6, fr14⟩
