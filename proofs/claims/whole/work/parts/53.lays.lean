theorem k_X7_lays_7 : gCl wsX7_lays 7 RX7 TX7 26 := ⟨by decide +kernel, rfl⟩
theorem m_X7_lays_f109 : Cond.fieldLink RX7 109 "SteadyQueuesModel" "wayMany" "I" ∈ wsX7_lays := by decide +kernel
theorem m_X7_lays_f22 : Cond.fieldLink RX7 22 "SteadyQueuesModel" "way" "[I" ∈ wsX7_lays := by decide +kernel
theorem hv_X7_pushes : yX7_pushes.cls = RX7 ∧ yX7_pushes.cls ≠ "java/lang/invoke/MethodHandle" ∧ yX7_pushes.cls ≠ "java/lang/invoke/VarHandle" ∧ (parseMethodDescriptor yX7_pushes.desc).map (fun d => d.parameters.length) = some 2 := by decide +kernel
theorem hv_X7_pops : yX7_pops.cls = RX7 ∧ yX7_pops.cls ≠ "java/lang/invoke/MethodHandle" ∧ yX7_pops.cls ≠ "java/lang/invoke/VarHandle" ∧ (parseMethodDescriptor yX7_pops.desc).map (fun d => d.parameters.length) = some 1 := by decide +kernel
set_option maxHeartbeats 4000000 in
set_option maxRecDepth 100000 in
theorem lp_X7_lays {G : gG} {z0 : Nat} {X : gX} {l : Launch} {post : Option Value → gH → Prop} {mc ms cells slots j k v : Nat} {h : gH} {m rows asd now vals many way told oth lst text : Nat} {th und fed len spot fa fat num frm may : Int32} {R W : Nat → Int32} {D : Dt} (F : gF G z0 X cX7_lays 3 RX7 wsX7_lays none "lays" 4 86 mc ms) (E : gE G z0 X post mc ms) (hcc : cells ≤ mc) (hss : slots ≤ ms) (hm : h m = some (.inr (7, [.int th, .ref rows, .ref asd, .int (nI now), .int und, .ref vals, .ref many, .int (nI ((qOf ((D.2.2.2.2 v).drop ((D.2.2.2.2 v).length - k))).1.2.2.1)), .int (nI ((qOf ((D.2.2.2.2 v).drop ((D.2.2.2.2 v).length - k))).1.2.2.2.1)), .int (nI ((qOf ((D.2.2.2.2 v).drop ((D.2.2.2.2 v).length - k))).1.2.2.2.2.1)), .int (nI ((qOf ((D.2.2.2.2 v).drop ((D.2.2.2.2 v).length - k))).1.2.2.2.2.2.1)), .int (nI ((qOf ((D.2.2.2.2 v).drop ((D.2.2.2.2 v).length - k))).2)), .ref way, .int (nI ((D.2.2.2.2 v).length)), .ref told, .ref oth, .ref lst, .ref text, .int fed, .int len, .int spot, .int fa, .int fat, .int num, .int frm, .int may]))) (hrows : h rows = some (oI G 2970 R)) (hnow : now < 9) (hway : h way = some (oI G 64 W)) (w9 : wfD D) (hS : slP R (330 * now) D) (hlen : (D.2.2.2.2 v).length < 64) (hW : (∀ j, j < (D.2.2.2.2 v).length → wG D v j (W j))) (hq : isMq G h vals many (qOf ((D.2.2.2.2 v).drop ((D.2.2.2.2 v).length - k))).1) (hkj : k + j = (D.2.2.2.2 v).length) (hp : ∀ h' : gH, h' m = some (.inr (7, [.int th, .ref rows, .ref asd, .int (nI now), .int und, .ref vals, .ref many, .int (nI ((qOf (D.2.2.2.2 v)).1.2.2.1)), .int (nI ((qOf (D.2.2.2.2 v)).1.2.2.2.1)), .int (nI ((qOf (D.2.2.2.2 v)).1.2.2.2.2.1)), .int (nI ((qOf (D.2.2.2.2 v)).1.2.2.2.2.2.1)), .int (nI ((qOf (D.2.2.2.2 v)).2)), .ref way, .int (nI ((D.2.2.2.2 v).length)), .ref told, .ref oth, .ref lst, .ref text, .int fed, .int len, .int spot, .int fa, .int fat, .int num, .int frm, .int may])) → isMq G h' vals many (qOf (D.2.2.2.2 v)).1 → gfr [m, vals, many] h h' → post none h') : gV G z0 X cells slots h 11 [(2, .int (nI k)), (1, .int (nI v)), (0, .ref m)] [] := by
  induction j generalizing k h with
  | zero =>
    obtain rfl : k = (D.2.2.2.2 v).length := by omega
    rw [Nat.sub_self, List.drop_zero] at hm hq
    refine v_iload_n (pc' := 12) F dX7_lays_11 rfl (j := 0) rfl rfl ?_
    refine v_aload_n (pc' := 13) F dX7_lays_12 rfl (j := 2) rfl rfl ?_
    refine v_getf (pc' := 16) (v := .int (nI ((D.2.2.2.2 v).length))) F k_X7_lays_7 hm 13 (by decide) m_X7_lays_f109 rfl dX7_lays_13 rfl ?_
    refine w_icmp_ge (tgt := 84) (pc' := 19) F (by omega) (by omega) dX7_lays_16 (by decide) rfl (fun _ => ?_) (fun c0 => absurd c0 (by omega))
    exact v_vret F E (by omega) (by omega)  dX7_lays_84 (hp _ hm hq gfr.rf)
  | succ j ih =>
    have hk : k < (D.2.2.2.2 v).length := by omega
    obtain ⟨u, hu, hWk, hu2⟩ := hW k hk
    have hlu := dr_len hk
    rw [← hu2] at hlu
    have hwu := (w9.os hu).1
    have hu64 : u < 64 := by have := w9.2.1; omega
    obtain ⟨-, hr1, hr2, -⟩ := hS.2.2.2 u hu
    cases e : D.2.2.2.2 u with
    | nil => rw [e] at hlu; exact absurd hlu (by simp)
    | cons o rest =>
      rw [e] at hwu hr1 hr2 hlu hu2
      rw [List.length_cons] at hlu
      obtain ⟨hw1, hw2, hw3, hw4, hw5⟩ := hwu
      change R _ = o.1 at hr1
      change R _ = nI o.2 at hr2
      have er : (D.2.2.2.2 v).drop ((D.2.2.2.2 v).length - k) = rest := by have e2 := congrArg (List.drop 1) hu2; rw [List.drop_drop] at e2; rw [show (D.2.2.2.2 v).length - k = (D.2.2.2.2 v).length - 1 - k + 1 by omega, ← e2]; rfl
      rw [er] at hm hq
      have hJ := qOf_J hw1
      have hQV := qOf_V hw1
      have hq0 := hq
      obtain ⟨V, M, ls, hvals, hmany, -, -⟩ := hq0
      refine v_iload_n (pc' := 12) F dX7_lays_11 rfl (j := 0) rfl rfl ?_
      refine v_aload_n (pc' := 13) F dX7_lays_12 rfl (j := 2) rfl rfl ?_
      refine v_getf (pc' := 16) (v := .int (nI ((D.2.2.2.2 v).length))) F k_X7_lays_7 hm 13 (by decide) m_X7_lays_f109 rfl dX7_lays_13 rfl ?_
      refine w_icmp_ge (tgt := 84) (pc' := 19) F (by omega) (by omega) dX7_lays_16 (by decide) rfl (fun c0 => absurd c0 (by omega)) (fun _ => ?_)
      refine v_aload_n (pc' := 20) F dX7_lays_19 rfl (j := 2) rfl rfl ?_
      refine v_aload_n (pc' := 21) F dX7_lays_20 rfl (j := 2) rfl rfl ?_
      refine v_getf (pc' := 24) (v := .ref way) F k_X7_lays_7 hm 12 (by decide) m_X7_lays_f22 rfl dX7_lays_21 rfl ?_
      refine v_iload_n (pc' := 25) F dX7_lays_24 rfl (j := 0) rfl rfl ?_
      refine w_iald (pc' := 26) (v := nI u) F hway (by omega) (by omega) hWk dX7_lays_25 rfl ?_
      refine v_iconst (pc' := 27) (v := nI 1) F dX7_lays_26 (by decide) rfl ?_
      refine v_callV (pc' := 30) (rt := (some .int)) (mcc := 0) (msc := 0) (As := [.int (nI u), .int (nI 1)]) (st := []) F (fun l => c_X7_of G z0 l (v := u) (w := 1) hm hrows hnow hu64 (by omega)) gX7_lays_X7_of rfl hv_X7_of (by decide) (by decide) hm rfl rfl rfl (Nat.le_of_ble_eq_true rfl) (by omega) (by omega) dX7_lays_27 rfl (fun v1 h hqo => ?_)
      rw [hr1] at hqo; obtain ⟨rfl, rfl⟩ := hqo
      refine v_iconst (pc' := 31) (v := (-1)) F dX7_lays_30 (by decide) rfl ?_
      refine v_icmp_ne (tgt := 52) (pc' := 34) F dX7_lays_31 (by decide) rfl (fun c0 => ?_) (fun c0 => ?_)
      · refine v_aload_n (pc' := 53) F dX7_lays_52 rfl (j := 2) rfl rfl ?_
        refine v_aload_n (pc' := 54) F dX7_lays_53 rfl (j := 2) rfl rfl ?_
        refine v_aload_n (pc' := 55) F dX7_lays_54 rfl (j := 2) rfl rfl ?_
        refine v_getf (pc' := 58) (v := .ref way) F k_X7_lays_7 hm 12 (by decide) m_X7_lays_f22 rfl dX7_lays_55 rfl ?_
        refine v_iload_n (pc' := 59) F dX7_lays_58 rfl (j := 0) rfl rfl ?_
        refine w_iald (pc' := 60) (v := nI u) F hway (by omega) (by omega) hWk dX7_lays_59 rfl ?_
        refine v_iconst (pc' := 61) (v := nI 1) F dX7_lays_60 (by decide) rfl ?_
        refine v_callV (pc' := 64) (rt := (some .int)) (mcc := 0) (msc := 0) (As := [.int (nI u), .int (nI 1)]) (st := [.ref m]) F (fun l => c_X7_of G z0 l (v := u) (w := 1) hm hrows hnow hu64 (by omega)) gX7_lays_X7_of rfl hv_X7_of (by decide) (by decide) hm rfl rfl rfl (Nat.le_of_ble_eq_true rfl) (by omega) (by omega) dX7_lays_61 rfl (fun v2 h hqo => ?_)
        rw [hr1] at hqo; obtain ⟨rfl, rfl⟩ := hqo
        refine v_aload_n (pc' := 65) F dX7_lays_64 rfl (j := 2) rfl rfl ?_
        refine v_aload_n (pc' := 66) F dX7_lays_65 rfl (j := 2) rfl rfl ?_
        refine v_getf (pc' := 69) (v := .ref way) F k_X7_lays_7 hm 12 (by decide) m_X7_lays_f22 rfl dX7_lays_66 rfl ?_
        refine v_iload_n (pc' := 70) F dX7_lays_69 rfl (j := 0) rfl rfl ?_
        refine w_iald (pc' := 71) (v := nI u) F hway (by omega) (by omega) hWk dX7_lays_70 rfl ?_
        refine v_iconst (pc' := 72) (v := nI 2) F dX7_lays_71 (by decide) rfl ?_
        refine v_callV (pc' := 75) (rt := (some .int)) (mcc := 0) (msc := 0) (As := [.int (nI u), .int (nI 2)]) (st := [.int o.1, .ref m]) F (fun l => c_X7_of G z0 l (v := u) (w := 2) hm hrows hnow hu64 (by omega)) gX7_lays_X7_of rfl hv_X7_of (by decide) (by decide) hm rfl rfl rfl (Nat.le_of_ble_eq_true rfl) (by omega) (by omega) dX7_lays_72 rfl (fun v3 h hqo => ?_)
        rw [hr2] at hqo; obtain ⟨rfl, rfl⟩ := hqo
        refine v_callV (pc' := 78) (rt := none) (mcc := 0) (msc := 0) (As := [.int o.1, .int (nI o.2)]) (st := []) F (fun l => c_X7_pushes G z0 l o.1 hw2 (by omega) (by omega) hm hq hJ) gX7_lays_X7_pushes rfl hv_X7_pushes (by decide) (by decide) hm rfl rfl rfl (Nat.le_of_ble_eq_true rfl) (by omega) (by omega) dX7_lays_75 rfl (fun v5 h4 hq => ?_)
        obtain ⟨rfl, hmZ, hqZ, fZ⟩ := hq
        have eq1 : (qOf ((D.2.2.2.2 v).drop ((D.2.2.2.2 v).length - (k + 1)))) = qSettle o.2 (qPut o.1 (qOf rest).1) := by
          rw [show (D.2.2.2.2 v).length - (k + 1) = (D.2.2.2.2 v).length - 1 - k by omega, ← hu2]
          show qOp _ _ = _
          unfold qOp
          rw [if_neg c0]
        rw [← eq1] at hmZ hqZ
        refine v_iinc (pc' := 81) (j := 0) (x := nI k) (v := nI (k + 1)) (L' := [(2, .int (nI (k + 1))), (1, .int (nI v)), (0, .ref m)]) F dX7_lays_78 rfl (nI_add k 1) (by decide) rfl rfl ?_
        refine v_goto (tgt := 11) F dX7_lays_81 (by decide) ?_
        have fr6 : gfr [m, vals, many] h h4 := fZ
        refine v_sub (L' := [(2, .int (nI (k + 1))), (1, .int (nI v)), (0, .ref m)]) [0, 1, 2] rfl ?_
        have g7 := fZ _ _ (gnc (Ne.symm (g_neA hm hrows)) (gnc (g_neL hrows hvals (by decide)) (gnc (g_neL hrows hmany (by decide)) gn0))) hrows
        have g8 := fZ _ _ (gnc (Ne.symm (g_neA hm hway)) (gnc (g_neL hway hvals (by decide)) (gnc (g_neL hway hmany (by decide)) gn0))) hway
        exact ih (k := k + 1) hmZ g7 g8 hqZ (by omega) (fun hA a1 a2 a3 => hp hA a1 a2 (gfr.t fr6 a3))
      · obtain ⟨x, ys, exy⟩ : ∃ x ys, wVals rest = x :: ys := by cases ez : wVals rest with | nil => exact absurd ez (hw4 c0) | cons x ys => exact ⟨x, ys, rfl⟩
        rw [exy] at hJ
        refine v_aload_n (pc' := 35) F dX7_lays_34 rfl (j := 2) rfl rfl ?_
        refine v_aload_n (pc' := 36) F dX7_lays_35 rfl (j := 2) rfl rfl ?_
        refine v_aload_n (pc' := 37) F dX7_lays_36 rfl (j := 2) rfl rfl ?_
        refine v_getf (pc' := 40) (v := .ref way) F k_X7_lays_7 hm 12 (by decide) m_X7_lays_f22 rfl dX7_lays_37 rfl ?_
        refine v_iload_n (pc' := 41) F dX7_lays_40 rfl (j := 0) rfl rfl ?_
        refine w_iald (pc' := 42) (v := nI u) F hway (by omega) (by omega) hWk dX7_lays_41 rfl ?_
        refine v_iconst (pc' := 43) (v := nI 2) F dX7_lays_42 (by decide) rfl ?_
        refine v_callV (pc' := 46) (rt := (some .int)) (mcc := 0) (msc := 0) (As := [.int (nI u), .int (nI 2)]) (st := [.ref m]) F (fun l => c_X7_of G z0 l (v := u) (w := 2) hm hrows hnow hu64 (by omega)) gX7_lays_X7_of rfl hv_X7_of (by decide) (by decide) hm rfl rfl rfl (Nat.le_of_ble_eq_true rfl) (by omega) (by omega) dX7_lays_43 rfl (fun v9 h hqo => ?_)
        rw [hr2] at hqo; obtain ⟨rfl, rfl⟩ := hqo
        refine v_callV (pc' := 49) (rt := none) (mcc := 0) (msc := 0) (As := [.int (nI o.2)]) (st := []) F (fun l => c_X7_pops G z0 l hw2 (by omega) (by omega) hm hq hJ hQV) gX7_lays_X7_pops rfl hv_X7_pops (by decide) (by decide) hm rfl rfl rfl (Nat.le_of_ble_eq_true rfl) (by omega) (by omega) dX7_lays_46 rfl (fun v11 h10 hq => ?_)
        obtain ⟨rfl, hmZ, hqZ, fZ⟩ := hq
        have eq1 : (qOf ((D.2.2.2.2 v).drop ((D.2.2.2.2 v).length - (k + 1)))) = qSettle o.2 (qTake (qOf rest).1) := by
          rw [show (D.2.2.2.2 v).length - (k + 1) = (D.2.2.2.2 v).length - 1 - k by omega, ← hu2]
          show qOp _ _ = _
          unfold qOp
          rw [if_pos c0]
        rw [← eq1] at hmZ hqZ
        refine v_goto (tgt := 78) F dX7_lays_49 (by decide) ?_
        refine v_iinc (pc' := 81) (j := 0) (x := nI k) (v := nI (k + 1)) (L' := [(2, .int (nI (k + 1))), (1, .int (nI v)), (0, .ref m)]) F dX7_lays_78 rfl (nI_add k 1) (by decide) rfl rfl ?_
        refine v_goto (tgt := 11) F dX7_lays_81 (by decide) ?_
        have fr12 : gfr [m, vals, many] h h10 := fZ
        refine v_sub (L' := [(2, .int (nI (k + 1))), (1, .int (nI v)), (0, .ref m)]) [0, 1, 2] rfl ?_
        have g13 := fZ _ _ (gnc (Ne.symm (g_neA hm hrows)) (gnc (g_neL hrows hvals (by decide)) (gnc (g_neL hrows hmany (by decide)) gn0))) hrows
        have g14 := fZ _ _ (gnc (Ne.symm (g_neA hm hway)) (gnc (g_neL hway hvals (by decide)) (gnc (g_neL hway hmany (by decide)) gn0))) hway
        exact ih (k := k + 1) hmZ g13 g14 hqZ (by omega) (fun hA a1 a2 a3 => hp hA a1 a2 (gfr.t fr12 a3))
theorem hv_X7_laysWay : yX7_laysWay.cls = RX7 ∧ yX7_laysWay.cls ≠ "java/lang/invoke/MethodHandle" ∧ yX7_laysWay.cls ≠ "java/lang/invoke/VarHandle" ∧ (parseMethodDescriptor yX7_laysWay.desc).map (fun d => d.parameters.length) = some 1 := by decide +kernel
theorem hv_X7_laysEmpty : yX7_laysEmpty.cls = RX7 ∧ yX7_laysEmpty.cls ≠ "java/lang/invoke/MethodHandle" ∧ yX7_laysEmpty.cls ≠ "java/lang/invoke/VarHandle" ∧ (parseMethodDescriptor yX7_laysEmpty.desc).map (fun d => d.parameters.length) = some 0 := by decide +kernel
set_option maxHeartbeats 4000000 in
set_option maxRecDepth 100000 in
theorem c_X7_lays (G : gG) (z0 : Nat) (l : Launch) {h : gH} {m rows asd now vals many way told oth lst text : Nat} {th und fl rl kd ok st wm fed len spot fa fat num frm may : Int32} {R W V M : Nat → Int32} {D : Dt} {v : Nat} (hm : h m = some (.inr (7, [.int th, .ref rows, .ref asd, .int (nI now), .int und, .ref vals, .ref many, .int fl, .int rl, .int kd, .int ok, .int st, .ref way, .int wm, .ref told, .ref oth, .ref lst, .ref text, .int fed, .int len, .int spot, .int fa, .int fat, .int num, .int frm, .int may]))) (hrows : h rows = some (oI G 2970 R)) (hnow : now < 9) (hway : h way = some (oI G 64 W)) (hvals : h vals = some (oI G 384 V)) (hmany : h many = some (oI G 6 M)) (w9 : wfD D) (hS : slP R (330 * now) D) (hv : v < D.1) : gC G z0 l yX7_lays wsX7_lays 4 86 [.ref m, .int (nI v)] h (fun o h' => o = none ∧ h' m = some (.inr (7, [.int th, .ref rows, .ref asd, .int (nI now), .int und, .ref vals, .ref many, .int (nI ((qOf (D.2.2.2.2 v)).1.2.2.1)), .int (nI ((qOf (D.2.2.2.2 v)).1.2.2.2.1)), .int (nI ((qOf (D.2.2.2.2 v)).1.2.2.2.2.1)), .int (nI ((qOf (D.2.2.2.2 v)).1.2.2.2.2.2.1)), .int (nI ((qOf (D.2.2.2.2 v)).2)), .ref way, .int (nI ((D.2.2.2.2 v).length)), .ref told, .ref oth, .ref lst, .ref text, .int fed, .int len, .int spot, .int fa, .int fat, .int num, .int frm, .int may])) ∧ ∃ W', h' way = some (oI G 64 W') ∧ (∀ j, j < (D.2.2.2.2 v).length → wG D v j (W' j)) ∧ isMq G h' vals many (qOf (D.2.2.2.2 v)).1 ∧ gfr [m, way, vals, many] h h') 0 0 := by
  have hlen := (w9.os hv).2
  refine gC_of (cc := cX7_lays) (nL := 3) (ret := none) (by decide) rfl (Nat.le_of_ble_eq_true rfl) ?_
  intro X F E _
  change gF G z0 X cX7_lays 3 RX7 wsX7_lays none "lays" 4 86 _ _ at F
  show gV G z0 X 0 0 h 0 [(0, .ref m), (1, .int (nI v))] []
  refine v_aload_n (pc' := 1) F dX7_lays_0 rfl (j := 0) rfl rfl ?_
  refine v_iload_n (pc' := 2) F dX7_lays_1 rfl (j := 1) rfl rfl ?_
  refine v_callV (pc' := 5) (rt := none) (mcc := 0) (msc := 0) (As := [.int (nI v)]) (st := []) F (fun l => c_X7_laysWay G z0 l hm hrows hnow hway w9 hS hv) gX7_lays_X7_laysWay rfl hv_X7_laysWay (by decide) (by decide) hm rfl rfl rfl (Nat.le_of_ble_eq_true rfl) (by omega) (by omega) dX7_lays_2 rfl (fun v2 h1 hq => ?_)
  obtain ⟨rfl, hmA, W9, hwA, hWA, fA⟩ := hq
  refine v_aload_n (pc' := 6) F dX7_lays_5 rfl (j := 0) rfl rfl ?_
  have g3 := fA _ _ (gnc (Ne.symm (g_neA hm hvals)) (gnc (g_neL hvals hway (by decide)) gn0)) hvals
  have g4 := fA _ _ (gnc (Ne.symm (g_neA hm hmany)) (gnc (g_neL hmany hway (by decide)) gn0)) hmany
  refine v_callV (pc' := 9) (rt := none) (mcc := 0) (msc := 0) (As := []) (st := []) F (fun l => c_X7_laysEmpty G z0 l hmA g3 g4) gX7_lays_X7_laysEmpty rfl hv_X7_laysEmpty (by decide) (by decide) hmA rfl rfl rfl (Nat.le_of_ble_eq_true rfl) (by omega) (by omega) dX7_lays_6 rfl (fun v6 h5 hq => ?_)
  obtain ⟨rfl, hmB, M9, hyB, hlB, fB⟩ := hq
  refine v_iconst (pc' := 10) (v := nI 0) F dX7_lays_9 (by decide) rfl ?_
  refine v_istore_n (pc' := 11) (i := 2) (L' := [(2, .int (nI 0)), (0, .ref m), (1, .int (nI v))]) F dX7_lays_10 rfl (by decide) rfl rfl ?_
  have fr7 : gfr [m, way, vals, many] h h5 := (gfr.t (gfr.mono fA (by intro q9 z9 m9; apply z9; simp only [List.mem_cons, List.not_mem_nil, or_false] at m9 ⊢; omega)) (gfr.mono fB (by intro q9 z9 m9; apply z9; simp only [List.mem_cons, List.not_mem_nil, or_false] at m9 ⊢; omega)))
  refine v_sub (L' := [(2, .int (nI 0)), (1, .int (nI v)), (0, .ref m)]) [0, 2, 1] rfl ?_
  have e0 : (D.2.2.2.2 v).drop ((D.2.2.2.2 v).length - 0) = [] := by rw [Nat.sub_zero, List.drop_length]
  have g8 := fA _ _ (gnc (Ne.symm (g_neA hm hrows)) (gnc (g_neL hrows hway (by decide)) gn0)) hrows
  have g9 := fB _ _ (gnc (Ne.symm (g_neA hmA g8)) (gnc (g_neL g8 g4 (by decide)) gn0)) g8
  have g10 := fB _ _ (gnc (Ne.symm (g_neA hmA hwA)) (gnc (g_neL hwA g4 (by decide)) gn0)) hwA
  have g11 := fB _ _ (gnc (Ne.symm (g_neA hmA g3)) (gnc (g_neL g3 g4 (by decide)) gn0)) g3
  exact lp_X7_lays (l := l) (k := 0) (j := (D.2.2.2.2 v).length) F E (by omega) (by omega) (by rw [e0]; exact hmB) g9 hnow g10 w9 hS hlen hWA (by rw [e0]; exact ⟨_, _, _, g11, hyB, hlB, rfl, rfl, rfl, fun _ => rfl, rfl, rfl⟩) (by omega) (fun hA a1 a2 a3 => ⟨rfl, a1, W9, a3 _ _ (gnc (Ne.symm (g_neA hmB g10)) (gnc (g_neL g10 g11 (by decide)) (gnc (g_neL g10 hyB (by decide)) gn0))) g10, hWA, a2, gfr.t fr7 (gfr.mono a3 (by intro q9 z9 m9; apply z9; simp only [List.mem_cons, List.not_mem_nil, or_false] at m9 ⊢; omega))⟩)
