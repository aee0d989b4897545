/-! THE REFERENCE: work -/
def oS (os : List mO) : Nat × Nat × Nat × Nat := oGo (wPu os) (0, 0, 0, 0)
theorem oGo_app : ∀ (xs : List Int32) (s : Nat × Nat × Nat × Nat) (x : Int32), oGo (xs ++ [x]) s = oGo [x] (oGo xs s)
  | [], _, _ => rfl
  | y :: xs, (st, ms, a, b), x => by
    show (if y = -1 then (if a = 0 then oGo (xs ++ [x]) (st + (b + 1), max ms (b + 1), b - 1, 0) else oGo (xs ++ [x]) (st + 1, max ms 1, a - 1, b)) else oGo (xs ++ [x]) (st + 1, max ms 1, a, b + 1)) = oGo [x] (if y = -1 then (if a = 0 then oGo xs (st + (b + 1), max ms (b + 1), b - 1, 0) else oGo xs (st + 1, max ms 1, a - 1, b)) else oGo xs (st + 1, max ms 1, a, b + 1))
    by_cases hy : y = -1
    · rw [if_pos hy, if_pos hy]
      by_cases ha : a = 0
      · rw [if_pos ha, if_pos ha]
        exact oGo_app xs _ x
      · rw [if_neg ha, if_neg ha]
        exact oGo_app xs _ x
    · rw [if_neg hy, if_neg hy]
      exact oGo_app xs _ x
theorem oS_cons (o : mO) (os : List mO) : oS (o :: os) = oGo [o.1] (oS os) := by
  unfold oS
  rw [wPu_cons, oGo_app]
theorem oS_inv : ∀ {os : List mO}, wOk os → (oS os).2.2.1 + (oS os).2.2.2 = (wVals os).length ∧ (oS os).2.1 ≤ os.length + 1
  | [], _ => ⟨rfl, Nat.zero_le _⟩
  | o :: os, h => by
    obtain ⟨h1, h2, h3, h4, h5⟩ := h
    obtain ⟨i1, i2⟩ := oS_inv h1
    have hw := (pS_w h1).2.2
    have hw2 := (pS_w h1).2.1
    have hwl : (wVals os).length ≤ os.length := by rw [hw2, List.length_drop]; omega
    rw [oS_cons]
    generalize oS os = s at i1 i2 ⊢
    obtain ⟨st, ms, a, b⟩ := s
    simp only at i1 i2
    unfold oGo wVals
    by_cases e : o.1 = -1
    · rw [if_pos e, if_pos e]
      have hne := h4 e
      have hl : (wVals os).tail.length + 1 = (wVals os).length := by
        cases hc : wVals os with
        | nil => exact absurd hc hne
        | cons x xs => rfl
      by_cases ha : a = 0
      · rw [if_pos ha]
        exact ⟨by show b - 1 + 0 = _; omega, by show max ms (b + 1) ≤ _; rw [List.length_cons]; omega⟩
      · rw [if_neg ha]
        exact ⟨by show a - 1 + b = _; omega, by show max ms 1 ≤ _; rw [List.length_cons]; omega⟩
    · rw [if_neg e, if_neg e]
      exact ⟨by show a + (b + 1) = _; rw [List.length_append, List.length_singleton]; omega, by show max ms 1 ≤ _; rw [List.length_cons]; omega⟩
theorem k_X7_workOfOther_7 : gCl wsX7_workOfOther 7 RX7 TX7 26 := ⟨by decide +kernel, rfl⟩
theorem m_X7_workOfOther_f109 : Cond.fieldLink RX7 109 "SteadyQueuesModel" "wayMany" "I" ∈ wsX7_workOfOther := by decide +kernel
theorem m_X7_workOfOther_f22 : Cond.fieldLink RX7 22 "SteadyQueuesModel" "way" "[I" ∈ wsX7_workOfOther := by decide +kernel
theorem m_X7_workOfOther_ml224 : Cond.methodLink RX7 224 Lib.Math.max.name ∈ wsX7_workOfOther := by decide +kernel
theorem m_X7_workOfOther_msmax : Cond.static Lib.Math.max.name ∈ wsX7_workOfOther := by decide +kernel
theorem m_X7_workOfOther_mi : Cond.initialized "java/lang/Math" ∈ wsX7_workOfOther := by decide +kernel
theorem m_X7_workOfOther_mcmax : Cond.code Lib.Math.max.name Lib.Math.max.code 2 (some .int) ∈ wsX7_workOfOther := by decide +kernel
set_option maxHeartbeats 4000000 in
set_option maxRecDepth 100000 in
theorem lp0_X7_workOfOther {G : gG} {z0 : Nat} {X : gX} {l : Launch} {post : Option Value → gH → Prop} {mc ms cells slots j k v : Nat} {h : gH} {m rows asd now vals many way told oth lst text : Nat} {th und fl rl kd ok st fed len spot fa fat num frm may : Int32} {R W : Nat → Int32} {D : Dt} (F : gF G z0 X cX7_workOfOther 8 RX7 wsX7_workOfOther (some .int) "workOfOther" 2 43 mc ms) (E : gE G z0 X post mc ms) (hcc : cells ≤ mc) (hss : slots ≤ ms) (hm : h m = some (.inr (7, [.int th, .ref rows, .ref asd, .int (nI now), .int und, .ref vals, .ref many, .int fl, .int rl, .int kd, .int ok, .int st, .ref way, .int (nI ((D.2.2.2.2 v).length)), .ref told, .ref oth, .ref lst, .ref text, .int fed, .int len, .int spot, .int fa, .int fat, .int num, .int frm, .int may]))) (hrows : h rows = some (oI G 2970 R)) (hnow : now < 9) (hway : h way = some (oI G 64 W)) (w9 : wfD D) (hS : slD R (330 * now) D) (hlen : (D.2.2.2.2 v).length < 64) (hOv : wOk (D.2.2.2.2 v)) (hW : (∀ j, j < (D.2.2.2.2 v).length → wG D v j (W j))) (hkj : k + j = (D.2.2.2.2 v).length) (hp : post (some (.int (nI (oS (D.2.2.2.2 v)).1))) h) : gV G z0 X cells slots h 13 [(6, .int (nI k)), (5, .int (nI ((oS ((D.2.2.2.2 v).drop ((D.2.2.2.2 v).length - k))).2.1))), (4, .int (nI ((oS ((D.2.2.2.2 v).drop ((D.2.2.2.2 v).length - k))).1))), (3, .int (nI ((oS ((D.2.2.2.2 v).drop ((D.2.2.2.2 v).length - k))).2.2.2))), (2, .int (nI ((oS ((D.2.2.2.2 v).drop ((D.2.2.2.2 v).length - k))).2.2.1))), (1, .int (nI 0)), (0, .ref m)] [] := by
  induction j generalizing k with
  | zero =>
    obtain rfl : k = (D.2.2.2.2 v).length := by omega
    rw [Nat.sub_self, List.drop_zero]
    refine v_iload (pc' := 15) F dX7_workOfOther_13  (j := 0) rfl rfl ?_
    refine v_aload_n (pc' := 16) F dX7_workOfOther_15 rfl (j := 6) rfl rfl ?_
    refine v_getf (pc' := 19) (v := .int (nI ((D.2.2.2.2 v).length))) F k_X7_workOfOther_7 hm 13 (by decide) m_X7_workOfOther_f109 rfl dX7_workOfOther_16 rfl ?_
    refine w_icmp_ge (tgt := 86) (pc' := 22) F (by omega) (by omega) dX7_workOfOther_19 (by decide) rfl (fun _ => ?_) (fun c0 => absurd c0 (by omega))
    refine v_iload_n (pc' := 87) F dX7_workOfOther_86 rfl (j := 5) rfl rfl ?_
    refine w_if_eq (tgt := 95) (pc' := 90) F (by omega) dX7_workOfOther_87 (by decide) rfl (fun _ => ?_) (fun c0 => absurd c0 (by omega))
    refine v_iload (pc' := 97) F dX7_workOfOther_95  (j := 2) rfl rfl ?_
    exact v_iret F E (by omega) (by omega)  dX7_workOfOther_97 hp
  | succ j ih =>
    have hk : k < (D.2.2.2.2 v).length := by omega
    obtain ⟨u, o, hu, hu64, hWk, he, hd, hr1, -, -, hwo⟩ := wG.op w9 hS hk (hW k hk)
    have hoc : oS ((D.2.2.2.2 v).drop ((D.2.2.2.2 v).length - (k + 1))) = oGo [o.1] (oS ((D.2.2.2.2 v).drop ((D.2.2.2.2 v).length - k))) := by rw [hd, oS_cons]
    have hiv := oS_inv hwo.1
    have hdl : ((D.2.2.2.2 v).drop ((D.2.2.2.2 v).length - k)).length = k := by rw [List.length_drop]; omega
    rw [hdl] at hiv
    have hwv := pS_w hwo.1
    rw [hdl] at hwv
    have hwl : (wVals ((D.2.2.2.2 v).drop ((D.2.2.2.2 v).length - k))).length ≤ k := by rw [hwv.2.1, List.length_drop]; omega
    have ih9 := ih (k := k + 1) (by omega)
    rw [hoc] at ih9
    generalize oS ((D.2.2.2.2 v).drop ((D.2.2.2.2 v).length - k)) = S at *
    obtain ⟨sa, sm, fa9, re⟩ := S
    simp only at hiv
    show gV G z0 X cells slots h 13 [(6, .int (nI k)), (5, .int (nI sm)), (4, .int (nI sa)), (3, .int (nI re)), (2, .int (nI fa9)), (1, .int (nI 0)), (0, .ref m)] []
    refine v_iload (pc' := 15) F dX7_workOfOther_13  (j := 0) rfl rfl ?_
    refine v_aload_n (pc' := 16) F dX7_workOfOther_15 rfl (j := 6) rfl rfl ?_
    refine v_getf (pc' := 19) (v := .int (nI ((D.2.2.2.2 v).length))) F k_X7_workOfOther_7 hm 13 (by decide) m_X7_workOfOther_f109 rfl dX7_workOfOther_16 rfl ?_
    refine w_icmp_ge (tgt := 86) (pc' := 22) F (by omega) (by omega) dX7_workOfOther_19 (by decide) rfl (fun c0 => absurd c0 (by omega)) (fun _ => ?_)
    refine v_iconst (pc' := 23) (v := nI 1) F dX7_workOfOther_22 (by decide) rfl ?_
    refine v_istore (pc' := 25) (i := 7) (L' := [(7, .int (nI 1)), (6, .int (nI k)), (5, .int (nI sm)), (4, .int (nI sa)), (3, .int (nI re)), (2, .int (nI fa9)), (1, .int (nI 0)), (0, .ref m)]) F dX7_workOfOther_23  (by decide) rfl rfl ?_
    refine v_aload_n (pc' := 26) F dX7_workOfOther_25 rfl (j := 7) rfl rfl ?_
    refine v_aload_n (pc' := 27) F dX7_workOfOther_26 rfl (j := 7) rfl rfl ?_
    refine v_getf (pc' := 30) (v := .ref way) F k_X7_workOfOther_7 hm 12 (by decide) m_X7_workOfOther_f22 rfl dX7_workOfOther_27 rfl ?_
    refine v_iload (pc' := 32) F dX7_workOfOther_30  (j := 1) rfl rfl ?_
    refine w_iald (pc' := 33) (v := nI u) F hway (by omega) (by omega) hWk dX7_workOfOther_32 rfl ?_
    refine v_iconst (pc' := 34) (v := nI 1) F dX7_workOfOther_33 (by decide) rfl ?_
    refine v_callV (pc' := 37) (rt := (some .int)) (mcc := 0) (msc := 0) (As := [.int (nI u), .int (nI 1)]) (st := []) F (fun l => c_X7_of G z0 l (v := u) (w := 1) hm hrows hnow hu64 (by omega)) gX7_workOfOther_X7_of rfl hv_X7_of (by decide) (by decide) hm rfl rfl rfl (Nat.le_of_ble_eq_true rfl) (by omega) (by omega) dX7_workOfOther_34 rfl (fun v1 h hqo => ?_)
    rw [hr1] at hqo; obtain ⟨rfl, rfl⟩ := hqo
    refine v_iconst (pc' := 38) (v := (-1)) F dX7_workOfOther_37 (by decide) rfl ?_
    refine v_icmp_eq (tgt := 47) (pc' := 41) F dX7_workOfOther_38 (by decide) rfl (fun c0 => ?_) (fun c0 => ?_)
    · have hne : 0 < (wVals ((D.2.2.2.2 v).drop ((D.2.2.2.2 v).length - k))).length := List.length_pos_iff.mpr (hwo.2.2.2.1 c0)
      refine v_iload_n (pc' := 48) F dX7_workOfOther_47 rfl (j := 5) rfl rfl ?_
      refine w_if_ne (tgt := 61) (pc' := 51) F (by omega) dX7_workOfOther_48 (by decide) rfl (fun c1 => ?_) (fun c1 => ?_)
      · refine v_iinc (pc' := 64) (j := 5) (x := nI fa9) (v := nI (fa9 - 1)) (L' := [(2, .int (nI (fa9 - 1))), (7, .int (nI 1)), (6, .int (nI k)), (5, .int (nI sm)), (4, .int (nI sa)), (3, .int (nI re)), (1, .int (nI 0)), (0, .ref m)]) F dX7_workOfOther_61 rfl (g_dec (by omega)) (by decide) rfl rfl ?_
        refine v_iload (pc' := 66) F dX7_workOfOther_64  (j := 4) rfl rfl ?_
        refine v_iload (pc' := 68) F dX7_workOfOther_66  (j := 1) rfl rfl ?_
        refine v_iadd (pc' := 69) (v := nI (sa + 1)) F dX7_workOfOther_68 (nI_add sa 1) rfl ?_
        refine v_istore (pc' := 71) (i := 4) (L' := [(4, .int (nI (sa + 1))), (2, .int (nI (fa9 - 1))), (7, .int (nI 1)), (6, .int (nI k)), (5, .int (nI sm)), (3, .int (nI re)), (1, .int (nI 0)), (0, .ref m)]) F dX7_workOfOther_69  (by decide) rfl rfl ?_
        refine v_iload (pc' := 73) F dX7_workOfOther_71  (j := 4) rfl rfl ?_
        refine v_iload (pc' := 75) F dX7_workOfOther_73  (j := 2) rfl rfl ?_
        refine v_mmax (pc' := 78) (v := nI (max sm 1)) F m_X7_workOfOther_ml224 m_X7_workOfOther_msmax m_X7_workOfOther_mi m_X7_workOfOther_mcmax (by decide) (Nat.le_of_ble_eq_true rfl) (by omega) (by omega) (g_maxn (by omega) (by omega)) dX7_workOfOther_75 rfl ?_
        refine v_istore (pc' := 80) (i := 5) (L' := [(5, .int (nI (max sm 1))), (4, .int (nI (sa + 1))), (2, .int (nI (fa9 - 1))), (7, .int (nI 1)), (6, .int (nI k)), (3, .int (nI re)), (1, .int (nI 0)), (0, .ref m)]) F dX7_workOfOther_78  (by decide) rfl rfl ?_
        refine v_iinc (pc' := 83) (j := 4) (x := nI k) (v := nI (k + 1)) (L' := [(6, .int (nI (k + 1))), (5, .int (nI (max sm 1))), (4, .int (nI (sa + 1))), (2, .int (nI (fa9 - 1))), (7, .int (nI 1)), (3, .int (nI re)), (1, .int (nI 0)), (0, .ref m)]) F dX7_workOfOther_80 rfl (nI_add k 1) (by decide) rfl rfl ?_
        refine v_goto (tgt := 13) F dX7_workOfOther_83 (by decide) ?_
        refine v_sub (L' := [(6, .int (nI (k + 1))), (5, .int (nI (max sm 1))), (4, .int (nI (sa + 1))), (3, .int (nI re)), (2, .int (nI (fa9 - 1))), (1, .int (nI 0)), (0, .ref m)]) [0, 1, 2, 5, 3, 6, 7] rfl ?_
        rw [show oGo [o.1] (sa, sm, fa9, re) = (sa + 1, max sm 1, fa9 - 1, re) from by show (if o.1 = -1 then (if fa9 = 0 then _ else _) else _) = _; rw [if_pos c0, if_neg c1]; rfl] at ih9
        exact ih9
      · subst c1
        refine v_iload (pc' := 53) F dX7_workOfOther_51  (j := 0) rfl rfl ?_
        refine v_iload_n (pc' := 54) F dX7_workOfOther_53 rfl (j := 4) rfl rfl ?_
        refine v_iadd (pc' := 55) (v := nI (1 + re)) F dX7_workOfOther_54 (nI_add 1 re) rfl ?_
        refine v_istore (pc' := 57) (i := 7) (L' := [(7, .int (nI (1 + re))), (6, .int (nI k)), (5, .int (nI sm)), (4, .int (nI sa)), (3, .int (nI re)), (2, .int (nI 0)), (1, .int (nI 0)), (0, .ref m)]) F dX7_workOfOther_55  (by decide) rfl rfl ?_
        refine v_iload_n (pc' := 58) F dX7_workOfOther_57 rfl (j := 4) rfl rfl ?_
        refine v_istore_n (pc' := 59) (i := 2) (L' := [(2, .int (nI re)), (7, .int (nI (1 + re))), (6, .int (nI k)), (5, .int (nI sm)), (4, .int (nI sa)), (3, .int (nI re)), (1, .int (nI 0)), (0, .ref m)]) F dX7_workOfOther_58 rfl (by decide) rfl rfl ?_
        refine v_iconst (pc' := 60) (v := nI 0) F dX7_workOfOther_59 (by decide) rfl ?_
        refine v_istore_n (pc' := 61) (i := 3) (L' := [(3, .int (nI 0)), (2, .int (nI re)), (7, .int (nI (1 + re))), (6, .int (nI k)), (5, .int (nI sm)), (4, .int (nI sa)), (1, .int (nI 0)), (0, .ref m)]) F dX7_workOfOther_60 rfl (by decide) rfl rfl ?_
        refine v_iinc (pc' := 64) (j := 1) (x := nI re) (v := nI (re - 1)) (L' := [(2, .int (nI (re - 1))), (3, .int (nI 0)), (7, .int (nI (1 + re))), (6, .int (nI k)), (5, .int (nI sm)), (4, .int (nI sa)), (1, .int (nI 0)), (0, .ref m)]) F dX7_workOfOther_61 rfl (g_dec (by omega)) (by decide) rfl rfl ?_
        refine v_iload (pc' := 66) F dX7_workOfOther_64  (j := 5) rfl rfl ?_
        refine v_iload (pc' := 68) F dX7_workOfOther_66  (j := 2) rfl rfl ?_
        refine v_iadd (pc' := 69) (v := nI (sa + (1 + re))) F dX7_workOfOther_68 (nI_add sa (1 + re)) rfl ?_
        refine v_istore (pc' := 71) (i := 4) (L' := [(4, .int (nI (sa + (1 + re)))), (2, .int (nI (re - 1))), (3, .int (nI 0)), (7, .int (nI (1 + re))), (6, .int (nI k)), (5, .int (nI sm)), (1, .int (nI 0)), (0, .ref m)]) F dX7_workOfOther_69  (by decide) rfl rfl ?_
        refine v_iload (pc' := 73) F dX7_workOfOther_71  (j := 5) rfl rfl ?_
        refine v_iload (pc' := 75) F dX7_workOfOther_73  (j := 3) rfl rfl ?_
        refine v_mmax (pc' := 78) (v := nI (max sm (1 + re))) F m_X7_workOfOther_ml224 m_X7_workOfOther_msmax m_X7_workOfOther_mi m_X7_workOfOther_mcmax (by decide) (Nat.le_of_ble_eq_true rfl) (by omega) (by omega) (g_maxn (by omega) (by omega)) dX7_workOfOther_75 rfl ?_
        refine v_istore (pc' := 80) (i := 5) (L' := [(5, .int (nI (max sm (1 + re)))), (4, .int (nI (sa + (1 + re)))), (2, .int (nI (re - 1))), (3, .int (nI 0)), (7, .int (nI (1 + re))), (6, .int (nI k)), (1, .int (nI 0)), (0, .ref m)]) F dX7_workOfOther_78  (by decide) rfl rfl ?_
        refine v_iinc (pc' := 83) (j := 5) (x := nI k) (v := nI (k + 1)) (L' := [(6, .int (nI (k + 1))), (5, .int (nI (max sm (1 + re)))), (4, .int (nI (sa + (1 + re)))), (2, .int (nI (re - 1))), (3, .int (nI 0)), (7, .int (nI (1 + re))), (1, .int (nI 0)), (0, .ref m)]) F dX7_workOfOther_80 rfl (nI_add k 1) (by decide) rfl rfl ?_
        refine v_goto (tgt := 13) F dX7_workOfOther_83 (by decide) ?_
        refine v_sub (L' := [(6, .int (nI (k + 1))), (5, .int (nI (max sm (1 + re)))), (4, .int (nI (sa + (1 + re)))), (3, .int (nI 0)), (2, .int (nI (re - 1))), (1, .int (nI 0)), (0, .ref m)]) [0, 1, 2, 4, 3, 6, 7] rfl ?_
        rw [show oGo [o.1] (sa, sm, 0, re) = (sa + (1 + re), max sm (1 + re), re - 1, 0) from by show (if o.1 = -1 then (if 0 = 0 then _ else _) else _) = _; rw [if_pos c0, if_pos rfl, Nat.add_comm 1 re]; rfl] at ih9
        exact ih9
    · refine v_iinc (pc' := 44) (j := 4) (x := nI re) (v := nI (re + 1)) (L' := [(3, .int (nI (re + 1))), (7, .int (nI 1)), (6, .int (nI k)), (5, .int (nI sm)), (4, .int (nI sa)), (2, .int (nI fa9)), (1, .int (nI 0)), (0, .ref m)]) F dX7_workOfOther_41 rfl (nI_add re 1) (by decide) rfl rfl ?_
      refine v_goto (tgt := 64) F dX7_workOfOther_44 (by decide) ?_
      refine v_iload (pc' := 66) F dX7_workOfOther_64  (j := 4) rfl rfl ?_
      refine v_iload (pc' := 68) F dX7_workOfOther_66  (j := 1) rfl rfl ?_
      refine v_iadd (pc' := 69) (v := nI (sa + 1)) F dX7_workOfOther_68 (nI_add sa 1) rfl ?_
      refine v_istore (pc' := 71) (i := 4) (L' := [(4, .int (nI (sa + 1))), (3, .int (nI (re + 1))), (7, .int (nI 1)), (6, .int (nI k)), (5, .int (nI sm)), (2, .int (nI fa9)), (1, .int (nI 0)), (0, .ref m)]) F dX7_workOfOther_69  (by decide) rfl rfl ?_
      refine v_iload (pc' := 73) F dX7_workOfOther_71  (j := 4) rfl rfl ?_
      refine v_iload (pc' := 75) F dX7_workOfOther_73  (j := 2) rfl rfl ?_
      refine v_mmax (pc' := 78) (v := nI (max sm 1)) F m_X7_workOfOther_ml224 m_X7_workOfOther_msmax m_X7_workOfOther_mi m_X7_workOfOther_mcmax (by decide) (Nat.le_of_ble_eq_true rfl) (by omega) (by omega) (g_maxn (by omega) (by omega)) dX7_workOfOther_75 rfl ?_
      refine v_istore (pc' := 80) (i := 5) (L' := [(5, .int (nI (max sm 1))), (4, .int (nI (sa + 1))), (3, .int (nI (re + 1))), (7, .int (nI 1)), (6, .int (nI k)), (2, .int (nI fa9)), (1, .int (nI 0)), (0, .ref m)]) F dX7_workOfOther_78  (by decide) rfl rfl ?_
      refine v_iinc (pc' := 83) (j := 4) (x := nI k) (v := nI (k + 1)) (L' := [(6, .int (nI (k + 1))), (5, .int (nI (max sm 1))), (4, .int (nI (sa + 1))), (3, .int (nI (re + 1))), (7, .int (nI 1)), (2, .int (nI fa9)), (1, .int (nI 0)), (0, .ref m)]) F dX7_workOfOther_80 rfl (nI_add k 1) (by decide) rfl rfl ?_
      refine v_goto (tgt := 13) F dX7_workOfOther_83 (by decide) ?_
      refine v_sub (L' := [(6, .int (nI (k + 1))), (5, .int (nI (max sm 1))), (4, .int (nI (sa + 1))), (3, .int (nI (re + 1))), (2, .int (nI fa9)), (1, .int (nI 0)), (0, .ref m)]) [0, 1, 2, 3, 5, 6, 7] rfl ?_
      rw [show oGo [o.1] (sa, sm, fa9, re) = (sa + 1, max sm 1, fa9, re + 1) from by show (if o.1 = -1 then (if fa9 = 0 then _ else _) else _) = _; rw [if_neg c0]; rfl] at ih9
      exact ih9
set_option maxHeartbeats 4000000 in
set_option maxRecDepth 100000 in
theorem c0_X7_workOfOther (G : gG) (z0 : Nat) (l : Launch) {h : gH} {m rows asd now vals many way told oth lst text : Nat} {th und fl rl kd ok st fed len spot fa fat num frm may : Int32} {R W : Nat → Int32} {D : Dt} {v : Nat} (hm : h m = some (.inr (7, [.int th, .ref rows, .ref asd, .int (nI now), .int und, .ref vals, .ref many, .int fl, .int rl, .int kd, .int ok, .int st, .ref way, .int (nI ((D.2.2.2.2 v).length)), .ref told, .ref oth, .ref lst, .ref text, .int fed, .int len, .int spot, .int fa, .int fat, .int num, .int frm, .int may]))) (hrows : h rows = some (oI G 2970 R)) (hnow : now < 9) (hway : h way = some (oI G 64 W)) (w9 : wfD D) (hS : slD R (330 * now) D) (hlen : (D.2.2.2.2 v).length < 64) (hOv : wOk (D.2.2.2.2 v)) (hW : (∀ j, j < (D.2.2.2.2 v).length → wG D v j (W j))) : gC G z0 l yX7_workOfOther wsX7_workOfOther 2 43 [.ref m, .int (nI 0)] h (fun o h' => o = some (.int (nI (oS (D.2.2.2.2 v)).1)) ∧ h' = h) 0 0 := by
  refine gC_of (cc := cX7_workOfOther) (nL := 8) (ret := (some .int)) (by decide) rfl (Nat.le_of_ble_eq_true rfl) ?_
  intro X F E _
  change gF G z0 X cX7_workOfOther 8 RX7 wsX7_workOfOther (some .int) "workOfOther" 2 43 _ _ at F
  show gV G z0 X 0 0 h 0 [(0, .ref m), (1, .int (nI 0))] []
  refine v_iconst (pc' := 1) (v := nI 0) F dX7_workOfOther_0 (by decide) rfl ?_
  refine v_istore_n (pc' := 2) (i := 2) (L' := [(2, .int (nI 0)), (0, .ref m), (1, .int (nI 0))]) F dX7_workOfOther_1 rfl (by decide) rfl rfl ?_
  refine v_iconst (pc' := 3) (v := nI 0) F dX7_workOfOther_2 (by decide) rfl ?_
  refine v_istore_n (pc' := 4) (i := 3) (L' := [(3, .int (nI 0)), (2, .int (nI 0)), (0, .ref m), (1, .int (nI 0))]) F dX7_workOfOther_3 rfl (by decide) rfl rfl ?_
  refine v_iconst (pc' := 5) (v := nI 0) F dX7_workOfOther_4 (by decide) rfl ?_
  refine v_istore (pc' := 7) (i := 4) (L' := [(4, .int (nI 0)), (3, .int (nI 0)), (2, .int (nI 0)), (0, .ref m), (1, .int (nI 0))]) F dX7_workOfOther_5  (by decide) rfl rfl ?_
  refine v_iconst (pc' := 8) (v := nI 0) F dX7_workOfOther_7 (by decide) rfl ?_
  refine v_istore (pc' := 10) (i := 5) (L' := [(5, .int (nI 0)), (4, .int (nI 0)), (3, .int (nI 0)), (2, .int (nI 0)), (0, .ref m), (1, .int (nI 0))]) F dX7_workOfOther_8  (by decide) rfl rfl ?_
  refine v_iconst (pc' := 11) (v := nI 0) F dX7_workOfOther_10 (by decide) rfl ?_
  refine v_istore (pc' := 13) (i := 6) (L' := [(6, .int (nI 0)), (5, .int (nI 0)), (4, .int (nI 0)), (3, .int (nI 0)), (2, .int (nI 0)), (0, .ref m), (1, .int (nI 0))]) F dX7_workOfOther_11  (by decide) rfl rfl ?_
  refine v_sub (L' := [(6, .int (nI 0)), (5, .int (nI 0)), (4, .int (nI 0)), (3, .int (nI 0)), (2, .int (nI 0)), (1, .int (nI 0)), (0, .ref m)]) [0, 1, 2, 3, 4, 6, 5] rfl ?_
  have e0 : (D.2.2.2.2 v).drop ((D.2.2.2.2 v).length - 0) = [] := by rw [Nat.sub_zero, List.drop_length]
  have hz9 : oS ((D.2.2.2.2 v).drop ((D.2.2.2.2 v).length - 0)) = (0, 0, 0, 0) := by rw [e0]; rfl
  suffices hA : gV G z0 X 0 0 h 13 [(6, .int (nI 0)), (5, .int (nI ((oS ((D.2.2.2.2 v).drop ((D.2.2.2.2 v).length - 0))).2.1))), (4, .int (nI ((oS ((D.2.2.2.2 v).drop ((D.2.2.2.2 v).length - 0))).1))), (3, .int (nI ((oS ((D.2.2.2.2 v).drop ((D.2.2.2.2 v).length - 0))).2.2.2))), (2, .int (nI ((oS ((D.2.2.2.2 v).drop ((D.2.2.2.2 v).length - 0))).2.2.1))), (1, .int (nI 0)), (0, .ref m)] [] by rw [hz9] at hA; exact hA
  exact lp0_X7_workOfOther (l := l) (k := 0) (j := (D.2.2.2.2 v).length) F E (by omega) (by omega) hm hrows hnow hway w9 hS hlen hOv hW (by omega) ⟨rfl, rfl⟩
set_option maxHeartbeats 4000000 in
set_option maxRecDepth 100000 in
theorem lp1_X7_workOfOther {G : gG} {z0 : Nat} {X : gX} {l : Launch} {post : Option Value → gH → Prop} {mc ms cells slots j k v : Nat} {h : gH} {m rows asd now vals many way told oth lst text : Nat} {th und fl rl kd ok st fed len spot fa fat num frm may : Int32} {R W : Nat → Int32} {D : Dt} (F : gF G z0 X cX7_workOfOther 8 RX7 wsX7_workOfOther (some .int) "workOfOther" 2 43 mc ms) (E : gE G z0 X post mc ms) (hcc : cells ≤ mc) (hss : slots ≤ ms) (hm : h m = some (.inr (7, [.int th, .ref rows, .ref asd, .int (nI now), .int und, .ref vals, .ref many, .int fl, .int rl, .int kd, .int ok, .int st, .ref way, .int (nI ((D.2.2.2.2 v).length)), .ref told, .ref oth, .ref lst, .ref text, .int fed, .int len, .int spot, .int fa, .int fat, .int num, .int frm, .int may]))) (hrows : h rows = some (oI G 2970 R)) (hnow : now < 9) (hway : h way = some (oI G 64 W)) (w9 : wfD D) (hS : slD R (330 * now) D) (hlen : (D.2.2.2.2 v).length < 64) (hOv : wOk (D.2.2.2.2 v)) (hW : (∀ j, j < (D.2.2.2.2 v).length → wG D v j (W j))) (hkj : k + j = (D.2.2.2.2 v).length) (hp : post (some (.int (nI (oS (D.2.2.2.2 v)).2.1))) h) : gV G z0 X cells slots h 13 [(6, .int (nI k)), (5, .int (nI ((oS ((D.2.2.2.2 v).drop ((D.2.2.2.2 v).length - k))).2.1))), (4, .int (nI ((oS ((D.2.2.2.2 v).drop ((D.2.2.2.2 v).length - k))).1))), (3, .int (nI ((oS ((D.2.2.2.2 v).drop ((D.2.2.2.2 v).length - k))).2.2.2))), (2, .int (nI ((oS ((D.2.2.2.2 v).drop ((D.2.2.2.2 v).length - k))).2.2.1))), (1, .int (nI 1)), (0, .ref m)] [] := by
  induction j generalizing k with
  | zero =>
    obtain rfl : k = (D.2.2.2.2 v).length := by omega
    rw [Nat.sub_self, List.drop_zero]
    refine v_iload (pc' := 15) F dX7_workOfOther_13  (j := 0) rfl rfl ?_
    refine v_aload_n (pc' := 16) F dX7_workOfOther_15 rfl (j := 6) rfl rfl ?_
    refine v_getf (pc' := 19) (v := .int (nI ((D.2.2.2.2 v).length))) F k_X7_workOfOther_7 hm 13 (by decide) m_X7_workOfOther_f109 rfl dX7_workOfOther_16 rfl ?_
    refine w_icmp_ge (tgt := 86) (pc' := 22) F (by omega) (by omega) dX7_workOfOther_19 (by decide) rfl (fun _ => ?_) (fun c0 => absurd c0 (by omega))
    refine v_iload_n (pc' := 87) F dX7_workOfOther_86 rfl (j := 5) rfl rfl ?_
    refine w_if_eq (tgt := 95) (pc' := 90) F (by omega) dX7_workOfOther_87 (by decide) rfl (fun c0 => absurd c0 (by omega)) (fun _ => ?_)
    refine v_iload (pc' := 92) F dX7_workOfOther_90  (j := 1) rfl rfl ?_
    refine v_goto (tgt := 97) F dX7_workOfOther_92 (by decide) ?_
    exact v_iret F E (by omega) (by omega)  dX7_workOfOther_97 hp
  | succ j ih =>
    have hk : k < (D.2.2.2.2 v).length := by omega
    obtain ⟨u, o, hu, hu64, hWk, he, hd, hr1, -, -, hwo⟩ := wG.op w9 hS hk (hW k hk)
    have hoc : oS ((D.2.2.2.2 v).drop ((D.2.2.2.2 v).length - (k + 1))) = oGo [o.1] (oS ((D.2.2.2.2 v).drop ((D.2.2.2.2 v).length - k))) := by rw [hd, oS_cons]
    have hiv := oS_inv hwo.1
    have hdl : ((D.2.2.2.2 v).drop ((D.2.2.2.2 v).length - k)).length = k := by rw [List.length_drop]; omega
    rw [hdl] at hiv
    have hwv := pS_w hwo.1
    rw [hdl] at hwv
    have hwl : (wVals ((D.2.2.2.2 v).drop ((D.2.2.2.2 v).length - k))).length ≤ k := by rw [hwv.2.1, List.length_drop]; omega
    have ih9 := ih (k := k + 1) (by omega)
    rw [hoc] at ih9
    generalize oS ((D.2.2.2.2 v).drop ((D.2.2.2.2 v).length - k)) = S at *
    obtain ⟨sa, sm, fa9, re⟩ := S
    simp only at hiv
    show gV G z0 X cells slots h 13 [(6, .int (nI k)), (5, .int (nI sm)), (4, .int (nI sa)), (3, .int (nI re)), (2, .int (nI fa9)), (1, .int (nI 1)), (0, .ref m)] []
    refine v_iload (pc' := 15) F dX7_workOfOther_13  (j := 0) rfl rfl ?_
    refine v_aload_n (pc' := 16) F dX7_workOfOther_15 rfl (j := 6) rfl rfl ?_
    refine v_getf (pc' := 19) (v := .int (nI ((D.2.2.2.2 v).length))) F k_X7_workOfOther_7 hm 13 (by decide) m_X7_workOfOther_f109 rfl dX7_workOfOther_16 rfl ?_
    refine w_icmp_ge (tgt := 86) (pc' := 22) F (by omega) (by omega) dX7_workOfOther_19 (by decide) rfl (fun c0 => absurd c0 (by omega)) (fun _ => ?_)
    refine v_iconst (pc' := 23) (v := nI 1) F dX7_workOfOther_22 (by decide) rfl ?_
    refine v_istore (pc' := 25) (i := 7) (L' := [(7, .int (nI 1)), (6, .int (nI k)), (5, .int (nI sm)), (4, .int (nI sa)), (3, .int (nI re)), (2, .int (nI fa9)), (1, .int (nI 1)), (0, .ref m)]) F dX7_workOfOther_23  (by decide) rfl rfl ?_
    refine v_aload_n (pc' := 26) F dX7_workOfOther_25 rfl (j := 7) rfl rfl ?_
    refine v_aload_n (pc' := 27) F dX7_workOfOther_26 rfl (j := 7) rfl rfl ?_
    refine v_getf (pc' := 30) (v := .ref way) F k_X7_workOfOther_7 hm 12 (by decide) m_X7_workOfOther_f22 rfl dX7_workOfOther_27 rfl ?_
    refine v_iload (pc' := 32) F dX7_workOfOther_30  (j := 1) rfl rfl ?_
    refine w_iald (pc' := 33) (v := nI u) F hway (by omega) (by omega) hWk dX7_workOfOther_32 rfl ?_
    refine v_iconst (pc' := 34) (v := nI 1) F dX7_workOfOther_33 (by decide) rfl ?_
    refine v_callV (pc' := 37) (rt := (some .int)) (mcc := 0) (msc := 0) (As := [.int (nI u), .int (nI 1)]) (st := []) F (fun l => c_X7_of G z0 l (v := u) (w := 1) hm hrows hnow hu64 (by omega)) gX7_workOfOther_X7_of rfl hv_X7_of (by decide) (by decide) hm rfl rfl rfl (Nat.le_of_ble_eq_true rfl) (by omega) (by omega) dX7_workOfOther_34 rfl (fun v1 h hqo => ?_)
    rw [hr1] at hqo; obtain ⟨rfl, rfl⟩ := hqo
    refine v_iconst (pc' := 38) (v := (-1)) F dX7_workOfOther_37 (by decide) rfl ?_
    refine v_icmp_eq (tgt := 47) (pc' := 41) F dX7_workOfOther_38 (by decide) rfl (fun c0 => ?_) (fun c0 => ?_)
    · have hne : 0 < (wVals ((D.2.2.2.2 v).drop ((D.2.2.2.2 v).length - k))).length := List.length_pos_iff.mpr (hwo.2.2.2.1 c0)
      refine v_iload_n (pc' := 48) F dX7_workOfOther_47 rfl (j := 5) rfl rfl ?_
      refine w_if_ne (tgt := 61) (pc' := 51) F (by omega) dX7_workOfOther_48 (by decide) rfl (fun c1 => ?_) (fun c1 => ?_)
      · refine v_iinc (pc' := 64) (j := 5) (x := nI fa9) (v := nI (fa9 - 1)) (L' := [(2, .int (nI (fa9 - 1))), (7, .int (nI 1)), (6, .int (nI k)), (5, .int (nI sm)), (4, .int (nI sa)), (3, .int (nI re)), (1, .int (nI 1)), (0, .ref m)]) F dX7_workOfOther_61 rfl (g_dec (by omega)) (by decide) rfl rfl ?_
        refine v_iload (pc' := 66) F dX7_workOfOther_64  (j := 4) rfl rfl ?_
        refine v_iload (pc' := 68) F dX7_workOfOther_66  (j := 1) rfl rfl ?_
        refine v_iadd (pc' := 69) (v := nI (sa + 1)) F dX7_workOfOther_68 (nI_add sa 1) rfl ?_
        refine v_istore (pc' := 71) (i := 4) (L' := [(4, .int (nI (sa + 1))), (2, .int (nI (fa9 - 1))), (7, .int (nI 1)), (6, .int (nI k)), (5, .int (nI sm)), (3, .int (nI re)), (1, .int (nI 1)), (0, .ref m)]) F dX7_workOfOther_69  (by decide) rfl rfl ?_
        refine v_iload (pc' := 73) F dX7_workOfOther_71  (j := 4) rfl rfl ?_
        refine v_iload (pc' := 75) F dX7_workOfOther_73  (j := 2) rfl rfl ?_
        refine v_mmax (pc' := 78) (v := nI (max sm 1)) F m_X7_workOfOther_ml224 m_X7_workOfOther_msmax m_X7_workOfOther_mi m_X7_workOfOther_mcmax (by decide) (Nat.le_of_ble_eq_true rfl) (by omega) (by omega) (g_maxn (by omega) (by omega)) dX7_workOfOther_75 rfl ?_
        refine v_istore (pc' := 80) (i := 5) (L' := [(5, .int (nI (max sm 1))), (4, .int (nI (sa + 1))), (2, .int (nI (fa9 - 1))), (7, .int (nI 1)), (6, .int (nI k)), (3, .int (nI re)), (1, .int (nI 1)), (0, .ref m)]) F dX7_workOfOther_78  (by decide) rfl rfl ?_
        refine v_iinc (pc' := 83) (j := 4) (x := nI k) (v := nI (k + 1)) (L' := [(6, .int (nI (k + 1))), (5, .int (nI (max sm 1))), (4, .int (nI (sa + 1))), (2, .int (nI (fa9 - 1))), (7, .int (nI 1)), (3, .int (nI re)), (1, .int (nI 1)), (0, .ref m)]) F dX7_workOfOther_80 rfl (nI_add k 1) (by decide) rfl rfl ?_
        refine v_goto (tgt := 13) F dX7_workOfOther_83 (by decide) ?_
        refine v_sub (L' := [(6, .int (nI (k + 1))), (5, .int (nI (max sm 1))), (4, .int (nI (sa + 1))), (3, .int (nI re)), (2, .int (nI (fa9 - 1))), (1, .int (nI 1)), (0, .ref m)]) [0, 1, 2, 5, 3, 6, 7] rfl ?_
        rw [show oGo [o.1] (sa, sm, fa9, re) = (sa + 1, max sm 1, fa9 - 1, re) from by show (if o.1 = -1 then (if fa9 = 0 then _ else _) else _) = _; rw [if_pos c0, if_neg c1]; rfl] at ih9
        exact ih9
      · subst c1
        refine v_iload (pc' := 53) F dX7_workOfOther_51  (j := 0) rfl rfl ?_
        refine v_iload_n (pc' := 54) F dX7_workOfOther_53 rfl (j := 4) rfl rfl ?_
        refine v_iadd (pc' := 55) (v := nI (1 + re)) F dX7_workOfOther_54 (nI_add 1 re) rfl ?_
        refine v_istore (pc' := 57) (i := 7) (L' := [(7, .int (nI (1 + re))), (6, .int (nI k)), (5, .int (nI sm)), (4, .int (nI sa)), (3, .int (nI re)), (2, .int (nI 0)), (1, .int (nI 1)), (0, .ref m)]) F dX7_workOfOther_55  (by decide) rfl rfl ?_
        refine v_iload_n (pc' := 58) F dX7_workOfOther_57 rfl (j := 4) rfl rfl ?_
        refine v_istore_n (pc' := 59) (i := 2) (L' := [(2, .int (nI re)), (7, .int (nI (1 + re))), (6, .int (nI k)), (5, .int (nI sm)), (4, .int (nI sa)), (3, .int (nI re)), (1, .int (nI 1)), (0, .ref m)]) F dX7_workOfOther_58 rfl (by decide) rfl rfl ?_
        refine v_iconst (pc' := 60) (v := nI 0) F dX7_workOfOther_59 (by decide) rfl ?_
        refine v_istore_n (pc' := 61) (i := 3) (L' := [(3, .int (nI 0)), (2, .int (nI re)), (7, .int (nI (1 + re))), (6, .int (nI k)), (5, .int (nI sm)), (4, .int (nI sa)), (1, .int (nI 1)), (0, .ref m)]) F dX7_workOfOther_60 rfl (by decide) rfl rfl ?_
        refine v_iinc (pc' := 64) (j := 1) (x := nI re) (v := nI (re - 1)) (L' := [(2, .int (nI (re - 1))), (3, .int (nI 0)), (7, .int (nI (1 + re))), (6, .int (nI k)), (5, .int (nI sm)), (4, .int (nI sa)), (1, .int (nI 1)), (0, .ref m)]) F dX7_workOfOther_61 rfl (g_dec (by omega)) (by decide) rfl rfl ?_
        refine v_iload (pc' := 66) F dX7_workOfOther_64  (j := 5) rfl rfl ?_
        refine v_iload (pc' := 68) F dX7_workOfOther_66  (j := 2) rfl rfl ?_
        refine v_iadd (pc' := 69) (v := nI (sa + (1 + re))) F dX7_workOfOther_68 (nI_add sa (1 + re)) rfl ?_
        refine v_istore (pc' := 71) (i := 4) (L' := [(4, .int (nI (sa + (1 + re)))), (2, .int (nI (re - 1))), (3, .int (nI 0)), (7, .int (nI (1 + re))), (6, .int (nI k)), (5, .int (nI sm)), (1, .int (nI 1)), (0, .ref m)]) F dX7_workOfOther_69  (by decide) rfl rfl ?_
        refine v_iload (pc' := 73) F dX7_workOfOther_71  (j := 5) rfl rfl ?_
        refine v_iload (pc' := 75) F dX7_workOfOther_73  (j := 3) rfl rfl ?_
        refine v_mmax (pc' := 78) (v := nI (max sm (1 + re))) F m_X7_workOfOther_ml224 m_X7_workOfOther_msmax m_X7_workOfOther_mi m_X7_workOfOther_mcmax (by decide) (Nat.le_of_ble_eq_true rfl) (by omega) (by omega) (g_maxn (by omega) (by omega)) dX7_workOfOther_75 rfl ?_
        refine v_istore (pc' := 80) (i := 5) (L' := [(5, .int (nI (max sm (1 + re)))), (4, .int (nI (sa + (1 + re)))), (2, .int (nI (re - 1))), (3, .int (nI 0)), (7, .int (nI (1 + re))), (6, .int (nI k)), (1, .int (nI 1)), (0, .ref m)]) F dX7_workOfOther_78  (by decide) rfl rfl ?_
        refine v_iinc (pc' := 83) (j := 5) (x := nI k) (v := nI (k + 1)) (L' := [(6, .int (nI (k + 1))), (5, .int (nI (max sm (1 + re)))), (4, .int (nI (sa + (1 + re)))), (2, .int (nI (re - 1))), (3, .int (nI 0)), (7, .int (nI (1 + re))), (1, .int (nI 1)), (0, .ref m)]) F dX7_workOfOther_80 rfl (nI_add k 1) (by decide) rfl rfl ?_
        refine v_goto (tgt := 13) F dX7_workOfOther_83 (by decide) ?_
        refine v_sub (L' := [(6, .int (nI (k + 1))), (5, .int (nI (max sm (1 + re)))), (4, .int (nI (sa + (1 + re)))), (3, .int (nI 0)), (2, .int (nI (re - 1))), (1, .int (nI 1)), (0, .ref m)]) [0, 1, 2, 4, 3, 6, 7] rfl ?_
        rw [show oGo [o.1] (sa, sm, 0, re) = (sa + (1 + re), max sm (1 + re), re - 1, 0) from by show (if o.1 = -1 then (if 0 = 0 then _ else _) else _) = _; rw [if_pos c0, if_pos rfl, Nat.add_comm 1 re]; rfl] at ih9
        exact ih9
    · refine v_iinc (pc' := 44) (j := 4) (x := nI re) (v := nI (re + 1)) (L' := [(3, .int (nI (re + 1))), (7, .int (nI 1)), (6, .int (nI k)), (5, .int (nI sm)), (4, .int (nI sa)), (2, .int (nI fa9)), (1, .int (nI 1)), (0, .ref m)]) F dX7_workOfOther_41 rfl (nI_add re 1) (by decide) rfl rfl ?_
      refine v_goto (tgt := 64) F dX7_workOfOther_44 (by decide) ?_
      refine v_iload (pc' := 66) F dX7_workOfOther_64  (j := 4) rfl rfl ?_
      refine v_iload (pc' := 68) F dX7_workOfOther_66  (j := 1) rfl rfl ?_
      refine v_iadd (pc' := 69) (v := nI (sa + 1)) F dX7_workOfOther_68 (nI_add sa 1) rfl ?_
      refine v_istore (pc' := 71) (i := 4) (L' := [(4, .int (nI (sa + 1))), (3, .int (nI (re + 1))), (7, .int (nI 1)), (6, .int (nI k)), (5, .int (nI sm)), (2, .int (nI fa9)), (1, .int (nI 1)), (0, .ref m)]) F dX7_workOfOther_69  (by decide) rfl rfl ?_
      refine v_iload (pc' := 73) F dX7_workOfOther_71  (j := 4) rfl rfl ?_
      refine v_iload (pc' := 75) F dX7_workOfOther_73  (j := 2) rfl rfl ?_
      refine v_mmax (pc' := 78) (v := nI (max sm 1)) F m_X7_workOfOther_ml224 m_X7_workOfOther_msmax m_X7_workOfOther_mi m_X7_workOfOther_mcmax (by decide) (Nat.le_of_ble_eq_true rfl) (by omega) (by omega) (g_maxn (by omega) (by omega)) dX7_workOfOther_75 rfl ?_
      refine v_istore (pc' := 80) (i := 5) (L' := [(5, .int (nI (max sm 1))), (4, .int (nI (sa + 1))), (3, .int (nI (re + 1))), (7, .int (nI 1)), (6, .int (nI k)), (2, .int (nI fa9)), (1, .int (nI 1)), (0, .ref m)]) F dX7_workOfOther_78  (by decide) rfl rfl ?_
      refine v_iinc (pc' := 83) (j := 4) (x := nI k) (v := nI (k + 1)) (L' := [(6, .int (nI (k + 1))), (5, .int (nI (max sm 1))), (4, .int (nI (sa + 1))), (3, .int (nI (re + 1))), (7, .int (nI 1)), (2, .int (nI fa9)), (1, .int (nI 1)), (0, .ref m)]) F dX7_workOfOther_80 rfl (nI_add k 1) (by decide) rfl rfl ?_
      refine v_goto (tgt := 13) F dX7_workOfOther_83 (by decide) ?_
      refine v_sub (L' := [(6, .int (nI (k + 1))), (5, .int (nI (max sm 1))), (4, .int (nI (sa + 1))), (3, .int (nI (re + 1))), (2, .int (nI fa9)), (1, .int (nI 1)), (0, .ref m)]) [0, 1, 2, 3, 5, 6, 7] rfl ?_
      rw [show oGo [o.1] (sa, sm, fa9, re) = (sa + 1, max sm 1, fa9, re + 1) from by show (if o.1 = -1 then (if fa9 = 0 then _ else _) else _) = _; rw [if_neg c0]; rfl] at ih9
      exact ih9
set_option maxHeartbeats 4000000 in
set_option maxRecDepth 100000 in
theorem c1_X7_workOfOther (G : gG) (z0 : Nat) (l : Launch) {h : gH} {m rows asd now vals many way told oth lst text : Nat} {th und fl rl kd ok st fed len spot fa fat num frm may : Int32} {R W : Nat → Int32} {D : Dt} {v : Nat} (hm : h m = some (.inr (7, [.int th, .ref rows, .ref asd, .int (nI now), .int und, .ref vals, .ref many, .int fl, .int rl, .int kd, .int ok, .int st, .ref way, .int (nI ((D.2.2.2.2 v).length)), .ref told, .ref oth, .ref lst, .ref text, .int fed, .int len, .int spot, .int fa, .int fat, .int num, .int frm, .int may]))) (hrows : h rows = some (oI G 2970 R)) (hnow : now < 9) (hway : h way = some (oI G 64 W)) (w9 : wfD D) (hS : slD R (330 * now) D) (hlen : (D.2.2.2.2 v).length < 64) (hOv : wOk (D.2.2.2.2 v)) (hW : (∀ j, j < (D.2.2.2.2 v).length → wG D v j (W j))) : gC G z0 l yX7_workOfOther wsX7_workOfOther 2 43 [.ref m, .int (nI 1)] h (fun o h' => o = some (.int (nI (oS (D.2.2.2.2 v)).2.1)) ∧ h' = h) 0 0 := by
  refine gC_of (cc := cX7_workOfOther) (nL := 8) (ret := (some .int)) (by decide) rfl (Nat.le_of_ble_eq_true rfl) ?_
  intro X F E _
  change gF G z0 X cX7_workOfOther 8 RX7 wsX7_workOfOther (some .int) "workOfOther" 2 43 _ _ at F
  show gV G z0 X 0 0 h 0 [(0, .ref m), (1, .int (nI 1))] []
  refine v_iconst (pc' := 1) (v := nI 0) F dX7_workOfOther_0 (by decide) rfl ?_
  refine v_istore_n (pc' := 2) (i := 2) (L' := [(2, .int (nI 0)), (0, .ref m), (1, .int (nI 1))]) F dX7_workOfOther_1 rfl (by decide) rfl rfl ?_
  refine v_iconst (pc' := 3) (v := nI 0) F dX7_workOfOther_2 (by decide) rfl ?_
  refine v_istore_n (pc' := 4) (i := 3) (L' := [(3, .int (nI 0)), (2, .int (nI 0)), (0, .ref m), (1, .int (nI 1))]) F dX7_workOfOther_3 rfl (by decide) rfl rfl ?_
  refine v_iconst (pc' := 5) (v := nI 0) F dX7_workOfOther_4 (by decide) rfl ?_
  refine v_istore (pc' := 7) (i := 4) (L' := [(4, .int (nI 0)), (3, .int (nI 0)), (2, .int (nI 0)), (0, .ref m), (1, .int (nI 1))]) F dX7_workOfOther_5  (by decide) rfl rfl ?_
  refine v_iconst (pc' := 8) (v := nI 0) F dX7_workOfOther_7 (by decide) rfl ?_
  refine v_istore (pc' := 10) (i := 5) (L' := [(5, .int (nI 0)), (4, .int (nI 0)), (3, .int (nI 0)), (2, .int (nI 0)), (0, .ref m), (1, .int (nI 1))]) F dX7_workOfOther_8  (by decide) rfl rfl ?_
  refine v_iconst (pc' := 11) (v := nI 0) F dX7_workOfOther_10 (by decide) rfl ?_
  refine v_istore (pc' := 13) (i := 6) (L' := [(6, .int (nI 0)), (5, .int (nI 0)), (4, .int (nI 0)), (3, .int (nI 0)), (2, .int (nI 0)), (0, .ref m), (1, .int (nI 1))]) F dX7_workOfOther_11  (by decide) rfl rfl ?_
  refine v_sub (L' := [(6, .int (nI 0)), (5, .int (nI 0)), (4, .int (nI 0)), (3, .int (nI 0)), (2, .int (nI 0)), (1, .int (nI 1)), (0, .ref m)]) [0, 1, 2, 3, 4, 6, 5] rfl ?_
  have e0 : (D.2.2.2.2 v).drop ((D.2.2.2.2 v).length - 0) = [] := by rw [Nat.sub_zero, List.drop_length]
  have hz9 : oS ((D.2.2.2.2 v).drop ((D.2.2.2.2 v).length - 0)) = (0, 0, 0, 0) := by rw [e0]; rfl
  suffices hA : gV G z0 X 0 0 h 13 [(6, .int (nI 0)), (5, .int (nI ((oS ((D.2.2.2.2 v).drop ((D.2.2.2.2 v).length - 0))).2.1))), (4, .int (nI ((oS ((D.2.2.2.2 v).drop ((D.2.2.2.2 v).length - 0))).1))), (3, .int (nI ((oS ((D.2.2.2.2 v).drop ((D.2.2.2.2 v).length - 0))).2.2.2))), (2, .int (nI ((oS ((D.2.2.2.2 v).drop ((D.2.2.2.2 v).length - 0))).2.2.1))), (1, .int (nI 1)), (0, .ref m)] [] by rw [hz9] at hA; exact hA
  exact lp1_X7_workOfOther (l := l) (k := 0) (j := (D.2.2.2.2 v).length) F E (by omega) (by omega) hm hrows hnow hway w9 hS hlen hOv hW (by omega) ⟨rfl, rfl⟩
theorem m_X7_work_f109 : Cond.fieldLink RX7 109 "SteadyQueuesModel" "wayMany" "I" ∈ wsX7_work := by decide +kernel
theorem m_X7_work_f22 : Cond.fieldLink RX7 22 "SteadyQueuesModel" "way" "[I" ∈ wsX7_work := by decide +kernel
set_option maxHeartbeats 4000000 in
set_option maxRecDepth 100000 in
theorem lp0_X7_work {G : gG} {z0 : Nat} {X : gX} {l : Launch} {post : Option Value → gH → Prop} {mc ms cells slots j k v : Nat} {h : gH} {m rows asd now vals many way told oth lst text : Nat} {th und fl rl kd ok st fed len spot fa fat num frm may : Int32} {R W : Nat → Int32} {D : Dt} (F : gF G z0 X cX7_work 5 RX7 wsX7_work (some .int) "work" 3 70 mc ms) (E : gE G z0 X post mc ms) (hcc : cells ≤ mc) (hss : slots ≤ ms) (hm : h m = some (.inr (7, [.int th, .ref rows, .ref asd, .int (nI now), .int und, .ref vals, .ref many, .int fl, .int rl, .int kd, .int ok, .int st, .ref way, .int (nI ((D.2.2.2.2 v).length)), .ref told, .ref oth, .ref lst, .ref text, .int fed, .int len, .int spot, .int fa, .int fat, .int num, .int frm, .int may]))) (hrows : h rows = some (oI G 2970 R)) (hnow : now < 9) (hway : h way = some (oI G 64 W)) (w9 : wfD D) (hS : slD R (330 * now) D) (hlen : (D.2.2.2.2 v).length < 64) (hOv : wOk (D.2.2.2.2 v)) (hW : (∀ j, j < (D.2.2.2.2 v).length → wG D v j (W j))) (hkj : k + j = (D.2.2.2.2 v).length) (hp : post (some (.int (nI (stW (D.2.2.2.2 v))))) h) : gV G z0 X cells slots h 64 [(4, .int (nI k)), (3, .int (nI (stW ((D.2.2.2.2 v).drop ((D.2.2.2.2 v).length - k))))), (2, .int (nI 0)), (1, .int (nI v)), (0, .ref m)] [] := by
  induction j generalizing k with
  | zero =>
    obtain rfl : k = (D.2.2.2.2 v).length := by omega
    rw [Nat.sub_self, List.drop_zero]
    refine v_iload (pc' := 66) F dX7_work_64  (j := 0) rfl rfl ?_
    refine v_aload_n (pc' := 67) F dX7_work_66 rfl (j := 4) rfl rfl ?_
    refine v_getf (pc' := 70) (v := .int (nI ((D.2.2.2.2 v).length))) F k_X7_work_7 hm 13 (by decide) m_X7_work_f109 rfl dX7_work_67 rfl ?_
    refine w_icmp_ge (tgt := 117) (pc' := 73) F (by omega) (by omega) dX7_work_70 (by decide) rfl (fun _ => ?_) (fun c0 => absurd c0 (by omega))
    refine v_iload_n (pc' := 118) F dX7_work_117 rfl (j := 1) rfl rfl ?_
    exact v_iret F E (by omega) (by omega)  dX7_work_118 hp
  | succ j ih =>
    have hk : k < (D.2.2.2.2 v).length := by omega
    obtain ⟨u, o, hu, hu64, hWk, he, hd, -, -, hr4, hwo⟩ := wG.op w9 hS hk (hW k hk)
    have hwo1 := hwo.1
    have hmx : mxW ((D.2.2.2.2 v).drop ((D.2.2.2.2 v).length - k)) ≤ 4 := mxW_le hwo1
    have hq4 := qOf_le hwo
    have e1 : stW ((D.2.2.2.2 v).drop ((D.2.2.2.2 v).length - (k + 1))) = stW ((D.2.2.2.2 v).drop ((D.2.2.2.2 v).length - k)) + (qOf (o :: ((D.2.2.2.2 v).drop ((D.2.2.2.2 v).length - k)))).2 := by rw [hd]; exact Nat.add_comm _ _
    refine v_iload (pc' := 66) F dX7_work_64  (j := 0) rfl rfl ?_
    refine v_aload_n (pc' := 67) F dX7_work_66 rfl (j := 4) rfl rfl ?_
    refine v_getf (pc' := 70) (v := .int (nI ((D.2.2.2.2 v).length))) F k_X7_work_7 hm 13 (by decide) m_X7_work_f109 rfl dX7_work_67 rfl ?_
    refine w_icmp_ge (tgt := 117) (pc' := 73) F (by omega) (by omega) dX7_work_70 (by decide) rfl (fun c0 => absurd c0 (by omega)) (fun _ => ?_)
    refine v_iload_n (pc' := 74) F dX7_work_73 rfl (j := 2) rfl rfl ?_
    refine w_if_ne (tgt := 94) (pc' := 77) F (by omega) dX7_work_74 (by decide) rfl (fun c0 => absurd c0 (by omega)) (fun _ => ?_)
    refine v_iload_n (pc' := 78) F dX7_work_77 rfl (j := 1) rfl rfl ?_
    refine v_aload_n (pc' := 79) F dX7_work_78 rfl (j := 4) rfl rfl ?_
    refine v_aload_n (pc' := 80) F dX7_work_79 rfl (j := 4) rfl rfl ?_
    refine v_getf (pc' := 83) (v := .ref way) F k_X7_work_7 hm 12 (by decide) m_X7_work_f22 rfl dX7_work_80 rfl ?_
    refine v_iload (pc' := 85) F dX7_work_83  (j := 0) rfl rfl ?_
    refine w_iald (pc' := 86) (v := nI u) F hway (by omega) (by omega) hWk dX7_work_85 rfl ?_
    refine v_iconst (pc' := 87) (v := nI 4) F dX7_work_86 (by decide) rfl ?_
    refine v_callV (pc' := 90) (rt := (some .int)) (mcc := 0) (msc := 0) (As := [.int (nI u), .int (nI 4)]) (st := [.int (nI (stW ((D.2.2.2.2 v).drop ((D.2.2.2.2 v).length - k))))]) F (fun l => c_X7_of G z0 l (v := u) (w := 4) hm hrows hnow hu64 (by omega)) gX7_work_X7_of rfl hv_X7_of (by decide) (by decide) hm rfl rfl rfl (Nat.le_of_ble_eq_true rfl) (by omega) (by omega) dX7_work_87 rfl (fun v1 h hqo => ?_)
    rw [hr4] at hqo; obtain ⟨rfl, rfl⟩ := hqo
    refine v_iadd (pc' := 91) (v := nI ((stW ((D.2.2.2.2 v).drop ((D.2.2.2.2 v).length - k))) + ((qOf (o :: ((D.2.2.2.2 v).drop ((D.2.2.2.2 v).length - k)))).2))) F dX7_work_90 (nI_add (stW ((D.2.2.2.2 v).drop ((D.2.2.2.2 v).length - k))) ((qOf (o :: ((D.2.2.2.2 v).drop ((D.2.2.2.2 v).length - k)))).2)) rfl ?_
    refine v_goto (tgt := 110) F dX7_work_91 (by decide) ?_
    refine v_istore_n (pc' := 111) (i := 3) (L' := [(3, .int (nI ((stW ((D.2.2.2.2 v).drop ((D.2.2.2.2 v).length - k))) + ((qOf (o :: ((D.2.2.2.2 v).drop ((D.2.2.2.2 v).length - k)))).2)))), (4, .int (nI k)), (2, .int (nI 0)), (1, .int (nI v)), (0, .ref m)]) F dX7_work_110 rfl (by decide) rfl rfl ?_
    refine v_iinc (pc' := 114) (j := 1) (x := nI k) (v := nI (k + 1)) (L' := [(4, .int (nI (k + 1))), (3, .int (nI ((stW ((D.2.2.2.2 v).drop ((D.2.2.2.2 v).length - k))) + ((qOf (o :: ((D.2.2.2.2 v).drop ((D.2.2.2.2 v).length - k)))).2)))), (2, .int (nI 0)), (1, .int (nI v)), (0, .ref m)]) F dX7_work_111 rfl (nI_add k 1) (by decide) rfl rfl ?_
    refine v_goto (tgt := 64) F dX7_work_114 (by decide) ?_
    refine v_sub (L' := [(4, .int (nI (k + 1))), (3, .int (nI ((stW ((D.2.2.2.2 v).drop ((D.2.2.2.2 v).length - k))) + ((qOf (o :: ((D.2.2.2.2 v).drop ((D.2.2.2.2 v).length - k)))).2)))), (2, .int (nI 0)), (1, .int (nI v)), (0, .ref m)]) [0, 1, 2, 3, 4] rfl ?_
    have ih9 := ih (k := k + 1) (by omega)
    rw [e1] at ih9
    exact ih9
theorem m_X7_work_ml224 : Cond.methodLink RX7 224 Lib.Math.max.name ∈ wsX7_work := by decide +kernel
theorem m_X7_work_msmax : Cond.static Lib.Math.max.name ∈ wsX7_work := by decide +kernel
theorem m_X7_work_mi : Cond.initialized "java/lang/Math" ∈ wsX7_work := by decide +kernel
theorem m_X7_work_mcmax : Cond.code Lib.Math.max.name Lib.Math.max.code 2 (some .int) ∈ wsX7_work := by decide +kernel
set_option maxHeartbeats 4000000 in
set_option maxRecDepth 100000 in
theorem lp1_X7_work {G : gG} {z0 : Nat} {X : gX} {l : Launch} {post : Option Value → gH → Prop} {mc ms cells slots j k v : Nat} {h : gH} {m rows asd now vals many way told oth lst text : Nat} {th und fl rl kd ok st fed len spot fa fat num frm may : Int32} {R W : Nat → Int32} {D : Dt} (F : gF G z0 X cX7_work 5 RX7 wsX7_work (some .int) "work" 3 70 mc ms) (E : gE G z0 X post mc ms) (hcc : cells ≤ mc) (hss : slots ≤ ms) (hm : h m = some (.inr (7, [.int th, .ref rows, .ref asd, .int (nI now), .int und, .ref vals, .ref many, .int fl, .int rl, .int kd, .int ok, .int st, .ref way, .int (nI ((D.2.2.2.2 v).length)), .ref told, .ref oth, .ref lst, .ref text, .int fed, .int len, .int spot, .int fa, .int fat, .int num, .int frm, .int may]))) (hrows : h rows = some (oI G 2970 R)) (hnow : now < 9) (hway : h way = some (oI G 64 W)) (w9 : wfD D) (hS : slD R (330 * now) D) (hlen : (D.2.2.2.2 v).length < 64) (hOv : wOk (D.2.2.2.2 v)) (hW : (∀ j, j < (D.2.2.2.2 v).length → wG D v j (W j))) (hkj : k + j = (D.2.2.2.2 v).length) (hp : post (some (.int (nI (mxW (D.2.2.2.2 v))))) h) : gV G z0 X cells slots h 64 [(4, .int (nI k)), (3, .int (nI (mxW ((D.2.2.2.2 v).drop ((D.2.2.2.2 v).length - k))))), (2, .int (nI 1)), (1, .int (nI v)), (0, .ref m)] [] := by
  induction j generalizing k with
  | zero =>
    obtain rfl : k = (D.2.2.2.2 v).length := by omega
    rw [Nat.sub_self, List.drop_zero]
    refine v_iload (pc' := 66) F dX7_work_64  (j := 0) rfl rfl ?_
    refine v_aload_n (pc' := 67) F dX7_work_66 rfl (j := 4) rfl rfl ?_
    refine v_getf (pc' := 70) (v := .int (nI ((D.2.2.2.2 v).length))) F k_X7_work_7 hm 13 (by decide) m_X7_work_f109 rfl dX7_work_67 rfl ?_
    refine w_icmp_ge (tgt := 117) (pc' := 73) F (by omega) (by omega) dX7_work_70 (by decide) rfl (fun _ => ?_) (fun c0 => absurd c0 (by omega))
    refine v_iload_n (pc' := 118) F dX7_work_117 rfl (j := 1) rfl rfl ?_
    exact v_iret F E (by omega) (by omega)  dX7_work_118 hp
  | succ j ih =>
    have hk : k < (D.2.2.2.2 v).length := by omega
    obtain ⟨u, o, hu, hu64, hWk, he, hd, -, -, hr4, hwo⟩ := wG.op w9 hS hk (hW k hk)
    have hwo1 := hwo.1
    have hmx : mxW ((D.2.2.2.2 v).drop ((D.2.2.2.2 v).length - k)) ≤ 4 := mxW_le hwo1
    have hq4 := qOf_le hwo
    have e1 : mxW ((D.2.2.2.2 v).drop ((D.2.2.2.2 v).length - (k + 1))) = max (mxW ((D.2.2.2.2 v).drop ((D.2.2.2.2 v).length - k))) (qOf (o :: ((D.2.2.2.2 v).drop ((D.2.2.2.2 v).length - k)))).2 := by rw [hd]; exact Nat.max_comm _ _
    refine v_iload (pc' := 66) F dX7_work_64  (j := 0) rfl rfl ?_
    refine v_aload_n (pc' := 67) F dX7_work_66 rfl (j := 4) rfl rfl ?_
    refine v_getf (pc' := 70) (v := .int (nI ((D.2.2.2.2 v).length))) F k_X7_work_7 hm 13 (by decide) m_X7_work_f109 rfl dX7_work_67 rfl ?_
    refine w_icmp_ge (tgt := 117) (pc' := 73) F (by omega) (by omega) dX7_work_70 (by decide) rfl (fun c0 => absurd c0 (by omega)) (fun _ => ?_)
    refine v_iload_n (pc' := 74) F dX7_work_73 rfl (j := 2) rfl rfl ?_
    refine w_if_ne (tgt := 94) (pc' := 77) F (by omega) dX7_work_74 (by decide) rfl (fun _ => ?_) (fun c0 => absurd c0 (by omega))
    refine v_iload_n (pc' := 95) F dX7_work_94 rfl (j := 1) rfl rfl ?_
    refine v_aload_n (pc' := 96) F dX7_work_95 rfl (j := 4) rfl rfl ?_
    refine v_aload_n (pc' := 97) F dX7_work_96 rfl (j := 4) rfl rfl ?_
    refine v_getf (pc' := 100) (v := .ref way) F k_X7_work_7 hm 12 (by decide) m_X7_work_f22 rfl dX7_work_97 rfl ?_
    refine v_iload (pc' := 102) F dX7_work_100  (j := 0) rfl rfl ?_
    refine w_iald (pc' := 103) (v := nI u) F hway (by omega) (by omega) hWk dX7_work_102 rfl ?_
    refine v_iconst (pc' := 104) (v := nI 4) F dX7_work_103 (by decide) rfl ?_
    refine v_callV (pc' := 107) (rt := (some .int)) (mcc := 0) (msc := 0) (As := [.int (nI u), .int (nI 4)]) (st := [.int (nI (mxW ((D.2.2.2.2 v).drop ((D.2.2.2.2 v).length - k))))]) F (fun l => c_X7_of G z0 l (v := u) (w := 4) hm hrows hnow hu64 (by omega)) gX7_work_X7_of rfl hv_X7_of (by decide) (by decide) hm rfl rfl rfl (Nat.le_of_ble_eq_true rfl) (by omega) (by omega) dX7_work_104 rfl (fun v1 h hqo => ?_)
    rw [hr4] at hqo; obtain ⟨rfl, rfl⟩ := hqo
    refine v_mmax (pc' := 110) (v := nI (max (mxW ((D.2.2.2.2 v).drop ((D.2.2.2.2 v).length - k))) ((qOf (o :: ((D.2.2.2.2 v).drop ((D.2.2.2.2 v).length - k)))).2))) F m_X7_work_ml224 m_X7_work_msmax m_X7_work_mi m_X7_work_mcmax (by decide) (Nat.le_of_ble_eq_true rfl) (by omega) (by omega) (g_maxn (by omega) (by omega)) dX7_work_107 rfl ?_
    refine v_istore_n (pc' := 111) (i := 3) (L' := [(3, .int (nI (max (mxW ((D.2.2.2.2 v).drop ((D.2.2.2.2 v).length - k))) ((qOf (o :: ((D.2.2.2.2 v).drop ((D.2.2.2.2 v).length - k)))).2)))), (4, .int (nI k)), (2, .int (nI 1)), (1, .int (nI v)), (0, .ref m)]) F dX7_work_110 rfl (by decide) rfl rfl ?_
    refine v_iinc (pc' := 114) (j := 1) (x := nI k) (v := nI (k + 1)) (L' := [(4, .int (nI (k + 1))), (3, .int (nI (max (mxW ((D.2.2.2.2 v).drop ((D.2.2.2.2 v).length - k))) ((qOf (o :: ((D.2.2.2.2 v).drop ((D.2.2.2.2 v).length - k)))).2)))), (2, .int (nI 1)), (1, .int (nI v)), (0, .ref m)]) F dX7_work_111 rfl (nI_add k 1) (by decide) rfl rfl ?_
    refine v_goto (tgt := 64) F dX7_work_114 (by decide) ?_
    refine v_sub (L' := [(4, .int (nI (k + 1))), (3, .int (nI (max (mxW ((D.2.2.2.2 v).drop ((D.2.2.2.2 v).length - k))) ((qOf (o :: ((D.2.2.2.2 v).drop ((D.2.2.2.2 v).length - k)))).2)))), (2, .int (nI 1)), (1, .int (nI v)), (0, .ref m)]) [0, 1, 2, 3, 4] rfl ?_
    have ih9 := ih (k := k + 1) (by omega)
    rw [e1] at ih9
    exact ih9
theorem hv_X7_workOfOther : yX7_workOfOther.cls = RX7 ∧ yX7_workOfOther.cls ≠ "java/lang/invoke/MethodHandle" ∧ yX7_workOfOther.cls ≠ "java/lang/invoke/VarHandle" ∧ (parseMethodDescriptor yX7_workOfOther.desc).map (fun d => d.parameters.length) = some 1 := by decide +kernel
set_option maxHeartbeats 4000000 in
set_option maxRecDepth 100000 in
theorem c_X7_work (G : gG) (z0 : Nat) (l : Launch) {h : gH} {m rows asd vals many way told oth lst text now : Nat} {th und fed len spot fa fat num frm may : Int32} {R : Nat → Int32} {D : Dt} {v k : Nat} (hMS : mS G h m rows asd vals many way told oth lst text th now und fed len spot fa fat num frm may R) (hnow : now < 9) (w9 : wfD D) (hS : slD R (330 * now) D) (hv : v < D.1) (hk : k < 4) : gC G z0 l yX7_work wsX7_work 3 70 [.ref m, .int (nI v), .int (nI k)] h (fun o h' => o = some (.int (nI (wkN (D.2.2.2.2 v) k))) ∧ mS G h' m rows asd vals many way told oth lst text (nI 0) now und fed len spot fa fat num frm may R ∧ gfr [m, vals, many, way, told, oth, lst] h h') 0 0 := by
  have h1n := w9.1
  have hn64 := w9.2.1
  have hMS0 := hMS
  obtain ⟨fl, rl, kd, ok, st, wm, hm, hrows, ⟨V, hvals⟩, ⟨M, hmany⟩, ⟨W, hway⟩, ⟨f, htold⟩, ⟨g, hoth⟩, ⟨ll, hlst⟩, htw, how, hto⟩ := hMS
  have hv64 : v < 64 := by omega
  have hOv := w9.os hv
  rcases (show k = 0 ∨ k = 1 ∨ k = 2 ∨ k = 3 by omega) with rfl | rfl | rfl | rfl
  · refine gC_of (cc := cX7_work) (nL := 5) (ret := (some .int)) (by decide) rfl (Nat.le_of_ble_eq_true rfl) ?_
    intro X F E _
    change gF G z0 X cX7_work 5 RX7 wsX7_work (some .int) "work" 3 70 _ _ at F
    show gV G z0 X 0 0 h 0 [(0, .ref m), (1, .int (nI v)), (2, .int (nI 0))] []
    refine v_aload_n (pc' := 1) F dX7_work_0 rfl (j := 0) rfl rfl ?_
    refine v_iconst (pc' := 2) (v := nI 0) F dX7_work_1 (by decide) rfl ?_
    refine w_putf (pc' := 5) F k_X7_work_7 tyX7_ok nmX7 hm 0 (by decide) m_X7_work_f44 rfl  rfl rfl (show 0 < 26 by decide) [.int (nI 0), .ref rows, .ref asd, .int (nI now), .int und, .ref vals, .ref many, .int fl, .int rl, .int kd, .int ok, .int st, .ref way, .int wm, .ref told, .ref oth, .ref lst, .ref text, .int fed, .int len, .int spot, .int fa, .int fat, .int num, .int frm, .int may] rfl dX7_work_2 rfl (fun h1 a2 f3 => ?_)
    refine v_aload_n (pc' := 6) F dX7_work_5 rfl (j := 0) rfl rfl ?_
    refine v_aload_n (pc' := 7) F dX7_work_6 rfl (j := 0) rfl rfl ?_
    refine v_iload_n (pc' := 8) F dX7_work_7 rfl (j := 1) rfl rfl ?_
    have hv9v : nI 0 ≤ nI v ∧ nI v ≤ nI (D.1 - 1) := (bR_iff h1n (by omega)).mpr ⟨v, hv, rfl⟩
    have g4 := f3 _ _ (gnc (Ne.symm (g_neA hm hrows)) gn0) hrows
    refine v_callV (pc' := 11) (rt := (some .boolean)) (mcc := 0) (msc := 0) (As := [.int (nI v)]) (st := [.ref m]) F (fun l => c_X7_isVersion G z0 l (nI v) a2 g4 hnow hS.1 h1n hn64) gX7_work_X7_isVersion rfl hv_X7_isVersion (by decide) (by decide) a2 rfl rfl rfl (Nat.le_of_ble_eq_true rfl) (by omega) (by omega) dX7_work_8 rfl (fun v5 h1 hqv => ?_)
    rw [if_pos hv9v] at hqv; obtain ⟨rfl, rfl⟩ := hqv
    refine v_iconst (pc' := 12) (v := nI 1) F dX7_work_11 (by decide) rfl ?_
    refine v_callV (pc' := 15) (rt := (some .boolean)) (mcc := 0) (msc := 0) (As := [.int (nI 1), .int (nI 1)]) (st := []) F (fun l => c_X7_right1 G z0 l (th := nI 0) (nI 1) (by decide) a2) gX7_work_X7_right rfl hv_X7_right (by decide) (by decide) a2 rfl rfl rfl (Nat.le_of_ble_eq_true rfl) (by omega) (by omega) dX7_work_12 rfl (fun v6 h1 hqr => ?_)
    obtain ⟨rfl, rfl⟩ := hqr
    refine w_if_eq (tgt := 32) (pc' := 18) F (by omega) dX7_work_15 (by decide) rfl (fun c0 => absurd c0 (by omega)) (fun _ => ?_)
    refine v_aload_n (pc' := 19) F dX7_work_18 rfl (j := 0) rfl rfl ?_
    refine v_iload_n (pc' := 20) F dX7_work_19 rfl (j := 2) rfl rfl ?_
    refine v_iconst (pc' := 21) (v := nI 0) F dX7_work_20 (by decide) rfl ?_
    refine v_iconst (pc' := 22) (v := nI 3) F dX7_work_21 (by decide) rfl ?_
    have hi9k : nI 0 ≤ nI 0 ∧ nI 0 ≤ nI 3 := by decide
    refine v_callS (pc' := 25) (rt := (some .boolean)) (mcc := 0) (msc := 0) (As := [.int (nI 0), .int (nI 0), .int (nI 3)]) (st := [.ref m]) F (fun l => c_X7_isIn G z0 l (nI 0) (nI 0) (nI 3)) gX7_work_X7_isIn rfl hd_X7_isIn (by decide) (by decide) rfl rfl (Nat.le_of_ble_eq_true rfl) (by omega) (by omega) dX7_work_22 rfl (fun v7 h1 hqi => ?_)
    rw [if_pos hi9k] at hqi; obtain ⟨rfl, rfl⟩ := hqi
    refine v_iconst (pc' := 26) (v := nI 2) F dX7_work_25 (by decide) rfl ?_
    refine v_callV (pc' := 29) (rt := (some .boolean)) (mcc := 0) (msc := 0) (As := [.int (nI 1), .int (nI 2)]) (st := []) F (fun l => c_X7_right1 G z0 l (th := nI 0) (nI 2) (by decide) a2) gX7_work_X7_right rfl hv_X7_right (by decide) (by decide) a2 rfl rfl rfl (Nat.le_of_ble_eq_true rfl) (by omega) (by omega) dX7_work_26 rfl (fun v8 h1 hqr => ?_)
    obtain ⟨rfl, rfl⟩ := hqr
    refine w_if_ne (tgt := 34) (pc' := 32) F (by omega) dX7_work_29 (by decide) rfl (fun _ => ?_) (fun c0 => absurd c0 (by omega))
    refine v_aload_n (pc' := 35) F dX7_work_34 rfl (j := 0) rfl rfl ?_
    refine v_iload_n (pc' := 36) F dX7_work_35 rfl (j := 1) rfl rfl ?_
    have g9 := f3 _ _ (gnc (Ne.symm (g_neA hm hway)) gn0) hway
    refine v_callV (pc' := 39) (rt := none) (mcc := 0) (msc := 0) (As := [.int (nI v)]) (st := []) F (fun l => c_X7_laysWay G z0 l a2 g4 hnow g9 w9 hS.p hv) gX7_work_X7_laysWay rfl hv_X7_laysWay (by decide) (by decide) a2 rfl rfl rfl (Nat.le_of_ble_eq_true rfl) (by omega) (by omega) dX7_work_36 rfl (fun v11 h10 hqc => ?_)
    obtain ⟨rfl, hmB, WB, hwB, hWB, frB⟩ := hqc
    refine v_iload_n (pc' := 40) F dX7_work_39 rfl (j := 2) rfl rfl ?_
    refine v_iconst (pc' := 41) (v := nI 2) F dX7_work_40 (by decide) rfl ?_
    refine w_icmp_lt (tgt := 59) (pc' := 44) F (by omega) (by omega) dX7_work_41 (by decide) rfl (fun _ => ?_) (fun c0 => absurd c0 (by omega))
    refine v_iconst (pc' := 60) (v := nI 0) F dX7_work_59 (by decide) rfl ?_
    refine v_istore_n (pc' := 61) (i := 3) (L' := [(3, .int (nI 0)), (0, .ref m), (1, .int (nI v)), (2, .int (nI 0))]) F dX7_work_60 rfl (by decide) rfl rfl ?_
    refine v_iconst (pc' := 62) (v := nI 0) F dX7_work_61 (by decide) rfl ?_
    refine v_istore (pc' := 64) (i := 4) (L' := [(4, .int (nI 0)), (3, .int (nI 0)), (0, .ref m), (1, .int (nI v)), (2, .int (nI 0))]) F dX7_work_62  (by decide) rfl rfl ?_
    refine v_sub (L' := [(4, .int (nI 0)), (3, .int (nI 0)), (2, .int (nI 0)), (1, .int (nI v)), (0, .ref m)]) [0, 1, 4, 3, 2] rfl ?_
    have fr12 : gfr [m, vals, many, way, told, oth, lst] h h10 := (gfr.t (gfr.mono f3 (by intro q9 z9 m9; apply z9; simp only [List.mem_cons, List.not_mem_nil, or_false] at m9 ⊢; omega)) (gfr.mono frB (by intro q9 z9 m9; apply z9; simp only [List.mem_cons, List.not_mem_nil, or_false] at m9 ⊢; omega)))
    have g13 := frB _ _ (gnc (Ne.symm (g_neA a2 g4)) (gnc (g_neL g4 g9 (by decide)) gn0)) g4
    have g14 := f3 _ _ (gnc (Ne.symm (g_neA hm hvals)) gn0) hvals
    have g15 := frB _ _ (gnc (Ne.symm (g_neA a2 g14)) (gnc (g_neL g14 g9 (by decide)) gn0)) g14
    have g16 := f3 _ _ (gnc (Ne.symm (g_neA hm hmany)) gn0) hmany
    have g17 := frB _ _ (gnc (Ne.symm (g_neA a2 g16)) (gnc (g_neL g16 g9 (by decide)) gn0)) g16
    have g18 := f3 _ _ (gnc (Ne.symm (g_neA hm htold)) gn0) htold
    have g19 := frB _ _ (gnc (Ne.symm (g_neA a2 g18)) (gnc htw gn0)) g18
    have g20 := f3 _ _ (gnc (Ne.symm (g_neA hm hoth)) gn0) hoth
    have g21 := frB _ _ (gnc (Ne.symm (g_neA a2 g20)) (gnc how gn0)) g20
    have g22 := f3 _ _ (gnc (Ne.symm (g_neA hm hlst)) gn0) hlst
    have g23 := frB _ _ (gnc (Ne.symm (g_neA a2 g22)) (gnc (g_neL g22 g9 (by decide)) gn0)) g22
    have e0 : (D.2.2.2.2 v).drop ((D.2.2.2.2 v).length - 0) = [] := by rw [Nat.sub_zero, List.drop_length]
    have hz9 : stW ((D.2.2.2.2 v).drop ((D.2.2.2.2 v).length - 0)) = 0 := by rw [e0]; rfl
    suffices hA : gV G z0 X 0 0 h10 64 [(4, .int (nI 0)), (3, .int (nI (stW ((D.2.2.2.2 v).drop ((D.2.2.2.2 v).length - 0))))), (2, .int (nI 0)), (1, .int (nI v)), (0, .ref m)] [] by rw [hz9] at hA; exact hA
    exact lp0_X7_work (l := l) (k := 0) (j := (D.2.2.2.2 v).length) F E (by omega) (by omega) hmB g13 hnow hwB w9 hS hOv.2 hOv.1 hWB (by omega) ⟨rfl, ⟨_, _, _, _, _, _, hmB, g13, ⟨_, g15⟩, ⟨_, g17⟩, ⟨_, hwB⟩, ⟨_, g19⟩, ⟨_, g21⟩, ⟨_, g23⟩, htw, how, hto⟩, fr12⟩
  · refine gC_of (cc := cX7_work) (nL := 5) (ret := (some .int)) (by decide) rfl (Nat.le_of_ble_eq_true rfl) ?_
    intro X F E _
    change gF G z0 X cX7_work 5 RX7 wsX7_work (some .int) "work" 3 70 _ _ at F
    show gV G z0 X 0 0 h 0 [(0, .ref m), (1, .int (nI v)), (2, .int (nI 1))] []
    refine v_aload_n (pc' := 1) F dX7_work_0 rfl (j := 0) rfl rfl ?_
    refine v_iconst (pc' := 2) (v := nI 0) F dX7_work_1 (by decide) rfl ?_
    refine w_putf (pc' := 5) F k_X7_work_7 tyX7_ok nmX7 hm 0 (by decide) m_X7_work_f44 rfl  rfl rfl (show 0 < 26 by decide) [.int (nI 0), .ref rows, .ref asd, .int (nI now), .int und, .ref vals, .ref many, .int fl, .int rl, .int kd, .int ok, .int st, .ref way, .int wm, .ref told, .ref oth, .ref lst, .ref text, .int fed, .int len, .int spot, .int fa, .int fat, .int num, .int frm, .int may] rfl dX7_work_2 rfl (fun h1 a2 f3 => ?_)
    refine v_aload_n (pc' := 6) F dX7_work_5 rfl (j := 0) rfl rfl ?_
    refine v_aload_n (pc' := 7) F dX7_work_6 rfl (j := 0) rfl rfl ?_
    refine v_iload_n (pc' := 8) F dX7_work_7 rfl (j := 1) rfl rfl ?_
    have hv9v : nI 0 ≤ nI v ∧ nI v ≤ nI (D.1 - 1) := (bR_iff h1n (by omega)).mpr ⟨v, hv, rfl⟩
    have g4 := f3 _ _ (gnc (Ne.symm (g_neA hm hrows)) gn0) hrows
    refine v_callV (pc' := 11) (rt := (some .boolean)) (mcc := 0) (msc := 0) (As := [.int (nI v)]) (st := [.ref m]) F (fun l => c_X7_isVersion G z0 l (nI v) a2 g4 hnow hS.1 h1n hn64) gX7_work_X7_isVersion rfl hv_X7_isVersion (by decide) (by decide) a2 rfl rfl rfl (Nat.le_of_ble_eq_true rfl) (by omega) (by omega) dX7_work_8 rfl (fun v5 h1 hqv => ?_)
    rw [if_pos hv9v] at hqv; obtain ⟨rfl, rfl⟩ := hqv
    refine v_iconst (pc' := 12) (v := nI 1) F dX7_work_11 (by decide) rfl ?_
    refine v_callV (pc' := 15) (rt := (some .boolean)) (mcc := 0) (msc := 0) (As := [.int (nI 1), .int (nI 1)]) (st := []) F (fun l => c_X7_right1 G z0 l (th := nI 0) (nI 1) (by decide) a2) gX7_work_X7_right rfl hv_X7_right (by decide) (by decide) a2 rfl rfl rfl (Nat.le_of_ble_eq_true rfl) (by omega) (by omega) dX7_work_12 rfl (fun v6 h1 hqr => ?_)
    obtain ⟨rfl, rfl⟩ := hqr
    refine w_if_eq (tgt := 32) (pc' := 18) F (by omega) dX7_work_15 (by decide) rfl (fun c0 => absurd c0 (by omega)) (fun _ => ?_)
    refine v_aload_n (pc' := 19) F dX7_work_18 rfl (j := 0) rfl rfl ?_
    refine v_iload_n (pc' := 20) F dX7_work_19 rfl (j := 2) rfl rfl ?_
    refine v_iconst (pc' := 21) (v := nI 0) F dX7_work_20 (by decide) rfl ?_
    refine v_iconst (pc' := 22) (v := nI 3) F dX7_work_21 (by decide) rfl ?_
    have hi9k : nI 0 ≤ nI 1 ∧ nI 1 ≤ nI 3 := by decide
    refine v_callS (pc' := 25) (rt := (some .boolean)) (mcc := 0) (msc := 0) (As := [.int (nI 1), .int (nI 0), .int (nI 3)]) (st := [.ref m]) F (fun l => c_X7_isIn G z0 l (nI 1) (nI 0) (nI 3)) gX7_work_X7_isIn rfl hd_X7_isIn (by decide) (by decide) rfl rfl (Nat.le_of_ble_eq_true rfl) (by omega) (by omega) dX7_work_22 rfl (fun v7 h1 hqi => ?_)
    rw [if_pos hi9k] at hqi; obtain ⟨rfl, rfl⟩ := hqi
    refine v_iconst (pc' := 26) (v := nI 2) F dX7_work_25 (by decide) rfl ?_
    refine v_callV (pc' := 29) (rt := (some .boolean)) (mcc := 0) (msc := 0) (As := [.int (nI 1), .int (nI 2)]) (st := []) F (fun l => c_X7_right1 G z0 l (th := nI 0) (nI 2) (by decide) a2) gX7_work_X7_right rfl hv_X7_right (by decide) (by decide) a2 rfl rfl rfl (Nat.le_of_ble_eq_true rfl) (by omega) (by omega) dX7_work_26 rfl (fun v8 h1 hqr => ?_)
    obtain ⟨rfl, rfl⟩ := hqr
    refine w_if_ne (tgt := 34) (pc' := 32) F (by omega) dX7_work_29 (by decide) rfl (fun _ => ?_) (fun c0 => absurd c0 (by omega))
    refine v_aload_n (pc' := 35) F dX7_work_34 rfl (j := 0) rfl rfl ?_
    refine v_iload_n (pc' := 36) F dX7_work_35 rfl (j := 1) rfl rfl ?_
    have g9 := f3 _ _ (gnc (Ne.symm (g_neA hm hway)) gn0) hway
    refine v_callV (pc' := 39) (rt := none) (mcc := 0) (msc := 0) (As := [.int (nI v)]) (st := []) F (fun l => c_X7_laysWay G z0 l a2 g4 hnow g9 w9 hS.p hv) gX7_work_X7_laysWay rfl hv_X7_laysWay (by decide) (by decide) a2 rfl rfl rfl (Nat.le_of_ble_eq_true rfl) (by omega) (by omega) dX7_work_36 rfl (fun v11 h10 hqc => ?_)
    obtain ⟨rfl, hmB, WB, hwB, hWB, frB⟩ := hqc
    refine v_iload_n (pc' := 40) F dX7_work_39 rfl (j := 2) rfl rfl ?_
    refine v_iconst (pc' := 41) (v := nI 2) F dX7_work_40 (by decide) rfl ?_
    refine w_icmp_lt (tgt := 59) (pc' := 44) F (by omega) (by omega) dX7_work_41 (by decide) rfl (fun _ => ?_) (fun c0 => absurd c0 (by omega))
    refine v_iconst (pc' := 60) (v := nI 0) F dX7_work_59 (by decide) rfl ?_
    refine v_istore_n (pc' := 61) (i := 3) (L' := [(3, .int (nI 0)), (0, .ref m), (1, .int (nI v)), (2, .int (nI 1))]) F dX7_work_60 rfl (by decide) rfl rfl ?_
    refine v_iconst (pc' := 62) (v := nI 0) F dX7_work_61 (by decide) rfl ?_
    refine v_istore (pc' := 64) (i := 4) (L' := [(4, .int (nI 0)), (3, .int (nI 0)), (0, .ref m), (1, .int (nI v)), (2, .int (nI 1))]) F dX7_work_62  (by decide) rfl rfl ?_
    refine v_sub (L' := [(4, .int (nI 0)), (3, .int (nI 0)), (2, .int (nI 1)), (1, .int (nI v)), (0, .ref m)]) [0, 1, 4, 3, 2] rfl ?_
    have fr12 : gfr [m, vals, many, way, told, oth, lst] h h10 := (gfr.t (gfr.mono f3 (by intro q9 z9 m9; apply z9; simp only [List.mem_cons, List.not_mem_nil, or_false] at m9 ⊢; omega)) (gfr.mono frB (by intro q9 z9 m9; apply z9; simp only [List.mem_cons, List.not_mem_nil, or_false] at m9 ⊢; omega)))
    have g13 := frB _ _ (gnc (Ne.symm (g_neA a2 g4)) (gnc (g_neL g4 g9 (by decide)) gn0)) g4
    have g14 := f3 _ _ (gnc (Ne.symm (g_neA hm hvals)) gn0) hvals
    have g15 := frB _ _ (gnc (Ne.symm (g_neA a2 g14)) (gnc (g_neL g14 g9 (by decide)) gn0)) g14
    have g16 := f3 _ _ (gnc (Ne.symm (g_neA hm hmany)) gn0) hmany
    have g17 := frB _ _ (gnc (Ne.symm (g_neA a2 g16)) (gnc (g_neL g16 g9 (by decide)) gn0)) g16
    have g18 := f3 _ _ (gnc (Ne.symm (g_neA hm htold)) gn0) htold
    have g19 := frB _ _ (gnc (Ne.symm (g_neA a2 g18)) (gnc htw gn0)) g18
    have g20 := f3 _ _ (gnc (Ne.symm (g_neA hm hoth)) gn0) hoth
    have g21 := frB _ _ (gnc (Ne.symm (g_neA a2 g20)) (gnc how gn0)) g20
    have g22 := f3 _ _ (gnc (Ne.symm (g_neA hm hlst)) gn0) hlst
    have g23 := frB _ _ (gnc (Ne.symm (g_neA a2 g22)) (gnc (g_neL g22 g9 (by decide)) gn0)) g22
    have e0 : (D.2.2.2.2 v).drop ((D.2.2.2.2 v).length - 0) = [] := by rw [Nat.sub_zero, List.drop_length]
    have hz9 : mxW ((D.2.2.2.2 v).drop ((D.2.2.2.2 v).length - 0)) = 0 := by rw [e0]; rfl
    suffices hA : gV G z0 X 0 0 h10 64 [(4, .int (nI 0)), (3, .int (nI (mxW ((D.2.2.2.2 v).drop ((D.2.2.2.2 v).length - 0))))), (2, .int (nI 1)), (1, .int (nI v)), (0, .ref m)] [] by rw [hz9] at hA; exact hA
    exact lp1_X7_work (l := l) (k := 0) (j := (D.2.2.2.2 v).length) F E (by omega) (by omega) hmB g13 hnow hwB w9 hS hOv.2 hOv.1 hWB (by omega) ⟨rfl, ⟨_, _, _, _, _, _, hmB, g13, ⟨_, g15⟩, ⟨_, g17⟩, ⟨_, hwB⟩, ⟨_, g19⟩, ⟨_, g21⟩, ⟨_, g23⟩, htw, how, hto⟩, fr12⟩
  · refine gC_of (cc := cX7_work) (nL := 5) (ret := (some .int)) (by decide) rfl (Nat.le_of_ble_eq_true rfl) ?_
    intro X F E _
    change gF G z0 X cX7_work 5 RX7 wsX7_work (some .int) "work" 3 70 _ _ at F
    show gV G z0 X 0 0 h 0 [(0, .ref m), (1, .int (nI v)), (2, .int (nI 2))] []
    refine v_aload_n (pc' := 1) F dX7_work_0 rfl (j := 0) rfl rfl ?_
    refine v_iconst (pc' := 2) (v := nI 0) F dX7_work_1 (by decide) rfl ?_
    refine w_putf (pc' := 5) F k_X7_work_7 tyX7_ok nmX7 hm 0 (by decide) m_X7_work_f44 rfl  rfl rfl (show 0 < 26 by decide) [.int (nI 0), .ref rows, .ref asd, .int (nI now), .int und, .ref vals, .ref many, .int fl, .int rl, .int kd, .int ok, .int st, .ref way, .int wm, .ref told, .ref oth, .ref lst, .ref text, .int fed, .int len, .int spot, .int fa, .int fat, .int num, .int frm, .int may] rfl dX7_work_2 rfl (fun h1 a2 f3 => ?_)
    refine v_aload_n (pc' := 6) F dX7_work_5 rfl (j := 0) rfl rfl ?_
    refine v_aload_n (pc' := 7) F dX7_work_6 rfl (j := 0) rfl rfl ?_
    refine v_iload_n (pc' := 8) F dX7_work_7 rfl (j := 1) rfl rfl ?_
    have hv9v : nI 0 ≤ nI v ∧ nI v ≤ nI (D.1 - 1) := (bR_iff h1n (by omega)).mpr ⟨v, hv, rfl⟩
    have g4 := f3 _ _ (gnc (Ne.symm (g_neA hm hrows)) gn0) hrows
    refine v_callV (pc' := 11) (rt := (some .boolean)) (mcc := 0) (msc := 0) (As := [.int (nI v)]) (st := [.ref m]) F (fun l => c_X7_isVersion G z0 l (nI v) a2 g4 hnow hS.1 h1n hn64) gX7_work_X7_isVersion rfl hv_X7_isVersion (by decide) (by decide) a2 rfl rfl rfl (Nat.le_of_ble_eq_true rfl) (by omega) (by omega) dX7_work_8 rfl (fun v5 h1 hqv => ?_)
    rw [if_pos hv9v] at hqv; obtain ⟨rfl, rfl⟩ := hqv
    refine v_iconst (pc' := 12) (v := nI 1) F dX7_work_11 (by decide) rfl ?_
    refine v_callV (pc' := 15) (rt := (some .boolean)) (mcc := 0) (msc := 0) (As := [.int (nI 1), .int (nI 1)]) (st := []) F (fun l => c_X7_right1 G z0 l (th := nI 0) (nI 1) (by decide) a2) gX7_work_X7_right rfl hv_X7_right (by decide) (by decide) a2 rfl rfl rfl (Nat.le_of_ble_eq_true rfl) (by omega) (by omega) dX7_work_12 rfl (fun v6 h1 hqr => ?_)
    obtain ⟨rfl, rfl⟩ := hqr
    refine w_if_eq (tgt := 32) (pc' := 18) F (by omega) dX7_work_15 (by decide) rfl (fun c0 => absurd c0 (by omega)) (fun _ => ?_)
    refine v_aload_n (pc' := 19) F dX7_work_18 rfl (j := 0) rfl rfl ?_
    refine v_iload_n (pc' := 20) F dX7_work_19 rfl (j := 2) rfl rfl ?_
    refine v_iconst (pc' := 21) (v := nI 0) F dX7_work_20 (by decide) rfl ?_
    refine v_iconst (pc' := 22) (v := nI 3) F dX7_work_21 (by decide) rfl ?_
    have hi9k : nI 0 ≤ nI 2 ∧ nI 2 ≤ nI 3 := by decide
    refine v_callS (pc' := 25) (rt := (some .boolean)) (mcc := 0) (msc := 0) (As := [.int (nI 2), .int (nI 0), .int (nI 3)]) (st := [.ref m]) F (fun l => c_X7_isIn G z0 l (nI 2) (nI 0) (nI 3)) gX7_work_X7_isIn rfl hd_X7_isIn (by decide) (by decide) rfl rfl (Nat.le_of_ble_eq_true rfl) (by omega) (by omega) dX7_work_22 rfl (fun v7 h1 hqi => ?_)
    rw [if_pos hi9k] at hqi; obtain ⟨rfl, rfl⟩ := hqi
    refine v_iconst (pc' := 26) (v := nI 2) F dX7_work_25 (by decide) rfl ?_
    refine v_callV (pc' := 29) (rt := (some .boolean)) (mcc := 0) (msc := 0) (As := [.int (nI 1), .int (nI 2)]) (st := []) F (fun l => c_X7_right1 G z0 l (th := nI 0) (nI 2) (by decide) a2) gX7_work_X7_right rfl hv_X7_right (by decide) (by decide) a2 rfl rfl rfl (Nat.le_of_ble_eq_true rfl) (by omega) (by omega) dX7_work_26 rfl (fun v8 h1 hqr => ?_)
    obtain ⟨rfl, rfl⟩ := hqr
    refine w_if_ne (tgt := 34) (pc' := 32) F (by omega) dX7_work_29 (by decide) rfl (fun _ => ?_) (fun c0 => absurd c0 (by omega))
    refine v_aload_n (pc' := 35) F dX7_work_34 rfl (j := 0) rfl rfl ?_
    refine v_iload_n (pc' := 36) F dX7_work_35 rfl (j := 1) rfl rfl ?_
    have g9 := f3 _ _ (gnc (Ne.symm (g_neA hm hway)) gn0) hway
    refine v_callV (pc' := 39) (rt := none) (mcc := 0) (msc := 0) (As := [.int (nI v)]) (st := []) F (fun l => c_X7_laysWay G z0 l a2 g4 hnow g9 w9 hS.p hv) gX7_work_X7_laysWay rfl hv_X7_laysWay (by decide) (by decide) a2 rfl rfl rfl (Nat.le_of_ble_eq_true rfl) (by omega) (by omega) dX7_work_36 rfl (fun v11 h10 hqc => ?_)
    obtain ⟨rfl, hmB, WB, hwB, hWB, frB⟩ := hqc
    refine v_iload_n (pc' := 40) F dX7_work_39 rfl (j := 2) rfl rfl ?_
    refine v_iconst (pc' := 41) (v := nI 2) F dX7_work_40 (by decide) rfl ?_
    refine w_icmp_lt (tgt := 59) (pc' := 44) F (by omega) (by omega) dX7_work_41 (by decide) rfl (fun c0 => absurd c0 (by omega)) (fun _ => ?_)
    refine v_aload_n (pc' := 45) F dX7_work_44 rfl (j := 0) rfl rfl ?_
    refine v_iload_n (pc' := 46) F dX7_work_45 rfl (j := 2) rfl rfl ?_
    refine v_iconst (pc' := 47) (v := nI 3) F dX7_work_46 (by decide) rfl ?_
    refine w_icmp_ne (tgt := 54) (pc' := 50) F (by omega) (by omega) dX7_work_47 (by decide) rfl (fun _ => ?_) (fun c0 => absurd c0 (by omega))
    refine v_iconst (pc' := 55) (v := nI 0) F dX7_work_54 (by decide) rfl ?_
    have g12 := frB _ _ (gnc (Ne.symm (g_neA a2 g4)) (gnc (g_neL g4 g9 (by decide)) gn0)) g4
    refine v_callV (pc' := 58) (rt := (some .int)) (mcc := 0) (msc := 0) (As := [.int (nI 0)]) (st := []) F (fun l => c0_X7_workOfOther G z0 l hmB g12 hnow hwB w9 hS hOv.2 hOv.1 hWB) gX7_work_X7_workOfOther rfl hv_X7_workOfOther (by decide) (by decide) hmB rfl rfl rfl (Nat.le_of_ble_eq_true rfl) (by omega) (by omega) dX7_work_55 rfl (fun v13 h10 hqx => ?_)
    obtain ⟨rfl, rfl⟩ := hqx
    have fr14 : gfr [m, vals, many, way, told, oth, lst] h h10 := (gfr.t (gfr.mono f3 (by intro q9 z9 m9; apply z9; simp only [List.mem_cons, List.not_mem_nil, or_false] at m9 ⊢; omega)) (gfr.mono frB (by intro q9 z9 m9; apply z9; simp only [List.mem_cons, List.not_mem_nil, or_false] at m9 ⊢; omega)))
    have g15 := f3 _ _ (gnc (Ne.symm (g_neA hm hvals)) gn0) hvals
    have g16 := frB _ _ (gnc (Ne.symm (g_neA a2 g15)) (gnc (g_neL g15 g9 (by decide)) gn0)) g15
    have g17 := f3 _ _ (gnc (Ne.symm (g_neA hm hmany)) gn0) hmany
    have g18 := frB _ _ (gnc (Ne.symm (g_neA a2 g17)) (gnc (g_neL g17 g9 (by decide)) gn0)) g17
    have g19 := f3 _ _ (gnc (Ne.symm (g_neA hm htold)) gn0) htold
    have g20 := frB _ _ (gnc (Ne.symm (g_neA a2 g19)) (gnc htw gn0)) g19
    have g21 := f3 _ _ (gnc (Ne.symm (g_neA hm hoth)) gn0) hoth
    have g22 := frB _ _ (gnc (Ne.symm (g_neA a2 g21)) (gnc how gn0)) g21
    have g23 := f3 _ _ (gnc (Ne.symm (g_neA hm hlst)) gn0) hlst
    have g24 := frB _ _ (gnc (Ne.symm (g_neA a2 g23)) (gnc (g_neL g23 g9 (by decide)) gn0)) g23
    exact v_iret F E (by omega) (by omega)  dX7_work_58 ⟨rfl, ⟨_, _, _, _, _, _, hmB, g12, ⟨_, g16⟩, ⟨_, g18⟩, ⟨_, hwB⟩, ⟨_, g20⟩, ⟨_, g22⟩, ⟨_, g24⟩, htw, how, hto⟩, fr14⟩
  · refine gC_of (cc := cX7_work) (nL := 5) (ret := (some .int)) (by decide) rfl (Nat.le_of_ble_eq_true rfl) ?_
    intro X F E _
    change gF G z0 X cX7_work 5 RX7 wsX7_work (some .int) "work" 3 70 _ _ at F
    show gV G z0 X 0 0 h 0 [(0, .ref m), (1, .int (nI v)), (2, .int (nI 3))] []
    refine v_aload_n (pc' := 1) F dX7_work_0 rfl (j := 0) rfl rfl ?_
    refine v_iconst (pc' := 2) (v := nI 0) F dX7_work_1 (by decide) rfl ?_
    refine w_putf (pc' := 5) F k_X7_work_7 tyX7_ok nmX7 hm 0 (by decide) m_X7_work_f44 rfl  rfl rfl (show 0 < 26 by decide) [.int (nI 0), .ref rows, .ref asd, .int (nI now), .int und, .ref vals, .ref many, .int fl, .int rl, .int kd, .int ok, .int st, .ref way, .int wm, .ref told, .ref oth, .ref lst, .ref text, .int fed, .int len, .int spot, .int fa, .int fat, .int num, .int frm, .int may] rfl dX7_work_2 rfl (fun h1 a2 f3 => ?_)
    refine v_aload_n (pc' := 6) F dX7_work_5 rfl (j := 0) rfl rfl ?_
    refine v_aload_n (pc' := 7) F dX7_work_6 rfl (j := 0) rfl rfl ?_
    refine v_iload_n (pc' := 8) F dX7_work_7 rfl (j := 1) rfl rfl ?_
    have hv9v : nI 0 ≤ nI v ∧ nI v ≤ nI (D.1 - 1) := (bR_iff h1n (by omega)).mpr ⟨v, hv, rfl⟩
    have g4 := f3 _ _ (gnc (Ne.symm (g_neA hm hrows)) gn0) hrows
    refine v_callV (pc' := 11) (rt := (some .boolean)) (mcc := 0) (msc := 0) (As := [.int (nI v)]) (st := [.ref m]) F (fun l => c_X7_isVersion G z0 l (nI v) a2 g4 hnow hS.1 h1n hn64) gX7_work_X7_isVersion rfl hv_X7_isVersion (by decide) (by decide) a2 rfl rfl rfl (Nat.le_of_ble_eq_true rfl) (by omega) (by omega) dX7_work_8 rfl (fun v5 h1 hqv => ?_)
    rw [if_pos hv9v] at hqv; obtain ⟨rfl, rfl⟩ := hqv
    refine v_iconst (pc' := 12) (v := nI 1) F dX7_work_11 (by decide) rfl ?_
    refine v_callV (pc' := 15) (rt := (some .boolean)) (mcc := 0) (msc := 0) (As := [.int (nI 1), .int (nI 1)]) (st := []) F (fun l => c_X7_right1 G z0 l (th := nI 0) (nI 1) (by decide) a2) gX7_work_X7_right rfl hv_X7_right (by decide) (by decide) a2 rfl rfl rfl (Nat.le_of_ble_eq_true rfl) (by omega) (by omega) dX7_work_12 rfl (fun v6 h1 hqr => ?_)
    obtain ⟨rfl, rfl⟩ := hqr
    refine w_if_eq (tgt := 32) (pc' := 18) F (by omega) dX7_work_15 (by decide) rfl (fun c0 => absurd c0 (by omega)) (fun _ => ?_)
    refine v_aload_n (pc' := 19) F dX7_work_18 rfl (j := 0) rfl rfl ?_
    refine v_iload_n (pc' := 20) F dX7_work_19 rfl (j := 2) rfl rfl ?_
    refine v_iconst (pc' := 21) (v := nI 0) F dX7_work_20 (by decide) rfl ?_
    refine v_iconst (pc' := 22) (v := nI 3) F dX7_work_21 (by decide) rfl ?_
    have hi9k : nI 0 ≤ nI 3 ∧ nI 3 ≤ nI 3 := by decide
    refine v_callS (pc' := 25) (rt := (some .boolean)) (mcc := 0) (msc := 0) (As := [.int (nI 3), .int (nI 0), .int (nI 3)]) (st := [.ref m]) F (fun l => c_X7_isIn G z0 l (nI 3) (nI 0) (nI 3)) gX7_work_X7_isIn rfl hd_X7_isIn (by decide) (by decide) rfl rfl (Nat.le_of_ble_eq_true rfl) (by omega) (by omega) dX7_work_22 rfl (fun v7 h1 hqi => ?_)
    rw [if_pos hi9k] at hqi; obtain ⟨rfl, rfl⟩ := hqi
    refine v_iconst (pc' := 26) (v := nI 2) F dX7_work_25 (by decide) rfl ?_
    refine v_callV (pc' := 29) (rt := (some .boolean)) (mcc := 0) (msc := 0) (As := [.int (nI 1), .int (nI 2)]) (st := []) F (fun l => c_X7_right1 G z0 l (th := nI 0) (nI 2) (by decide) a2) gX7_work_X7_right rfl hv_X7_right (by decide) (by decide) a2 rfl rfl rfl (Nat.le_of_ble_eq_true rfl) (by omega) (by omega) dX7_work_26 rfl (fun v8 h1 hqr => ?_)
    obtain ⟨rfl, rfl⟩ := hqr
    refine w_if_ne (tgt := 34) (pc' := 32) F (by omega) dX7_work_29 (by decide) rfl (fun _ => ?_) (fun c0 => absurd c0 (by omega))
    refine v_aload_n (pc' := 35) F dX7_work_34 rfl (j := 0) rfl rfl ?_
    refine v_iload_n (pc' := 36) F dX7_work_35 rfl (j := 1) rfl rfl ?_
    have g9 := f3 _ _ (gnc (Ne.symm (g_neA hm hway)) gn0) hway
    refine v_callV (pc' := 39) (rt := none) (mcc := 0) (msc := 0) (As := [.int (nI v)]) (st := []) F (fun l => c_X7_laysWay G z0 l a2 g4 hnow g9 w9 hS.p hv) gX7_work_X7_laysWay rfl hv_X7_laysWay (by decide) (by decide) a2 rfl rfl rfl (Nat.le_of_ble_eq_true rfl) (by omega) (by omega) dX7_work_36 rfl (fun v11 h10 hqc => ?_)
    obtain ⟨rfl, hmB, WB, hwB, hWB, frB⟩ := hqc
    refine v_iload_n (pc' := 40) F dX7_work_39 rfl (j := 2) rfl rfl ?_
    refine v_iconst (pc' := 41) (v := nI 2) F dX7_work_40 (by decide) rfl ?_
    refine w_icmp_lt (tgt := 59) (pc' := 44) F (by omega) (by omega) dX7_work_41 (by decide) rfl (fun c0 => absurd c0 (by omega)) (fun _ => ?_)
    refine v_aload_n (pc' := 45) F dX7_work_44 rfl (j := 0) rfl rfl ?_
    refine v_iload_n (pc' := 46) F dX7_work_45 rfl (j := 2) rfl rfl ?_
    refine v_iconst (pc' := 47) (v := nI 3) F dX7_work_46 (by decide) rfl ?_
    refine w_icmp_ne (tgt := 54) (pc' := 50) F (by omega) (by omega) dX7_work_47 (by decide) rfl (fun c0 => absurd c0 (by omega)) (fun _ => ?_)
    refine v_iconst (pc' := 51) (v := nI 1) F dX7_work_50 (by decide) rfl ?_
    refine v_goto (tgt := 55) F dX7_work_51 (by decide) ?_
    have g12 := frB _ _ (gnc (Ne.symm (g_neA a2 g4)) (gnc (g_neL g4 g9 (by decide)) gn0)) g4
    refine v_callV (pc' := 58) (rt := (some .int)) (mcc := 0) (msc := 0) (As := [.int (nI 1)]) (st := []) F (fun l => c1_X7_workOfOther G z0 l hmB g12 hnow hwB w9 hS hOv.2 hOv.1 hWB) gX7_work_X7_workOfOther rfl hv_X7_workOfOther (by decide) (by decide) hmB rfl rfl rfl (Nat.le_of_ble_eq_true rfl) (by omega) (by omega) dX7_work_55 rfl (fun v13 h10 hqx => ?_)
    obtain ⟨rfl, rfl⟩ := hqx
    have fr14 : gfr [m, vals, many, way, told, oth, lst] h h10 := (gfr.t (gfr.mono f3 (by intro q9 z9 m9; apply z9; simp only [List.mem_cons, List.not_mem_nil, or_false] at m9 ⊢; omega)) (gfr.mono frB (by intro q9 z9 m9; apply z9; simp only [List.mem_cons, List.not_mem_nil, or_false] at m9 ⊢; omega)))
    have g15 := f3 _ _ (gnc (Ne.symm (g_neA hm hvals)) gn0) hvals
    have g16 := frB _ _ (gnc (Ne.symm (g_neA a2 g15)) (gnc (g_neL g15 g9 (by decide)) gn0)) g15
    have g17 := f3 _ _ (gnc (Ne.symm (g_neA hm hmany)) gn0) hmany
    have g18 := frB _ _ (gnc (Ne.symm (g_neA a2 g17)) (gnc (g_neL g17 g9 (by decide)) gn0)) g17
    have g19 := f3 _ _ (gnc (Ne.symm (g_neA hm htold)) gn0) htold
    have g20 := frB _ _ (gnc (Ne.symm (g_neA a2 g19)) (gnc htw gn0)) g19
    have g21 := f3 _ _ (gnc (Ne.symm (g_neA hm hoth)) gn0) hoth
    have g22 := frB _ _ (gnc (Ne.symm (g_neA a2 g21)) (gnc how gn0)) g21
    have g23 := f3 _ _ (gnc (Ne.symm (g_neA hm hlst)) gn0) hlst
    have g24 := frB _ _ (gnc (Ne.symm (g_neA a2 g23)) (gnc (g_neL g23 g9 (by decide)) gn0)) g23
    exact v_iret F E (by omega) (by omega)  dX7_work_58 ⟨rfl, ⟨_, _, _, _, _, _, hmB, g12, ⟨_, g16⟩, ⟨_, g18⟩, ⟨_, hwB⟩, ⟨_, g20⟩, ⟨_, g22⟩, ⟨_, g24⟩, htw, how, hto⟩, fr14⟩
