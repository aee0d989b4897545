theorem kdI3 (t : Nat → Nat) (ln s : Nat) : kdT t ln s = 3 ↔ s < ln ∧ t s = 59 := by
  unfold kdT
  have hw : wkd t s (eL t (ln - s) s) ≠ 3 := by
    unfold wkd
    repeat' split
    all_goals omega
  by_cases h1 : ln ≤ s
  · rw [if_pos h1]; omega
  · rw [if_neg h1]
    by_cases h2 : 48 ≤ t s ∧ t s ≤ 57
    · rw [if_pos h2]; omega
    · rw [if_neg h2]
      by_cases h3 : 97 ≤ t s ∧ t s ≤ 122
      · rw [if_pos h3]; omega
      · rw [if_neg h3]
        by_cases h4 : t s = 59
        · rw [if_pos h4]; omega
        · rw [if_neg h4]; omega
theorem kdI2 (t : Nat → Nat) (ln s : Nat) : kdT t ln s = 2 ↔ s < ln ∧ 48 ≤ t s ∧ t s ≤ 57 := by
  unfold kdT
  have hw : wkd t s (eL t (ln - s) s) ≠ 2 := by
    unfold wkd
    repeat' split
    all_goals omega
  by_cases h1 : ln ≤ s
  · rw [if_pos h1]; omega
  · rw [if_neg h1]
    by_cases h2 : 48 ≤ t s ∧ t s ≤ 57
    · rw [if_pos h2]; omega
    · rw [if_neg h2]
      by_cases h3 : 97 ≤ t s ∧ t s ≤ 122
      · rw [if_pos h3]; omega
      · rw [if_neg h3]
        split <;> omega
theorem en2 {t : Nat → Nat} {ln s : Nat} (h : kdT t ln s = 2) : enT t ln s = eD t (ln - s) s := by
  obtain ⟨a, b⟩ := (kdI2 t ln s).mp h
  unfold enT
  rw [if_neg (by omega), if_pos b]
theorem en3 {t : Nat → Nat} {ln s : Nat} (h : kdT t ln s = 3) : enT t ln s = s + 1 := by
  obtain ⟨a, b⟩ := (kdI3 t ln s).mp h
  unfold enT
  rw [if_neg (by omega), if_neg (by omega), if_neg (by omega)]
/-- the reference's number, that stands still above 100000 -/
def mD (t : Nat → Nat) : Nat → Nat → Nat → Nat
  | 0, _, v => v
  | m + 1, a, v => if 48 ≤ t a ∧ t a ≤ 57 then mD t m (a + 1) (if v > 100000 then v else 10 * v + t a - 48) else v
theorem mD_v (t : Nat → Nat) : ∀ (m a x y : Nat), x = y ∨ (100000 < x ∧ 100000 < y) → mD t m a x = vD t m a y ∨ (100000 < mD t m a x ∧ 100000 < vD t m a y)
  | 0, _, _, _, h => h
  | m + 1, a, x, y, h => by
    unfold mD vD
    by_cases hd : 48 ≤ t a ∧ t a ≤ 57
    · rw [if_pos hd, if_pos hd]
      refine mD_v t m (a + 1) _ _ ?_
      split
      · right
        omega
      · left
        omega
    · rw [if_neg hd, if_neg hd]
      exact h
theorem mD_b (t : Nat → Nat) : ∀ (m a x : Nat), x ≤ 1000009 → mD t m a x ≤ 1000009
  | 0, _, _, h => h
  | m + 1, a, x, h => by
    unfold mD
    split
    · refine mD_b t m (a + 1) _ ?_
      split <;> omega
    · exact h
theorem k_X7_here_7 : gCl wsX7_here 7 RX7 TX7 26 := ⟨by decide +kernel, rfl⟩
theorem m_X7_here_f146 : Cond.fieldLink RX7 146 "SteadyQueuesModel" "spot" "I" ∈ wsX7_here := by decide +kernel
theorem m_X7_here_f149 : Cond.fieldLink RX7 149 "SteadyQueuesModel" "length" "I" ∈ wsX7_here := by decide +kernel
theorem m_X7_here_f34 : Cond.fieldLink RX7 34 "SteadyQueuesModel" "text" "[I" ∈ wsX7_here := by decide +kernel
set_option maxHeartbeats 4000000 in
set_option maxRecDepth 100000 in
theorem lp_X7_here {G : gG} {z0 : Nat} {X : gX} {l : Launch} {mc ms cells slots mm a ln : Nat} {h : gH} {m rows asd vals many way told oth lst text : Nat} {th now und fl rl kd ok st wm fed fa fat num frm may : Int32} {T : Nat → Int32} {t : Nat → Nat} (F : gF G z0 X cX7_here 1 RX7 wsX7_here (some .int) "here" 0 0 mc ms) (hcc : cells ≤ mc) (hss : slots ≤ ms) (hm : h m = some (.inr (7, [.int th, .ref rows, .ref asd, .int now, .int und, .ref vals, .ref many, .int fl, .int rl, .int kd, .int ok, .int st, .ref way, .int wm, .ref told, .ref oth, .ref lst, .ref text, .int fed, .int (nI ln), .int (nI a), .int fa, .int fat, .int num, .int frm, .int may]))) (htext : h text = some (oI G 500 T)) (ht : ∀ j, j < ln → T j = nI (t j) ∧ t j < 256) (hln : ln ≤ 500) (ha : a + mm = ln) (K : ∀ h' : gH, h' m = some (.inr (7, [.int th, .ref rows, .ref asd, .int now, .int und, .ref vals, .ref many, .int fl, .int rl, .int kd, .int ok, .int st, .ref way, .int wm, .ref told, .ref oth, .ref lst, .ref text, .int fed, .int (nI ln), .int (nI (eS t mm a)), .int fa, .int fat, .int num, .int frm, .int may])) → h' text = some (oI G 500 T) → gfr [m] h h' → gV G z0 X cells slots h' 38 [(0, .ref m)] []) : gV G z0 X cells slots h 0 [(0, .ref m)] [] := by
  induction mm generalizing a h with
  | zero =>
    refine v_aload_n (pc' := 1) F dX7_here_0 rfl (j := 0) rfl rfl ?_
    refine v_getf (pc' := 4) (v := .int (nI a)) F k_X7_here_7 hm 20 (by decide) m_X7_here_f146 rfl dX7_here_1 rfl ?_
    refine v_aload_n (pc' := 5) F dX7_here_4 rfl (j := 0) rfl rfl ?_
    refine v_getf (pc' := 8) (v := .int (nI ln)) F k_X7_here_7 hm 19 (by decide) m_X7_here_f149 rfl dX7_here_5 rfl ?_
    refine w_icmp_ge (tgt := 38) (pc' := 11) F (by omega) (by omega) dX7_here_8 (by decide) rfl (fun _ => ?_) (fun c0 => absurd c0 (by omega))
    exact K h hm htext gfr.rf
  | succ mm ih =>
    obtain ⟨hTa, hta⟩ := ht a (by omega)
    refine v_aload_n (pc' := 1) F dX7_here_0 rfl (j := 0) rfl rfl ?_
    refine v_getf (pc' := 4) (v := .int (nI a)) F k_X7_here_7 hm 20 (by decide) m_X7_here_f146 rfl dX7_here_1 rfl ?_
    refine v_aload_n (pc' := 5) F dX7_here_4 rfl (j := 0) rfl rfl ?_
    refine v_getf (pc' := 8) (v := .int (nI ln)) F k_X7_here_7 hm 19 (by decide) m_X7_here_f149 rfl dX7_here_5 rfl ?_
    refine w_icmp_ge (tgt := 38) (pc' := 11) F (by omega) (by omega) dX7_here_8 (by decide) rfl (fun c0 => absurd c0 (by omega)) (fun _ => ?_)
    refine v_aload_n (pc' := 12) F dX7_here_11 rfl (j := 0) rfl rfl ?_
    refine v_getf (pc' := 15) (v := .ref text) F k_X7_here_7 hm 17 (by decide) m_X7_here_f34 rfl dX7_here_12 rfl ?_
    refine v_aload_n (pc' := 16) F dX7_here_15 rfl (j := 0) rfl rfl ?_
    refine v_getf (pc' := 19) (v := .int (nI a)) F k_X7_here_7 hm 20 (by decide) m_X7_here_f146 rfl dX7_here_16 rfl ?_
    refine w_iald (pc' := 20) (v := nI (t a)) F htext (by omega) (by omega) hTa dX7_here_19 rfl ?_
    refine v_bipush (pc' := 22) (v := nI 32) F dX7_here_20 (by decide) rfl ?_
    refine w_icmp_ne (tgt := 38) (pc' := 25) F (by omega) (by omega) dX7_here_22 (by decide) rfl (fun c0 => ?_) (fun c0 => ?_)
    · have e1 : eS t (mm + 1) a = a := if_neg c0
      rw [e1] at K
      exact K h hm htext gfr.rf
    · have e1 : eS t (mm + 1) a = eS t mm (a + 1) := if_pos c0
      rw [e1] at K
      refine v_aload_n (pc' := 26) F dX7_here_25 rfl (j := 0) rfl rfl ?_
      refine v_dup (pc' := 27) F dX7_here_26 rfl rfl ?_
      refine v_getf (pc' := 30) (v := .int (nI a)) F k_X7_here_7 hm 20 (by decide) m_X7_here_f146 rfl dX7_here_27 rfl ?_
      refine v_iconst (pc' := 31) (v := nI 1) F dX7_here_30 (by decide) rfl ?_
      refine v_iadd (pc' := 32) (v := nI (a + 1)) F dX7_here_31 (nI_add a 1) rfl ?_
      refine w_putf (pc' := 35) F k_X7_here_7 tyX7_ok nmX7 hm 20 (by decide) m_X7_here_f146 rfl  rfl rfl (show 20 < 26 by decide) [.int th, .ref rows, .ref asd, .int now, .int und, .ref vals, .ref many, .int fl, .int rl, .int kd, .int ok, .int st, .ref way, .int wm, .ref told, .ref oth, .ref lst, .ref text, .int fed, .int (nI ln), .int (nI (a + 1)), .int fa, .int fat, .int num, .int frm, .int may] rfl dX7_here_32 rfl (fun h1 a2 f3 => ?_)
      refine v_goto (tgt := 0) F dX7_here_35 (by decide) ?_
      have fr4 : gfr [m] h h1 := f3
      have g5 := f3 _ _ (gnc (Ne.symm (g_neA hm htext)) gn0) htext
      exact ih (a := a + 1) a2 g5 (by omega) (fun hA a1 a2 a3 => K hA a1 a2 (gfr.t fr4 a3))
set_option maxHeartbeats 4000000 in
set_option maxRecDepth 100000 in
theorem c_X7_here (G : gG) (z0 : Nat) (l : Launch) {a ln : Nat} {h : gH} {m rows asd vals many way told oth lst text : Nat} {th now und fl rl kd ok st wm fed fa fat num frm may : Int32} {T : Nat → Int32} {t : Nat → Nat} (hm : h m = some (.inr (7, [.int th, .ref rows, .ref asd, .int now, .int und, .ref vals, .ref many, .int fl, .int rl, .int kd, .int ok, .int st, .ref way, .int wm, .ref told, .ref oth, .ref lst, .ref text, .int fed, .int (nI ln), .int (nI a), .int fa, .int fat, .int num, .int frm, .int may]))) (htext : h text = some (oI G 500 T)) (ht : ∀ j, j < ln → T j = nI (t j) ∧ t j < 256) (hln : ln ≤ 500) (ha : a ≤ ln) : gC G z0 l yX7_here wsX7_here 0 0 [.ref m] h (fun v h' => v = some (.int (if (sk t ln a) < ln then nI (t (sk t ln a)) else -1)) ∧ h' m = some (.inr (7, [.int th, .ref rows, .ref asd, .int now, .int und, .ref vals, .ref many, .int fl, .int rl, .int kd, .int ok, .int st, .ref way, .int wm, .ref told, .ref oth, .ref lst, .ref text, .int fed, .int (nI ln), .int (nI (sk t ln a)), .int fa, .int fat, .int num, .int frm, .int may])) ∧ gfr [m] h h') 0 0 := by
  have hsb := sk_b t ha
  refine gC_of (cc := cX7_here) (nL := 1) (ret := (some .int)) (by decide) rfl (Nat.le_of_ble_eq_true rfl) ?_
  intro X F E _
  change gF G z0 X cX7_here 1 RX7 wsX7_here (some .int) "here" 0 0 _ _ at F
  show gV G z0 X 0 0 h 0 [(0, .ref m)] []
  refine lp_X7_here (l := l) (mm := ln - a) F (by omega) (by omega) hm htext ht hln (by omega) (fun hA a1 a2 a3 => ?_)
  change hA m = some (.inr (7, [.int th, .ref rows, .ref asd, .int now, .int und, .ref vals, .ref many, .int fl, .int rl, .int kd, .int ok, .int st, .ref way, .int wm, .ref told, .ref oth, .ref lst, .ref text, .int fed, .int (nI ln), .int (nI (sk t ln a)), .int fa, .int fat, .int num, .int frm, .int may])) at a1
  show gV G z0 X 0 0 hA 38 [(0, .ref m)] []
  refine v_aload_n (pc' := 39) F dX7_here_38 rfl (j := 0) rfl rfl ?_
  refine v_getf (pc' := 42) (v := .int (nI (sk t ln a))) F k_X7_here_7 a1 20 (by decide) m_X7_here_f146 rfl dX7_here_39 rfl ?_
  refine v_aload_n (pc' := 43) F dX7_here_42 rfl (j := 0) rfl rfl ?_
  refine v_getf (pc' := 46) (v := .int (nI ln)) F k_X7_here_7 a1 19 (by decide) m_X7_here_f149 rfl dX7_here_43 rfl ?_
  refine w_icmp_ge (tgt := 61) (pc' := 49) F (by omega) (by omega) dX7_here_46 (by decide) rfl (fun c0 => ?_) (fun c0 => ?_)
  · refine v_iconst (pc' := 62) (v := (-1)) F dX7_here_61 (by decide) rfl ?_
    exact v_iret F E (by omega) (by omega)  dX7_here_62 ⟨by rw [if_neg (by omega)], a1, a3⟩
  · obtain ⟨hTa, hta⟩ := ht (sk t ln a) (by omega)
    refine v_aload_n (pc' := 50) F dX7_here_49 rfl (j := 0) rfl rfl ?_
    refine v_getf (pc' := 53) (v := .ref text) F k_X7_here_7 a1 17 (by decide) m_X7_here_f34 rfl dX7_here_50 rfl ?_
    refine v_aload_n (pc' := 54) F dX7_here_53 rfl (j := 0) rfl rfl ?_
    refine v_getf (pc' := 57) (v := .int (nI (sk t ln a))) F k_X7_here_7 a1 20 (by decide) m_X7_here_f146 rfl dX7_here_54 rfl ?_
    refine w_iald (pc' := 58) (v := nI (t (sk t ln a))) F a2 (by omega) (by omega) hTa dX7_here_57 rfl ?_
    refine v_goto (tgt := 62) F dX7_here_58 (by decide) ?_
    exact v_iret F E (by omega) (by omega)  dX7_here_62 ⟨by rw [if_pos (by omega)], a1, a3⟩
theorem hv_X7_here : yX7_here.cls = RX7 ∧ yX7_here.cls ≠ "java/lang/invoke/MethodHandle" ∧ yX7_here.cls ≠ "java/lang/invoke/VarHandle" ∧ (parseMethodDescriptor yX7_here.desc).map (fun d => d.parameters.length) = some 0 := by decide +kernel
theorem k_X7_sign_7 : gCl wsX7_sign 7 RX7 TX7 26 := ⟨by decide +kernel, rfl⟩
theorem m_X7_sign_f146 : Cond.fieldLink RX7 146 "SteadyQueuesModel" "spot" "I" ∈ wsX7_sign := by decide +kernel
set_option maxHeartbeats 4000000 in
set_option maxRecDepth 100000 in
theorem c_X7_sign (G : gG) (z0 : Nat) (l : Launch) {a ln : Nat} {h : gH} {m rows asd vals many way told oth lst text : Nat} {th now und fl rl kd ok st wm fed num frm may : Int32} {fat : Int32} {T : Nat → Int32} {t : Nat → Nat} (hm : h m = some (.inr (7, [.int th, .ref rows, .ref asd, .int now, .int und, .ref vals, .ref many, .int fl, .int rl, .int kd, .int ok, .int st, .ref way, .int wm, .ref told, .ref oth, .ref lst, .ref text, .int fed, .int (nI ln), .int (nI a), .int (nI 0), .int fat, .int num, .int frm, .int may]))) (htext : h text = some (oI G 500 T)) (ht : ∀ j, j < ln → T j = nI (t j) ∧ t j < 256) (hln : ln ≤ 500) (ha : a ≤ ln) (hk : kdT t ln (sk t ln a) = 3) : gC G z0 l yX7_sign wsX7_sign 1 22 [.ref m, .int (nI 59)] h (fun v h' => v = some (.int (nI 1)) ∧ h' m = some (.inr (7, [.int th, .ref rows, .ref asd, .int now, .int und, .ref vals, .ref many, .int fl, .int rl, .int kd, .int ok, .int st, .ref way, .int wm, .ref told, .ref oth, .ref lst, .ref text, .int fed, .int (nI ln), .int (nI ((sk t ln a) + 1)), .int (nI 0), .int fat, .int num, .int frm, .int may])) ∧ gfr [m] h h') 0 0 := by
  have hsb := sk_b t ha
  refine gC_of (cc := cX7_sign) (nL := 2) (ret := (some .boolean)) (by decide) rfl (Nat.le_of_ble_eq_true rfl) ?_
  intro X F E _
  change gF G z0 X cX7_sign 2 RX7 wsX7_sign (some .boolean) "sign" 1 22 _ _ at F
  show gV G z0 X 0 0 h 0 [(0, .ref m), (1, .int (nI 59))] []
  refine v_aload_n (pc' := 1) F dX7_sign_0 rfl (j := 0) rfl rfl ?_
  refine v_callV (pc' := 4) (rt := (some .int)) (mcc := 0) (msc := 0) (As := []) (st := []) F (fun l => c_X7_here G z0 l (a := a) hm htext ht hln (by omega)) gX7_sign_X7_here rfl hv_X7_here (by decide) (by decide) hm rfl rfl rfl (Nat.le_of_ble_eq_true rfl) (by omega) (by omega) dX7_sign_1 rfl (fun v2 h1 hqh => ?_)
  obtain ⟨hv9, hmH, frH⟩ := hqh
  obtain ⟨hk1, hk2⟩ := (kdI3 t ln (sk t ln a)).mp hk
  rw [if_pos hk1, hk2] at hv9; subst hv9
  refine v_iload_n (pc' := 5) F dX7_sign_4 rfl (j := 1) rfl rfl ?_
  refine w_icmp_eq (tgt := 19) (pc' := 8) F (by omega) (by omega) dX7_sign_5 (by decide) rfl (fun _ => ?_) (fun c0 => absurd c0 (by omega))
  refine v_aload_n (pc' := 20) F dX7_sign_19 rfl (j := 0) rfl rfl ?_
  refine v_dup (pc' := 21) F dX7_sign_20 rfl rfl ?_
  refine v_getf (pc' := 24) (v := .int (nI (sk t ln a))) F k_X7_sign_7 hmH 20 (by decide) m_X7_sign_f146 rfl dX7_sign_21 rfl ?_
  refine v_iconst (pc' := 25) (v := nI 1) F dX7_sign_24 (by decide) rfl ?_
  refine v_iadd (pc' := 26) (v := nI ((sk t ln a) + 1)) F dX7_sign_25 (nI_add (sk t ln a) 1) rfl ?_
  refine w_putf (pc' := 29) F k_X7_sign_7 tyX7_ok nmX7 hmH 20 (by decide) m_X7_sign_f146 rfl  rfl rfl (show 20 < 26 by decide) [.int th, .ref rows, .ref asd, .int now, .int und, .ref vals, .ref many, .int fl, .int rl, .int kd, .int ok, .int st, .ref way, .int wm, .ref told, .ref oth, .ref lst, .ref text, .int fed, .int (nI ln), .int (nI ((sk t ln a) + 1)), .int (nI 0), .int fat, .int num, .int frm, .int may] rfl dX7_sign_26 rfl (fun h3 a4 f5 => ?_)
  refine v_iconst (pc' := 30) (v := nI 1) F dX7_sign_29 (by decide) rfl ?_
  have fr6 : gfr [m] h h3 := (gfr.t frH f5)
  refine v_zret F E (by omega) (by omega) (by decide) dX7_sign_30 ?_
  exact ⟨rfl, a4, fr6⟩
theorem hv_X7_fails : yX7_fails.cls = RX7 ∧ yX7_fails.cls ≠ "java/lang/invoke/MethodHandle" ∧ yX7_fails.cls ≠ "java/lang/invoke/VarHandle" ∧ (parseMethodDescriptor yX7_fails.desc).map (fun d => d.parameters.length) = some 2 := by decide +kernel
set_option maxHeartbeats 4000000 in
set_option maxRecDepth 100000 in
theorem n_X7_sign (G : gG) (z0 : Nat) (l : Launch) {a ln : Nat} {h : gH} {m rows asd vals many way told oth lst text : Nat} {th now und fl rl kd ok st wm fed num frm may : Int32} {fat : Int32} {T : Nat → Int32} {t : Nat → Nat} (hm : h m = some (.inr (7, [.int th, .ref rows, .ref asd, .int now, .int und, .ref vals, .ref many, .int fl, .int rl, .int kd, .int ok, .int st, .ref way, .int wm, .ref told, .ref oth, .ref lst, .ref text, .int fed, .int (nI ln), .int (nI a), .int (nI 0), .int fat, .int num, .int frm, .int may]))) (htext : h text = some (oI G 500 T)) (ht : ∀ j, j < ln → T j = nI (t j) ∧ t j < 256) (hln : ln ≤ 500) (ha : a ≤ ln) (hk : ¬ kdT t ln (sk t ln a) = 3) : gC G z0 l yX7_sign wsX7_sign 1 22 [.ref m, .int (nI 59)] h (fun v h' => v = some (.int (nI 0)) ∧ h' m = some (.inr (7, [.int th, .ref rows, .ref asd, .int now, .int und, .ref vals, .ref many, .int fl, .int rl, .int kd, .int ok, .int st, .ref way, .int wm, .ref told, .ref oth, .ref lst, .ref text, .int fed, .int (nI ln), .int (nI (sk t ln a)), .int (-2), .int (nI (sk t ln a)), .int num, .int frm, .int may])) ∧ gfr [m] h h') 0 0 := by
  have hsb := sk_b t ha
  refine gC_of (cc := cX7_sign) (nL := 2) (ret := (some .boolean)) (by decide) rfl (Nat.le_of_ble_eq_true rfl) ?_
  intro X F E _
  change gF G z0 X cX7_sign 2 RX7 wsX7_sign (some .boolean) "sign" 1 22 _ _ at F
  show gV G z0 X 0 0 h 0 [(0, .ref m), (1, .int (nI 59))] []
  refine v_aload_n (pc' := 1) F dX7_sign_0 rfl (j := 0) rfl rfl ?_
  refine v_callV (pc' := 4) (rt := (some .int)) (mcc := 0) (msc := 0) (As := []) (st := []) F (fun l => c_X7_here G z0 l (a := a) hm htext ht hln (by omega)) gX7_sign_X7_here rfl hv_X7_here (by decide) (by decide) hm rfl rfl rfl (Nat.le_of_ble_eq_true rfl) (by omega) (by omega) dX7_sign_1 rfl (fun v2 h1 hqh => ?_)
  obtain ⟨hv9, hmH, frH⟩ := hqh
  have hne : (if (sk t ln a) < ln then nI (t (sk t ln a)) else -1) ≠ nI 59 := by
    by_cases hz : (sk t ln a) < ln
    · rw [if_pos hz]; exact fun zi => hk ((kdI3 t ln _).mpr ⟨hz, (nI_eq (by have := (ht _ hz).2; omega) (by omega)).mp zi⟩)
    · rw [if_neg hz]; decide
  subst hv9
  refine v_iload_n (pc' := 5) F dX7_sign_4 rfl (j := 1) rfl rfl ?_
  refine v_icmp_eq (tgt := 19) (pc' := 8) F dX7_sign_5 (by decide) rfl (fun c0 => absurd c0 hne) (fun _ => ?_)
  refine v_aload_n (pc' := 9) F dX7_sign_8 rfl (j := 0) rfl rfl ?_
  refine v_bipush (pc' := 11) (v := (-2)) F dX7_sign_9 (by decide) rfl ?_
  refine v_aload_n (pc' := 12) F dX7_sign_11 rfl (j := 0) rfl rfl ?_
  refine v_getf (pc' := 15) (v := .int (nI (sk t ln a))) F k_X7_sign_7 hmH 20 (by decide) m_X7_sign_f146 rfl dX7_sign_12 rfl ?_
  refine v_callV (pc' := 18) (rt := (some .boolean)) (mcc := 0) (msc := 0) (As := [.int (-2), .int (nI (sk t ln a))]) (st := []) F (fun l => c_X7_fails G z0 l (-2) (nI (sk t ln a)) hmH) gX7_sign_X7_fails rfl hv_X7_fails (by decide) (by decide) hmH rfl rfl rfl (Nat.le_of_ble_eq_true rfl) (by omega) (by omega) dX7_sign_15 rfl (fun v4 h3 hqf => ?_)
  obtain ⟨rfl, hmF, frF⟩ := hqf
  have fr5 : gfr [m] h h3 := (gfr.t frH frF)
  refine v_zret F E (by omega) (by omega) (by decide) dX7_sign_18 ?_
  exact ⟨rfl, hmF, fr5⟩
theorem k_X7_reads_7 : gCl wsX7_reads 7 RX7 TX7 26 := ⟨by decide +kernel, rfl⟩
theorem m_X7_reads_f146 : Cond.fieldLink RX7 146 "SteadyQueuesModel" "spot" "I" ∈ wsX7_reads := by decide +kernel
theorem m_X7_reads_f149 : Cond.fieldLink RX7 149 "SteadyQueuesModel" "length" "I" ∈ wsX7_reads := by decide +kernel
theorem m_X7_reads_f34 : Cond.fieldLink RX7 34 "SteadyQueuesModel" "text" "[I" ∈ wsX7_reads := by decide +kernel
theorem hd_X7_isDigit : yX7_isDigit.cls ≠ "java/lang/invoke/MethodHandle" ∧ yX7_isDigit.cls ≠ "java/lang/invoke/VarHandle" ∧ (parseMethodDescriptor yX7_isDigit.desc).map (fun d => d.parameters.length) = some 1 := by decide +kernel
theorem m_X7_reads_f176 : Cond.fieldLink RX7 176 "SteadyQueuesModel" "number" "I" ∈ wsX7_reads := by decide +kernel
theorem m_X7_reads_c179 : Cond.constant RX7 179 (nI 100000) ∈ wsX7_reads := by decide +kernel
set_option maxHeartbeats 4000000 in
set_option maxRecDepth 100000 in
theorem lp_X7_reads {G : gG} {z0 : Nat} {X : gX} {l : Launch} {mc ms cells slots mm a v ln lo hi : Nat} {h : gH} {m rows asd vals many way told oth lst text : Nat} {th now und fl rl kd ok st wm fed fa fat frm may : Int32} {T : Nat → Int32} {t : Nat → Nat} (F : gF G z0 X cX7_reads 3 RX7 wsX7_reads (some .boolean) "reads" 1 22 mc ms) (hcc : cells ≤ mc) (hss : slots ≤ ms) (hm : h m = some (.inr (7, [.int th, .ref rows, .ref asd, .int now, .int und, .ref vals, .ref many, .int fl, .int rl, .int kd, .int ok, .int st, .ref way, .int wm, .ref told, .ref oth, .ref lst, .ref text, .int fed, .int (nI ln), .int (nI a), .int fa, .int fat, .int (nI v), .int frm, .int may]))) (htext : h text = some (oI G 500 T)) (ht : ∀ j, j < ln → T j = nI (t j) ∧ t j < 256) (hln : ln ≤ 500) (ha : a + mm = ln) (hv : v ≤ 1000009) (K : ∀ h' : gH, h' m = some (.inr (7, [.int th, .ref rows, .ref asd, .int now, .int und, .ref vals, .ref many, .int fl, .int rl, .int kd, .int ok, .int st, .ref way, .int wm, .ref told, .ref oth, .ref lst, .ref text, .int fed, .int (nI ln), .int (nI (eD t mm a)), .int fa, .int fat, .int (nI (mD t mm a v)), .int frm, .int may])) → gfr [m] h h' → gV G z0 X cells slots h' 113 [(2, .int (nI hi)), (1, .int (nI lo)), (0, .ref m)] []) : gV G z0 X cells slots h 34 [(2, .int (nI hi)), (1, .int (nI lo)), (0, .ref m)] [] := by
  induction mm generalizing a v h with
  | zero =>
    refine v_aload_n (pc' := 35) F dX7_reads_34 rfl (j := 2) rfl rfl ?_
    refine v_getf (pc' := 38) (v := .int (nI a)) F k_X7_reads_7 hm 20 (by decide) m_X7_reads_f146 rfl dX7_reads_35 rfl ?_
    refine v_aload_n (pc' := 39) F dX7_reads_38 rfl (j := 2) rfl rfl ?_
    refine v_getf (pc' := 42) (v := .int (nI ln)) F k_X7_reads_7 hm 19 (by decide) m_X7_reads_f149 rfl dX7_reads_39 rfl ?_
    refine w_icmp_ge (tgt := 113) (pc' := 45) F (by omega) (by omega) dX7_reads_42 (by decide) rfl (fun _ => ?_) (fun c0 => absurd c0 (by omega))
    exact K h hm gfr.rf
  | succ mm ih =>
    obtain ⟨hTa, hta⟩ := ht a (by omega)
    refine v_aload_n (pc' := 35) F dX7_reads_34 rfl (j := 2) rfl rfl ?_
    refine v_getf (pc' := 38) (v := .int (nI a)) F k_X7_reads_7 hm 20 (by decide) m_X7_reads_f146 rfl dX7_reads_35 rfl ?_
    refine v_aload_n (pc' := 39) F dX7_reads_38 rfl (j := 2) rfl rfl ?_
    refine v_getf (pc' := 42) (v := .int (nI ln)) F k_X7_reads_7 hm 19 (by decide) m_X7_reads_f149 rfl dX7_reads_39 rfl ?_
    refine w_icmp_ge (tgt := 113) (pc' := 45) F (by omega) (by omega) dX7_reads_42 (by decide) rfl (fun c0 => absurd c0 (by omega)) (fun _ => ?_)
    refine v_aload_n (pc' := 46) F dX7_reads_45 rfl (j := 2) rfl rfl ?_
    refine v_getf (pc' := 49) (v := .ref text) F k_X7_reads_7 hm 17 (by decide) m_X7_reads_f34 rfl dX7_reads_46 rfl ?_
    refine v_aload_n (pc' := 50) F dX7_reads_49 rfl (j := 2) rfl rfl ?_
    refine v_getf (pc' := 53) (v := .int (nI a)) F k_X7_reads_7 hm 20 (by decide) m_X7_reads_f146 rfl dX7_reads_50 rfl ?_
    refine w_iald (pc' := 54) (v := nI (t a)) F htext (by omega) (by omega) hTa dX7_reads_53 rfl ?_
    refine v_callS (pc' := 57) (rt := (some .boolean)) (mcc := 0) (msc := 0) (As := [.int (nI (t a))]) (st := []) F (fun l => c_X7_isDigit G z0 l hta) gX7_reads_X7_isDigit rfl hd_X7_isDigit (by decide) (by decide) rfl rfl (Nat.le_of_ble_eq_true rfl) (by omega) (by omega) dX7_reads_54 rfl (fun v1 h hqd => ?_)
    obtain ⟨rfl, rfl⟩ := hqd
    by_cases hd : 48 ≤ t a ∧ t a ≤ 57
    · rw [if_pos hd]
      refine w_if_eq (tgt := 113) (pc' := 60) F (by omega) dX7_reads_57 (by decide) rfl (fun c0 => absurd c0 (by omega)) (fun _ => ?_)
      refine v_aload_n (pc' := 61) F dX7_reads_60 rfl (j := 2) rfl rfl ?_
      refine v_aload_n (pc' := 62) F dX7_reads_61 rfl (j := 2) rfl rfl ?_
      refine v_getf (pc' := 65) (v := .int (nI v)) F k_X7_reads_7 hm 23 (by decide) m_X7_reads_f176 rfl dX7_reads_62 rfl ?_
      refine v_ldcI (pc' := 67) (v := nI 100000) F m_X7_reads_c179 dX7_reads_65 rfl ?_
      refine w_icmp_le (tgt := 77) (pc' := 70) F (by omega) (by omega) dX7_reads_67 (by decide) rfl (fun c0 => ?_) (fun c0 => ?_)
      · refine v_bipush (pc' := 79) (v := nI 10) F dX7_reads_77 (by decide) rfl ?_
        refine v_aload_n (pc' := 80) F dX7_reads_79 rfl (j := 2) rfl rfl ?_
        refine v_getf (pc' := 83) (v := .int (nI v)) F k_X7_reads_7 hm 23 (by decide) m_X7_reads_f176 rfl dX7_reads_80 rfl ?_
        refine v_imul (pc' := 84) (v := nI (10 * v)) F dX7_reads_83 (pk_mul 10 v) rfl ?_
        refine v_aload_n (pc' := 85) F dX7_reads_84 rfl (j := 2) rfl rfl ?_
        refine v_getf (pc' := 88) (v := .ref text) F k_X7_reads_7 hm 17 (by decide) m_X7_reads_f34 rfl dX7_reads_85 rfl ?_
        refine v_aload_n (pc' := 89) F dX7_reads_88 rfl (j := 2) rfl rfl ?_
        refine v_getf (pc' := 92) (v := .int (nI a)) F k_X7_reads_7 hm 20 (by decide) m_X7_reads_f146 rfl dX7_reads_89 rfl ?_
        refine w_iald (pc' := 93) (v := nI (t a)) F htext (by omega) (by omega) hTa dX7_reads_92 rfl ?_
        refine v_iadd (pc' := 94) (v := nI (10 * v + (t a))) F dX7_reads_93 (nI_add (10 * v) (t a)) rfl ?_
        refine v_bipush (pc' := 96) (v := nI 48) F dX7_reads_94 (by decide) rfl ?_
        refine v_isub (pc' := 97) (v := nI (10 * v + (t a) - 48)) F dX7_reads_96 (g_subn (by omega) (by omega)) rfl ?_
        refine w_putf (pc' := 100) F k_X7_reads_7 tyX7_ok nmX7 hm 23 (by decide) m_X7_reads_f176 rfl  rfl rfl (show 23 < 26 by decide) [.int th, .ref rows, .ref asd, .int now, .int und, .ref vals, .ref many, .int fl, .int rl, .int kd, .int ok, .int st, .ref way, .int wm, .ref told, .ref oth, .ref lst, .ref text, .int fed, .int (nI ln), .int (nI a), .int fa, .int fat, .int (nI (10 * v + (t a) - 48)), .int frm, .int may] rfl dX7_reads_97 rfl (fun h2 a3 f4 => ?_)
        refine v_aload_n (pc' := 101) F dX7_reads_100 rfl (j := 2) rfl rfl ?_
        refine v_dup (pc' := 102) F dX7_reads_101 rfl rfl ?_
        refine v_getf (pc' := 105) (v := .int (nI a)) F k_X7_reads_7 a3 20 (by decide) m_X7_reads_f146 rfl dX7_reads_102 rfl ?_
        refine v_iconst (pc' := 106) (v := nI 1) F dX7_reads_105 (by decide) rfl ?_
        refine v_iadd (pc' := 107) (v := nI (a + 1)) F dX7_reads_106 (nI_add a 1) rfl ?_
        refine w_putf (pc' := 110) F k_X7_reads_7 tyX7_ok nmX7 a3 20 (by decide) m_X7_reads_f146 rfl  rfl rfl (show 20 < 26 by decide) [.int th, .ref rows, .ref asd, .int now, .int und, .ref vals, .ref many, .int fl, .int rl, .int kd, .int ok, .int st, .ref way, .int wm, .ref told, .ref oth, .ref lst, .ref text, .int fed, .int (nI ln), .int (nI (a + 1)), .int fa, .int fat, .int (nI (10 * v + (t a) - 48)), .int frm, .int may] rfl dX7_reads_107 rfl (fun h5 a6 f7 => ?_)
        refine v_goto (tgt := 34) F dX7_reads_110 (by decide) ?_
        have fr8 : gfr [m] h h5 := (gfr.t f4 f7)
        have g9 := f4 _ _ (gnc (Ne.symm (g_neA hm htext)) gn0) htext
        have g10 := f7 _ _ (gnc (Ne.symm (g_neA a3 g9)) gn0) g9
        refine v_sub (L' := [(2, .int (nI hi)), (1, .int (nI lo)), (0, .ref m)]) [0, 1, 2] rfl ?_
        have e1 : eD t (mm + 1) a = eD t mm (a + 1) := if_pos hd
        have e2 : mD t (mm + 1) a v = mD t mm (a + 1) (10 * v + t a - 48) := (if_pos hd).trans (by rw [if_neg (by omega)])
        rw [e1, e2] at K
        exact ih (a := a + 1) (v := 10 * v + t a - 48) a6 g10 (by omega) (by omega) (fun hA a1 a2 => K hA a1 (gfr.t fr8 a2))
      · refine v_aload_n (pc' := 71) F dX7_reads_70 rfl (j := 2) rfl rfl ?_
        refine v_getf (pc' := 74) (v := .int (nI v)) F k_X7_reads_7 hm 23 (by decide) m_X7_reads_f176 rfl dX7_reads_71 rfl ?_
        refine v_goto (tgt := 97) F dX7_reads_74 (by decide) ?_
        refine w_putf (pc' := 100) F k_X7_reads_7 tyX7_ok nmX7 hm 23 (by decide) m_X7_reads_f176 rfl  rfl rfl (show 23 < 26 by decide) [.int th, .ref rows, .ref asd, .int now, .int und, .ref vals, .ref many, .int fl, .int rl, .int kd, .int ok, .int st, .ref way, .int wm, .ref told, .ref oth, .ref lst, .ref text, .int fed, .int (nI ln), .int (nI a), .int fa, .int fat, .int (nI v), .int frm, .int may] rfl dX7_reads_97 rfl (fun h11 a12 f13 => ?_)
        refine v_aload_n (pc' := 101) F dX7_reads_100 rfl (j := 2) rfl rfl ?_
        refine v_dup (pc' := 102) F dX7_reads_101 rfl rfl ?_
        refine v_getf (pc' := 105) (v := .int (nI a)) F k_X7_reads_7 a12 20 (by decide) m_X7_reads_f146 rfl dX7_reads_102 rfl ?_
        refine v_iconst (pc' := 106) (v := nI 1) F dX7_reads_105 (by decide) rfl ?_
        refine v_iadd (pc' := 107) (v := nI (a + 1)) F dX7_reads_106 (nI_add a 1) rfl ?_
        refine w_putf (pc' := 110) F k_X7_reads_7 tyX7_ok nmX7 a12 20 (by decide) m_X7_reads_f146 rfl  rfl rfl (show 20 < 26 by decide) [.int th, .ref rows, .ref asd, .int now, .int und, .ref vals, .ref many, .int fl, .int rl, .int kd, .int ok, .int st, .ref way, .int wm, .ref told, .ref oth, .ref lst, .ref text, .int fed, .int (nI ln), .int (nI (a + 1)), .int fa, .int fat, .int (nI v), .int frm, .int may] rfl dX7_reads_107 rfl (fun h14 a15 f16 => ?_)
        refine v_goto (tgt := 34) F dX7_reads_110 (by decide) ?_
        have fr17 : gfr [m] h h14 := (gfr.t f13 f16)
        have g18 := f13 _ _ (gnc (Ne.symm (g_neA hm htext)) gn0) htext
        have g19 := f16 _ _ (gnc (Ne.symm (g_neA a12 g18)) gn0) g18
        refine v_sub (L' := [(2, .int (nI hi)), (1, .int (nI lo)), (0, .ref m)]) [0, 1, 2] rfl ?_
        have e1 : eD t (mm + 1) a = eD t mm (a + 1) := if_pos hd
        have e2 : mD t (mm + 1) a v = mD t mm (a + 1) (v) := (if_pos hd).trans (by rw [if_pos c0])
        rw [e1, e2] at K
        exact ih (a := a + 1) (v := v) a15 g19 (by omega) (by omega) (fun hA a1 a2 => K hA a1 (gfr.t fr17 a2))
    · rw [if_neg hd]
      refine w_if_eq (tgt := 113) (pc' := 60) F (by omega) dX7_reads_57 (by decide) rfl (fun _ => ?_) (fun c0 => absurd c0 (by omega))
      have e1 : eD t (mm + 1) a = a := if_neg hd
      have e2 : mD t (mm + 1) a v = v := if_neg hd
      rw [e1, e2] at K
      exact K h hm gfr.rf
set_option maxHeartbeats 4000000 in
set_option maxRecDepth 100000 in
theorem n2_X7_reads (G : gG) (z0 : Nat) (l : Launch) {a ln lo hi : Nat} {h : gH} {m rows asd vals many way told oth lst text : Nat} {th now und fl rl kd ok st wm fed may : Int32} {fat num frm : Int32} {T : Nat → Int32} {t : Nat → Nat} (hm : h m = some (.inr (7, [.int th, .ref rows, .ref asd, .int now, .int und, .ref vals, .ref many, .int fl, .int rl, .int kd, .int ok, .int st, .ref way, .int wm, .ref told, .ref oth, .ref lst, .ref text, .int fed, .int (nI ln), .int (nI a), .int (nI 0), .int fat, .int num, .int frm, .int may]))) (htext : h text = some (oI G 500 T)) (ht : ∀ j, j < ln → T j = nI (t j) ∧ t j < 256) (hln : ln ≤ 500) (ha : a ≤ ln) (hk : ¬ kdT t ln (sk t ln a) = 2) : gC G z0 l yX7_reads wsX7_reads 1 22 [.ref m, .int (nI lo), .int (nI hi)] h (fun v h' => v = some (.int (nI 0)) ∧ ∃ sp9 nu9 fr9 : Int32, h' m = some (.inr (7, [.int th, .ref rows, .ref asd, .int now, .int und, .ref vals, .ref many, .int fl, .int rl, .int kd, .int ok, .int st, .ref way, .int wm, .ref told, .ref oth, .ref lst, .ref text, .int fed, .int (nI ln), .int sp9, .int (-2), .int (nI (sk t ln a)), .int nu9, .int fr9, .int may])) ∧ gfr [m] h h') 0 0 := by
  have hsb := sk_b t ha
  refine gC_of (cc := cX7_reads) (nL := 3) (ret := (some .boolean)) (by decide) rfl (Nat.le_of_ble_eq_true rfl) ?_
  intro X F E _
  change gF G z0 X cX7_reads 3 RX7 wsX7_reads (some .boolean) "reads" 1 22 _ _ at F
  show gV G z0 X 0 0 h 0 [(0, .ref m), (1, .int (nI lo)), (2, .int (nI hi))] []
  refine v_aload_n (pc' := 1) F dX7_reads_0 rfl (j := 0) rfl rfl ?_
  refine v_callV (pc' := 4) (rt := (some .int)) (mcc := 0) (msc := 0) (As := []) (st := []) F (fun l => c_X7_here G z0 l (a := a) hm htext ht hln (by omega)) gX7_reads_X7_here rfl hv_X7_here (by decide) (by decide) hm rfl rfl rfl (Nat.le_of_ble_eq_true rfl) (by omega) (by omega) dX7_reads_1 rfl (fun v2 h1 hqh => ?_)
  obtain ⟨hv9, hmH, frH⟩ := hqh
  subst hv9
  by_cases hz : (sk t ln a) < ln
  · rw [if_pos hz]
    refine v_callS (pc' := 7) (rt := (some .boolean)) (mcc := 0) (msc := 0) (As := [.int (nI (t (sk t ln a)))]) (st := []) F (fun l => c_X7_isDigit G z0 l (ht _ hz).2) gX7_reads_X7_isDigit rfl hd_X7_isDigit (by decide) (by decide) rfl rfl (Nat.le_of_ble_eq_true rfl) (by omega) (by omega) dX7_reads_4 rfl (fun v3 h1 hqd => ?_)
    obtain ⟨rfl, rfl⟩ := hqd
    rw [if_neg (fun zi => hk ((kdI2 t ln _).mpr ⟨hz, zi⟩))]
    refine w_if_ne (tgt := 21) (pc' := 10) F (by omega) dX7_reads_7 (by decide) rfl (fun c0 => absurd c0 (by omega)) (fun _ => ?_)
    refine v_aload_n (pc' := 11) F dX7_reads_10 rfl (j := 0) rfl rfl ?_
    refine v_bipush (pc' := 13) (v := (-2)) F dX7_reads_11 (by decide) rfl ?_
    refine v_aload_n (pc' := 14) F dX7_reads_13 rfl (j := 0) rfl rfl ?_
    refine v_getf (pc' := 17) (v := .int (nI (sk t ln a))) F k_X7_reads_7 hmH 20 (by decide) m_X7_reads_f146 rfl dX7_reads_14 rfl ?_
    refine v_callV (pc' := 20) (rt := (some .boolean)) (mcc := 0) (msc := 0) (As := [.int (-2), .int (nI (sk t ln a))]) (st := []) F (fun l => c_X7_fails G z0 l (-2) (nI (sk t ln a)) hmH) gX7_reads_X7_fails rfl hv_X7_fails (by decide) (by decide) hmH rfl rfl rfl (Nat.le_of_ble_eq_true rfl) (by omega) (by omega) dX7_reads_17 rfl (fun v5 h4 hqf => ?_)
    obtain ⟨rfl, hmF, frF⟩ := hqf
    have fr6 : gfr [m] h h4 := (gfr.t frH frF)
    refine v_zret F E (by omega) (by omega) (by decide) dX7_reads_20 ?_
    exact ⟨rfl, _, _, _, hmF, fr6⟩
  · rw [if_neg hz]
    refine v_callS (pc' := 7) (rt := (some .boolean)) (mcc := 0) (msc := 0) (As := [.int (-1)]) (st := []) F (fun l => c9_X7_isDigit G z0 l) gX7_reads_X7_isDigit rfl hd_X7_isDigit (by decide) (by decide) rfl rfl (Nat.le_of_ble_eq_true rfl) (by omega) (by omega) dX7_reads_4 rfl (fun v7 h1 hqd => ?_)
    obtain ⟨rfl, rfl⟩ := hqd
    refine w_if_ne (tgt := 21) (pc' := 10) F (by omega) dX7_reads_7 (by decide) rfl (fun c0 => absurd c0 (by omega)) (fun _ => ?_)
    refine v_aload_n (pc' := 11) F dX7_reads_10 rfl (j := 0) rfl rfl ?_
    refine v_bipush (pc' := 13) (v := (-2)) F dX7_reads_11 (by decide) rfl ?_
    refine v_aload_n (pc' := 14) F dX7_reads_13 rfl (j := 0) rfl rfl ?_
    refine v_getf (pc' := 17) (v := .int (nI (sk t ln a))) F k_X7_reads_7 hmH 20 (by decide) m_X7_reads_f146 rfl dX7_reads_14 rfl ?_
    refine v_callV (pc' := 20) (rt := (some .boolean)) (mcc := 0) (msc := 0) (As := [.int (-2), .int (nI (sk t ln a))]) (st := []) F (fun l => c_X7_fails G z0 l (-2) (nI (sk t ln a)) hmH) gX7_reads_X7_fails rfl hv_X7_fails (by decide) (by decide) hmH rfl rfl rfl (Nat.le_of_ble_eq_true rfl) (by omega) (by omega) dX7_reads_17 rfl (fun v9 h8 hqf => ?_)
    obtain ⟨rfl, hmF, frF⟩ := hqf
    have fr10 : gfr [m] h h8 := (gfr.t frH frF)
    refine v_zret F E (by omega) (by omega) (by decide) dX7_reads_20 ?_
    exact ⟨rfl, _, _, _, hmF, fr10⟩
theorem m_X7_reads_f173 : Cond.fieldLink RX7 173 "SteadyQueuesModel" "from" "I" ∈ wsX7_reads := by decide +kernel
set_option maxHeartbeats 4000000 in
set_option maxRecDepth 100000 in
theorem c_X7_reads (G : gG) (z0 : Nat) (l : Launch) {a ln lo hi : Nat} {h : gH} {m rows asd vals many way told oth lst text : Nat} {th now und fl rl kd ok st wm fed may : Int32} {fat num frm : Int32} {T : Nat → Int32} {t : Nat → Nat} (hm : h m = some (.inr (7, [.int th, .ref rows, .ref asd, .int now, .int und, .ref vals, .ref many, .int fl, .int rl, .int kd, .int ok, .int st, .ref way, .int wm, .ref told, .ref oth, .ref lst, .ref text, .int fed, .int (nI ln), .int (nI a), .int (nI 0), .int fat, .int num, .int frm, .int may]))) (htext : h text = some (oI G 500 T)) (ht : ∀ j, j < ln → T j = nI (t j) ∧ t j < 256) (hln : ln ≤ 500) (ha : a ≤ ln) (hhi : hi ≤ 100000) (hlo : lo ≤ 100000) (hk : kdT t ln (sk t ln a) = 2) (hlh : (lo ≤ (vl t ln (sk t ln a)) ∧ (vl t ln (sk t ln a)) ≤ hi)) : gC G z0 l yX7_reads wsX7_reads 1 22 [.ref m, .int (nI lo), .int (nI hi)] h (fun v h' => v = some (.int (nI 1)) ∧ h' m = some (.inr (7, [.int th, .ref rows, .ref asd, .int now, .int und, .ref vals, .ref many, .int fl, .int rl, .int kd, .int ok, .int st, .ref way, .int wm, .ref told, .ref oth, .ref lst, .ref text, .int fed, .int (nI ln), .int (nI (enT t ln (sk t ln a))), .int (nI 0), .int fat, .int (nI (vl t ln (sk t ln a))), .int (nI (sk t ln a)), .int may])) ∧ gfr [m] h h') 0 0 := by
  have hsb := sk_b t ha
  have hMV := mD_v t (ln - (sk t ln a)) (sk t ln a) 0 0 (.inl rfl)
  have hMB := mD_b t (ln - (sk t ln a)) (sk t ln a) 0 (Nat.zero_le _)
  change _ = (vl t ln (sk t ln a)) ∨ (_ ∧ 100000 < (vl t ln (sk t ln a))) at hMV
  refine gC_of (cc := cX7_reads) (nL := 3) (ret := (some .boolean)) (by decide) rfl (Nat.le_of_ble_eq_true rfl) ?_
  intro X F E _
  change gF G z0 X cX7_reads 3 RX7 wsX7_reads (some .boolean) "reads" 1 22 _ _ at F
  show gV G z0 X 0 0 h 0 [(0, .ref m), (1, .int (nI lo)), (2, .int (nI hi))] []
  refine v_aload_n (pc' := 1) F dX7_reads_0 rfl (j := 0) rfl rfl ?_
  refine v_callV (pc' := 4) (rt := (some .int)) (mcc := 0) (msc := 0) (As := []) (st := []) F (fun l => c_X7_here G z0 l (a := a) hm htext ht hln (by omega)) gX7_reads_X7_here rfl hv_X7_here (by decide) (by decide) hm rfl rfl rfl (Nat.le_of_ble_eq_true rfl) (by omega) (by omega) dX7_reads_1 rfl (fun v2 h1 hqh => ?_)
  obtain ⟨hv9, hmH, frH⟩ := hqh
  obtain ⟨hk1, hk2⟩ := (kdI2 t ln (sk t ln a)).mp hk
  rw [if_pos hk1] at hv9; subst hv9
  refine v_callS (pc' := 7) (rt := (some .boolean)) (mcc := 0) (msc := 0) (As := [.int (nI (t (sk t ln a)))]) (st := []) F (fun l => c_X7_isDigit G z0 l (ht _ hk1).2) gX7_reads_X7_isDigit rfl hd_X7_isDigit (by decide) (by decide) rfl rfl (Nat.le_of_ble_eq_true rfl) (by omega) (by omega) dX7_reads_4 rfl (fun v3 h1 hqd => ?_)
  obtain ⟨rfl, rfl⟩ := hqd
  rw [if_pos hk2]
  refine w_if_ne (tgt := 21) (pc' := 10) F (by omega) dX7_reads_7 (by decide) rfl (fun _ => ?_) (fun c0 => absurd c0 (by omega))
  refine v_aload_n (pc' := 22) F dX7_reads_21 rfl (j := 0) rfl rfl ?_
  refine v_aload_n (pc' := 23) F dX7_reads_22 rfl (j := 0) rfl rfl ?_
  refine v_getf (pc' := 26) (v := .int (nI (sk t ln a))) F k_X7_reads_7 hmH 20 (by decide) m_X7_reads_f146 rfl dX7_reads_23 rfl ?_
  refine w_putf (pc' := 29) F k_X7_reads_7 tyX7_ok nmX7 hmH 24 (by decide) m_X7_reads_f173 rfl  rfl rfl (show 24 < 26 by decide) [.int th, .ref rows, .ref asd, .int now, .int und, .ref vals, .ref many, .int fl, .int rl, .int kd, .int ok, .int st, .ref way, .int wm, .ref told, .ref oth, .ref lst, .ref text, .int fed, .int (nI ln), .int (nI (sk t ln a)), .int (nI 0), .int fat, .int num, .int (nI (sk t ln a)), .int may] rfl dX7_reads_26 rfl (fun h4 a5 f6 => ?_)
  refine v_aload_n (pc' := 30) F dX7_reads_29 rfl (j := 0) rfl rfl ?_
  refine v_iconst (pc' := 31) (v := nI 0) F dX7_reads_30 (by decide) rfl ?_
  refine w_putf (pc' := 34) F k_X7_reads_7 tyX7_ok nmX7 a5 23 (by decide) m_X7_reads_f176 rfl  rfl rfl (show 23 < 26 by decide) [.int th, .ref rows, .ref asd, .int now, .int und, .ref vals, .ref many, .int fl, .int rl, .int kd, .int ok, .int st, .ref way, .int wm, .ref told, .ref oth, .ref lst, .ref text, .int fed, .int (nI ln), .int (nI (sk t ln a)), .int (nI 0), .int fat, .int (nI 0), .int (nI (sk t ln a)), .int may] rfl dX7_reads_31 rfl (fun h7 a8 f9 => ?_)
  refine v_sub (L' := [(2, .int (nI hi)), (1, .int (nI lo)), (0, .ref m)]) [2, 1, 0] rfl ?_
  have g10 := frH _ _ (gnc (Ne.symm (g_neA hm htext)) gn0) htext
  have g11 := f6 _ _ (gnc (Ne.symm (g_neA hmH g10)) gn0) g10
  have g12 := f9 _ _ (gnc (Ne.symm (g_neA a5 g11)) gn0) g11
  have fr13 : gfr [m] h h7 := (gfr.t frH (gfr.t f6 f9))
  refine lp_X7_reads (l := l) (mm := ln - (sk t ln a)) (v := 0) F (by omega) (by omega) a8 g12 ht hln (by omega) (by omega) (fun hA a1 a2 => ?_)
  have fr0 := gfr.t fr13 a2
  show gV G z0 X 0 0 hA 113 [(2, .int (nI hi)), (1, .int (nI lo)), (0, .ref m)] []
  generalize hND : (mD t (ln - (sk t ln a)) (sk t ln a) 0) = X9 at *
  refine v_aload_n (pc' := 114) F dX7_reads_113 rfl (j := 2) rfl rfl ?_
  refine v_getf (pc' := 117) (v := .int (nI X9)) F k_X7_reads_7 a1 23 (by decide) m_X7_reads_f176 rfl dX7_reads_114 rfl ?_
  refine v_iload_n (pc' := 118) F dX7_reads_117 rfl (j := 1) rfl rfl ?_
  refine v_iload_n (pc' := 119) F dX7_reads_118 rfl (j := 0) rfl rfl ?_
  have hi9 : (nI lo ≤ nI X9 ∧ nI X9 ≤ nI hi) := ⟨(nI_leI (by omega) (by omega)).mpr (by omega), (nI_leI (by omega) (by omega)).mpr (by omega)⟩
  refine v_callS (pc' := 122) (rt := (some .boolean)) (mcc := 0) (msc := 0) (As := [.int (nI X9), .int (nI lo), .int (nI hi)]) (st := []) F (fun l => c_X7_isIn G z0 l (nI X9) (nI lo) (nI hi)) gX7_reads_X7_isIn rfl hd_X7_isIn (by decide) (by decide) rfl rfl (Nat.le_of_ble_eq_true rfl) (by omega) (by omega) dX7_reads_119 rfl (fun v14 hA hqi => ?_)
  rw [if_pos hi9] at hqi; obtain ⟨rfl, rfl⟩ := hqi
  refine w_if_ne (tgt := 138) (pc' := 125) F (by omega) dX7_reads_122 (by decide) rfl (fun _ => ?_) (fun c0 => absurd c0 (by omega))
  refine v_iconst (pc' := 139) (v := nI 1) F dX7_reads_138 (by decide) rfl ?_
  refine v_goto (tgt := 143) F dX7_reads_139 (by decide) ?_
  obtain rfl : X9 = (vl t ln (sk t ln a)) := by omega
  refine v_zret F E (by omega) (by omega) (by decide) dX7_reads_143 ?_
  exact ⟨rfl, by rw [en2 hk]; exact a1, fr0⟩
set_option maxHeartbeats 4000000 in
set_option maxRecDepth 100000 in
theorem n3_X7_reads (G : gG) (z0 : Nat) (l : Launch) {a ln lo hi : Nat} {h : gH} {m rows asd vals many way told oth lst text : Nat} {th now und fl rl kd ok st wm fed may : Int32} {fat num frm : Int32} {T : Nat → Int32} {t : Nat → Nat} (hm : h m = some (.inr (7, [.int th, .ref rows, .ref asd, .int now, .int und, .ref vals, .ref many, .int fl, .int rl, .int kd, .int ok, .int st, .ref way, .int wm, .ref told, .ref oth, .ref lst, .ref text, .int fed, .int (nI ln), .int (nI a), .int (nI 0), .int fat, .int num, .int frm, .int may]))) (htext : h text = some (oI G 500 T)) (ht : ∀ j, j < ln → T j = nI (t j) ∧ t j < 256) (hln : ln ≤ 500) (ha : a ≤ ln) (hhi : hi ≤ 100000) (hlo : lo ≤ 100000) (hk : kdT t ln (sk t ln a) = 2) (hlh : ¬ (lo ≤ (vl t ln (sk t ln a)) ∧ (vl t ln (sk t ln a)) ≤ hi)) : gC G z0 l yX7_reads wsX7_reads 1 22 [.ref m, .int (nI lo), .int (nI hi)] h (fun v h' => v = some (.int (nI 0)) ∧ ∃ sp9 nu9 fr9 : Int32, h' m = some (.inr (7, [.int th, .ref rows, .ref asd, .int now, .int und, .ref vals, .ref many, .int fl, .int rl, .int kd, .int ok, .int st, .ref way, .int wm, .ref told, .ref oth, .ref lst, .ref text, .int fed, .int (nI ln), .int sp9, .int (-3), .int (nI (sk t ln a)), .int nu9, .int fr9, .int may])) ∧ gfr [m] h h') 0 0 := by
  have hsb := sk_b t ha
  have hMV := mD_v t (ln - (sk t ln a)) (sk t ln a) 0 0 (.inl rfl)
  have hMB := mD_b t (ln - (sk t ln a)) (sk t ln a) 0 (Nat.zero_le _)
  change _ = (vl t ln (sk t ln a)) ∨ (_ ∧ 100000 < (vl t ln (sk t ln a))) at hMV
  refine gC_of (cc := cX7_reads) (nL := 3) (ret := (some .boolean)) (by decide) rfl (Nat.le_of_ble_eq_true rfl) ?_
  intro X F E _
  change gF G z0 X cX7_reads 3 RX7 wsX7_reads (some .boolean) "reads" 1 22 _ _ at F
  show gV G z0 X 0 0 h 0 [(0, .ref m), (1, .int (nI lo)), (2, .int (nI hi))] []
  refine v_aload_n (pc' := 1) F dX7_reads_0 rfl (j := 0) rfl rfl ?_
  refine v_callV (pc' := 4) (rt := (some .int)) (mcc := 0) (msc := 0) (As := []) (st := []) F (fun l => c_X7_here G z0 l (a := a) hm htext ht hln (by omega)) gX7_reads_X7_here rfl hv_X7_here (by decide) (by decide) hm rfl rfl rfl (Nat.le_of_ble_eq_true rfl) (by omega) (by omega) dX7_reads_1 rfl (fun v2 h1 hqh => ?_)
  obtain ⟨hv9, hmH, frH⟩ := hqh
  obtain ⟨hk1, hk2⟩ := (kdI2 t ln (sk t ln a)).mp hk
  rw [if_pos hk1] at hv9; subst hv9
  refine v_callS (pc' := 7) (rt := (some .boolean)) (mcc := 0) (msc := 0) (As := [.int (nI (t (sk t ln a)))]) (st := []) F (fun l => c_X7_isDigit G z0 l (ht _ hk1).2) gX7_reads_X7_isDigit rfl hd_X7_isDigit (by decide) (by decide) rfl rfl (Nat.le_of_ble_eq_true rfl) (by omega) (by omega) dX7_reads_4 rfl (fun v3 h1 hqd => ?_)
  obtain ⟨rfl, rfl⟩ := hqd
  rw [if_pos hk2]
  refine w_if_ne (tgt := 21) (pc' := 10) F (by omega) dX7_reads_7 (by decide) rfl (fun _ => ?_) (fun c0 => absurd c0 (by omega))
  refine v_aload_n (pc' := 22) F dX7_reads_21 rfl (j := 0) rfl rfl ?_
  refine v_aload_n (pc' := 23) F dX7_reads_22 rfl (j := 0) rfl rfl ?_
  refine v_getf (pc' := 26) (v := .int (nI (sk t ln a))) F k_X7_reads_7 hmH 20 (by decide) m_X7_reads_f146 rfl dX7_reads_23 rfl ?_
  refine w_putf (pc' := 29) F k_X7_reads_7 tyX7_ok nmX7 hmH 24 (by decide) m_X7_reads_f173 rfl  rfl rfl (show 24 < 26 by decide) [.int th, .ref rows, .ref asd, .int now, .int und, .ref vals, .ref many, .int fl, .int rl, .int kd, .int ok, .int st, .ref way, .int wm, .ref told, .ref oth, .ref lst, .ref text, .int fed, .int (nI ln), .int (nI (sk t ln a)), .int (nI 0), .int fat, .int num, .int (nI (sk t ln a)), .int may] rfl dX7_reads_26 rfl (fun h4 a5 f6 => ?_)
  refine v_aload_n (pc' := 30) F dX7_reads_29 rfl (j := 0) rfl rfl ?_
  refine v_iconst (pc' := 31) (v := nI 0) F dX7_reads_30 (by decide) rfl ?_
  refine w_putf (pc' := 34) F k_X7_reads_7 tyX7_ok nmX7 a5 23 (by decide) m_X7_reads_f176 rfl  rfl rfl (show 23 < 26 by decide) [.int th, .ref rows, .ref asd, .int now, .int und, .ref vals, .ref many, .int fl, .int rl, .int kd, .int ok, .int st, .ref way, .int wm, .ref told, .ref oth, .ref lst, .ref text, .int fed, .int (nI ln), .int (nI (sk t ln a)), .int (nI 0), .int fat, .int (nI 0), .int (nI (sk t ln a)), .int may] rfl dX7_reads_31 rfl (fun h7 a8 f9 => ?_)
  refine v_sub (L' := [(2, .int (nI hi)), (1, .int (nI lo)), (0, .ref m)]) [2, 1, 0] rfl ?_
  have g10 := frH _ _ (gnc (Ne.symm (g_neA hm htext)) gn0) htext
  have g11 := f6 _ _ (gnc (Ne.symm (g_neA hmH g10)) gn0) g10
  have g12 := f9 _ _ (gnc (Ne.symm (g_neA a5 g11)) gn0) g11
  have fr13 : gfr [m] h h7 := (gfr.t frH (gfr.t f6 f9))
  refine lp_X7_reads (l := l) (mm := ln - (sk t ln a)) (v := 0) F (by omega) (by omega) a8 g12 ht hln (by omega) (by omega) (fun hA a1 a2 => ?_)
  have fr0 := gfr.t fr13 a2
  show gV G z0 X 0 0 hA 113 [(2, .int (nI hi)), (1, .int (nI lo)), (0, .ref m)] []
  generalize hND : (mD t (ln - (sk t ln a)) (sk t ln a) 0) = X9 at *
  refine v_aload_n (pc' := 114) F dX7_reads_113 rfl (j := 2) rfl rfl ?_
  refine v_getf (pc' := 117) (v := .int (nI X9)) F k_X7_reads_7 a1 23 (by decide) m_X7_reads_f176 rfl dX7_reads_114 rfl ?_
  refine v_iload_n (pc' := 118) F dX7_reads_117 rfl (j := 1) rfl rfl ?_
  refine v_iload_n (pc' := 119) F dX7_reads_118 rfl (j := 0) rfl rfl ?_
  have hi9 : ¬ (nI lo ≤ nI X9 ∧ nI X9 ≤ nI hi) := fun zi => hlh (by have z1 := (nI_leI (by omega) (by omega)).mp zi.1; have z2 := (nI_leI (by omega) (by omega)).mp zi.2; omega)
  refine v_callS (pc' := 122) (rt := (some .boolean)) (mcc := 0) (msc := 0) (As := [.int (nI X9), .int (nI lo), .int (nI hi)]) (st := []) F (fun l => c_X7_isIn G z0 l (nI X9) (nI lo) (nI hi)) gX7_reads_X7_isIn rfl hd_X7_isIn (by decide) (by decide) rfl rfl (Nat.le_of_ble_eq_true rfl) (by omega) (by omega) dX7_reads_119 rfl (fun v14 hA hqi => ?_)
  rw [if_neg hi9] at hqi; obtain ⟨rfl, rfl⟩ := hqi
  refine w_if_ne (tgt := 138) (pc' := 125) F (by omega) dX7_reads_122 (by decide) rfl (fun c0 => absurd c0 (by omega)) (fun _ => ?_)
  refine v_aload_n (pc' := 126) F dX7_reads_125 rfl (j := 2) rfl rfl ?_
  refine v_bipush (pc' := 128) (v := (-3)) F dX7_reads_126 (by decide) rfl ?_
  refine v_aload_n (pc' := 129) F dX7_reads_128 rfl (j := 2) rfl rfl ?_
  refine v_getf (pc' := 132) (v := .int (nI (sk t ln a))) F k_X7_reads_7 a1 24 (by decide) m_X7_reads_f173 rfl dX7_reads_129 rfl ?_
  refine v_callV (pc' := 135) (rt := (some .boolean)) (mcc := 0) (msc := 0) (As := [.int (-3), .int (nI (sk t ln a))]) (st := []) F (fun l => c_X7_fails G z0 l (-3) (nI (sk t ln a)) a1) gX7_reads_X7_fails rfl hv_X7_fails (by decide) (by decide) a1 rfl rfl rfl (Nat.le_of_ble_eq_true rfl) (by omega) (by omega) dX7_reads_132 rfl (fun v16 h15 hqf => ?_)
  obtain ⟨rfl, hmF, frF⟩ := hqf
  refine w_if_eq (tgt := 142) (pc' := 138) F (by omega) dX7_reads_135 (by decide) rfl (fun _ => ?_) (fun c0 => absurd c0 (by omega))
  refine v_iconst (pc' := 143) (v := nI 0) F dX7_reads_142 (by decide) rfl ?_
  have fr17 : gfr [m] h h15 := (gfr.t fr0 frF)
  refine v_zret F E (by omega) (by omega) (by decide) dX7_reads_143 ?_
  exact ⟨rfl, _, _, _, hmF, fr17⟩
