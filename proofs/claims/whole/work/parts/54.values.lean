/-! THE REFERENCE: values by the way -/
def pS : List mO → List Int32
  | [] => []
  | o :: os => if o.1 = -1 then pS os else pS os ++ [o.1]
def pC : List mO → Nat
  | [] => 0
  | o :: os => if o.1 = -1 then pC os + 1 else pC os
theorem pS_w : ∀ {os : List mO}, wOk os → pC os ≤ (pS os).length ∧ wVals os = (pS os).drop (pC os) ∧ (pS os).length + pC os = os.length
  | [], _ => ⟨Nat.le_refl _, rfl, rfl⟩
  | o :: os, h => by
    obtain ⟨h1, h2, h3, h4, h5⟩ := h
    obtain ⟨a, b, c⟩ := pS_w h1
    unfold pS pC wVals
    by_cases e : o.1 = -1
    · simp only [if_pos e]
      have := h4 e
      rw [b] at this ⊢
      refine ⟨?_, List.tail_drop, by rw [List.length_cons]; omega⟩
      rcases Nat.lt_or_ge (pC os) (pS os).length with z | z
      · exact z
      · exact absurd (List.drop_eq_nil_of_le z) this
    · simp only [if_neg e]
      refine ⟨by rw [List.length_append]; omega, ?_, by simp only [List.length_append, List.length_cons, List.length_nil]; omega⟩
      rw [b, List.drop_append_of_le_length a]
theorem fHas.snoc {f : Nat → Int32} {ys : List Int32} {x : Int32} (h : fHas f 0 ys) : fHas (upd f ys.length x) 0 (ys ++ [x]) := by
  refine fHas.app (h.keep (fun j hj => upd_ne (by omega))) (fun j hj => ?_)
  rw [List.length_singleton] at hj
  obtain rfl : j = 0 := by omega
  rw [Nat.zero_add, Nat.add_zero, upd_eq]
  rfl
/-- the way's k-th version, read -/
theorem wG.op {D : Dt} (w9 : wfD D) {R : Nat → Int32} {b v k : Nat} {x : Int32} (hS : slD R b D) (hk : k < (D.2.2.2.2 v).length) (h : wG D v k x) : ∃ (u : Nat) (o : mO), u < D.1 ∧ u < 64 ∧ x = nI u ∧ D.2.2.2.2 u = o :: (D.2.2.2.2 v).drop ((D.2.2.2.2 v).length - k) ∧ (D.2.2.2.2 v).drop ((D.2.2.2.2 v).length - (k + 1)) = o :: (D.2.2.2.2 v).drop ((D.2.2.2.2 v).length - k) ∧ R (b + (10 + 5 * u + 1)) = o.1 ∧ R (b + (10 + 5 * u + 2)) = nI o.2 ∧ R (b + (10 + 5 * u + 4)) = nI (qOf (o :: (D.2.2.2.2 v).drop ((D.2.2.2.2 v).length - k))).2 ∧ wOk (o :: (D.2.2.2.2 v).drop ((D.2.2.2.2 v).length - k)) := by
  obtain ⟨u, hu, hx, hu2⟩ := h
  have hlu := dr_len hk
  rw [← hu2] at hlu
  have hwu := (w9.os hu).1
  obtain ⟨-, hr1, hr2, -, hr4⟩ := hS.2.2.2 u hu
  cases e : D.2.2.2.2 u with
  | nil => rw [e] at hlu; exact absurd hlu (by simp)
  | cons o rest =>
    have er : (D.2.2.2.2 v).drop ((D.2.2.2.2 v).length - k) = rest := by
      have e2 := congrArg (List.drop 1) hu2
      rw [List.drop_drop, e] at e2
      rw [show (D.2.2.2.2 v).length - k = (D.2.2.2.2 v).length - 1 - k + 1 by omega, ← e2]
      rfl
    rw [e] at hwu hr1 hr2 hr4 hu2
    rw [er]
    refine ⟨u, o, hu, by have := w9.2.1; omega, hx, e, by rw [show (D.2.2.2.2 v).length - (k + 1) = (D.2.2.2.2 v).length - 1 - k by omega]; exact hu2.symm, hr1, hr2, hr4, hwu⟩
theorem k_X7_laysValues_7 : gCl wsX7_laysValues 7 RX7 TX7 26 := ⟨by decide +kernel, rfl⟩
theorem m_X7_laysValues_f109 : Cond.fieldLink RX7 109 "SteadyQueuesModel" "wayMany" "I" ∈ wsX7_laysValues := by decide +kernel
theorem m_X7_laysValues_f22 : Cond.fieldLink RX7 22 "SteadyQueuesModel" "way" "[I" ∈ wsX7_laysValues := by decide +kernel
set_option maxHeartbeats 4000000 in
set_option maxRecDepth 100000 in
theorem lpA_X7_laysValues {G : gG} {z0 : Nat} {X : gX} {l : Launch} {mc ms cells slots j k v w : Nat} {h : gH} {m rows asd now vals many way told oth lst text : Nat} {th und fl rl kd ok st fed len spot fa fat num frm may : Int32} {R W f : Nat → Int32} {D : Dt} (F : gF G z0 X cX7_laysValues 6 RX7 wsX7_laysValues (some .int) "laysValues" 3 66 mc ms) (hcc : cells ≤ mc) (hss : slots ≤ ms) (hm : h m = some (.inr (7, [.int th, .ref rows, .ref asd, .int (nI now), .int und, .ref vals, .ref many, .int fl, .int rl, .int kd, .int ok, .int st, .ref way, .int (nI ((D.2.2.2.2 v).length)), .ref told, .ref oth, .ref lst, .ref text, .int fed, .int len, .int spot, .int fa, .int fat, .int num, .int frm, .int may]))) (hrows : h rows = some (oI G 2970 R)) (hnow : now < 9) (hway : h way = some (oI G 64 W)) (hw : h w = some (oI G 64 f)) (hww : w ≠ way) (w9 : wfD D) (hS : slD R (330 * now) D) (hlen : (D.2.2.2.2 v).length < 64) (hW : (∀ j, j < (D.2.2.2.2 v).length → wG D v j (W j))) (hf : fHas f 0 (pS ((D.2.2.2.2 v).drop ((D.2.2.2.2 v).length - k)))) (hkj : k + j = (D.2.2.2.2 v).length) (K : ∀ (h' : gH) (f' : Nat → Int32), h' w = some (oI G 64 f') → fHas f' 0 (pS (D.2.2.2.2 v)) → gfr [w] h h' → gV G z0 X cells slots h' 69 [(5, .int (nI ((D.2.2.2.2 v).length))), (4, .int (nI ((pS (D.2.2.2.2 v)).length))), (3, .int (nI (pC (D.2.2.2.2 v)))), (2, .ref w), (1, .int (nI v)), (0, .ref m)] []) : gV G z0 X cells slots h 13 [(5, .int (nI k)), (4, .int (nI ((pS ((D.2.2.2.2 v).drop ((D.2.2.2.2 v).length - k))).length))), (3, .int (nI (pC ((D.2.2.2.2 v).drop ((D.2.2.2.2 v).length - k))))), (2, .ref w), (1, .int (nI v)), (0, .ref m)] [] := by
  induction j generalizing k f h with
  | zero =>
    obtain rfl : k = (D.2.2.2.2 v).length := by omega
    refine v_iload (pc' := 15) F dX7_laysValues_13  (j := 0) rfl rfl ?_
    refine v_aload_n (pc' := 16) F dX7_laysValues_15 rfl (j := 5) rfl rfl ?_
    refine v_getf (pc' := 19) (v := .int (nI ((D.2.2.2.2 v).length))) F k_X7_laysValues_7 hm 13 (by decide) m_X7_laysValues_f109 rfl dX7_laysValues_16 rfl ?_
    refine w_icmp_ge (tgt := 69) (pc' := 22) F (by omega) (by omega) dX7_laysValues_19 (by decide) rfl (fun _ => ?_) (fun c0 => absurd c0 (by omega))
    rw [Nat.sub_self, List.drop_zero] at hf ⊢
    exact K h f hw hf gfr.rf
  | succ j ih =>
    have hk : k < (D.2.2.2.2 v).length := by omega
    obtain ⟨u, o, hu, hu64, hWk, he, hd, hr1, -, -, hwo⟩ := wG.op w9 hS hk (hW k hk)
    have hb := (pS_w hwo.1).2.2
    rw [List.length_drop] at hb
    refine v_iload (pc' := 15) F dX7_laysValues_13  (j := 0) rfl rfl ?_
    refine v_aload_n (pc' := 16) F dX7_laysValues_15 rfl (j := 5) rfl rfl ?_
    refine v_getf (pc' := 19) (v := .int (nI ((D.2.2.2.2 v).length))) F k_X7_laysValues_7 hm 13 (by decide) m_X7_laysValues_f109 rfl dX7_laysValues_16 rfl ?_
    refine w_icmp_ge (tgt := 69) (pc' := 22) F (by omega) (by omega) dX7_laysValues_19 (by decide) rfl (fun c0 => absurd c0 (by omega)) (fun _ => ?_)
    refine v_aload_n (pc' := 23) F dX7_laysValues_22 rfl (j := 5) rfl rfl ?_
    refine v_aload_n (pc' := 24) F dX7_laysValues_23 rfl (j := 5) rfl rfl ?_
    refine v_getf (pc' := 27) (v := .ref way) F k_X7_laysValues_7 hm 12 (by decide) m_X7_laysValues_f22 rfl dX7_laysValues_24 rfl ?_
    refine v_iload (pc' := 29) F dX7_laysValues_27  (j := 0) rfl rfl ?_
    refine w_iald (pc' := 30) (v := nI u) F hway (by omega) (by omega) hWk dX7_laysValues_29 rfl ?_
    refine v_iconst (pc' := 31) (v := nI 1) F dX7_laysValues_30 (by decide) rfl ?_
    refine v_callV (pc' := 34) (rt := (some .int)) (mcc := 0) (msc := 0) (As := [.int (nI u), .int (nI 1)]) (st := []) F (fun l => c_X7_of G z0 l (v := u) (w := 1) hm hrows hnow hu64 (by omega)) gX7_laysValues_X7_of rfl hv_X7_of (by decide) (by decide) hm rfl rfl rfl (Nat.le_of_ble_eq_true rfl) (by omega) (by omega) dX7_laysValues_31 rfl (fun v1 h hqo => ?_)
    rw [hr1] at hqo; obtain ⟨rfl, rfl⟩ := hqo
    refine v_iconst (pc' := 35) (v := (-1)) F dX7_laysValues_34 (by decide) rfl ?_
    refine v_icmp_ne (tgt := 44) (pc' := 38) F dX7_laysValues_35 (by decide) rfl (fun c0 => ?_) (fun c0 => ?_)
    · have e1 : pS ((D.2.2.2.2 v).drop ((D.2.2.2.2 v).length - (k + 1))) = pS ((D.2.2.2.2 v).drop ((D.2.2.2.2 v).length - k)) ++ [o.1] := by rw [hd]; exact if_neg c0
      have e2 : pC ((D.2.2.2.2 v).drop ((D.2.2.2.2 v).length - (k + 1))) = pC ((D.2.2.2.2 v).drop ((D.2.2.2.2 v).length - k)) := by rw [hd]; exact if_neg c0
      refine v_aload_n (pc' := 45) F dX7_laysValues_44 rfl (j := 3) rfl rfl ?_
      refine v_iload (pc' := 47) F dX7_laysValues_45  (j := 1) rfl rfl ?_
      refine v_aload_n (pc' := 48) F dX7_laysValues_47 rfl (j := 5) rfl rfl ?_
      refine v_aload_n (pc' := 49) F dX7_laysValues_48 rfl (j := 5) rfl rfl ?_
      refine v_getf (pc' := 52) (v := .ref way) F k_X7_laysValues_7 hm 12 (by decide) m_X7_laysValues_f22 rfl dX7_laysValues_49 rfl ?_
      refine v_iload (pc' := 54) F dX7_laysValues_52  (j := 0) rfl rfl ?_
      refine w_iald (pc' := 55) (v := nI u) F hway (by omega) (by omega) hWk dX7_laysValues_54 rfl ?_
      refine v_iconst (pc' := 56) (v := nI 1) F dX7_laysValues_55 (by decide) rfl ?_
      refine v_callV (pc' := 59) (rt := (some .int)) (mcc := 0) (msc := 0) (As := [.int (nI u), .int (nI 1)]) (st := [.int (nI ((pS ((D.2.2.2.2 v).drop ((D.2.2.2.2 v).length - k))).length)), .ref w]) F (fun l => c_X7_of G z0 l (v := u) (w := 1) hm hrows hnow hu64 (by omega)) gX7_laysValues_X7_of rfl hv_X7_of (by decide) (by decide) hm rfl rfl rfl (Nat.le_of_ble_eq_true rfl) (by omega) (by omega) dX7_laysValues_56 rfl (fun v2 h hqo => ?_)
      rw [hr1] at hqo; obtain ⟨rfl, rfl⟩ := hqo
      refine w_iast (pc' := 60) F hw (by omega) (by omega) dX7_laysValues_59 rfl (fun h3 a4 f5 => ?_)
      refine v_iinc (pc' := 63) (j := 1) (x := nI ((pS ((D.2.2.2.2 v).drop ((D.2.2.2.2 v).length - k))).length)) (v := nI (((pS ((D.2.2.2.2 v).drop ((D.2.2.2.2 v).length - k))).length) + 1)) (L' := [(4, .int (nI (((pS ((D.2.2.2.2 v).drop ((D.2.2.2.2 v).length - k))).length) + 1))), (5, .int (nI k)), (3, .int (nI (pC ((D.2.2.2.2 v).drop ((D.2.2.2.2 v).length - k))))), (2, .ref w), (1, .int (nI v)), (0, .ref m)]) F dX7_laysValues_60 rfl (nI_add ((pS ((D.2.2.2.2 v).drop ((D.2.2.2.2 v).length - k))).length) 1) (by decide) rfl rfl ?_
      refine v_iinc (pc' := 66) (j := 1) (x := nI k) (v := nI (k + 1)) (L' := [(5, .int (nI (k + 1))), (4, .int (nI (((pS ((D.2.2.2.2 v).drop ((D.2.2.2.2 v).length - k))).length) + 1))), (3, .int (nI (pC ((D.2.2.2.2 v).drop ((D.2.2.2.2 v).length - k))))), (2, .ref w), (1, .int (nI v)), (0, .ref m)]) F dX7_laysValues_63 rfl (nI_add k 1) (by decide) rfl rfl ?_
      refine v_goto (tgt := 13) F dX7_laysValues_66 (by decide) ?_
      have fr6 : gfr [w] h h3 := f5
      refine v_sub (L' := [(5, .int (nI (k + 1))), (4, .int (nI (((pS ((D.2.2.2.2 v).drop ((D.2.2.2.2 v).length - k))).length) + 1))), (3, .int (nI (pC ((D.2.2.2.2 v).drop ((D.2.2.2.2 v).length - k))))), (2, .ref w), (1, .int (nI v)), (0, .ref m)]) [0, 1, 2, 3, 4, 5] rfl ?_
      have g7 := f5 _ _ (gnc (g_neA hm hw) gn0) hm
      have g8 := f5 _ _ (gnc (g_neL hrows hw (by decide)) gn0) hrows
      have g9 := f5 _ _ (gnc hww.symm gn0) hway
      have := ih (k := k + 1) g7 g8 g9 a4 (by rw [e1]; exact fHas.snoc hf) (by omega) (fun hA fA a1 a2 a3 => K hA fA a1 a2 (gfr.t fr6 a3))
      rw [e1, e2, List.length_append, List.length_singleton] at this
      exact this
    · have e1 : pS ((D.2.2.2.2 v).drop ((D.2.2.2.2 v).length - (k + 1))) = pS ((D.2.2.2.2 v).drop ((D.2.2.2.2 v).length - k)) := by rw [hd]; exact if_pos c0
      have e2 : pC ((D.2.2.2.2 v).drop ((D.2.2.2.2 v).length - (k + 1))) = pC ((D.2.2.2.2 v).drop ((D.2.2.2.2 v).length - k)) + 1 := by rw [hd]; exact if_pos c0
      refine v_iinc (pc' := 41) (j := 2) (x := nI (pC ((D.2.2.2.2 v).drop ((D.2.2.2.2 v).length - k)))) (v := nI ((pC ((D.2.2.2.2 v).drop ((D.2.2.2.2 v).length - k))) + 1)) (L' := [(3, .int (nI ((pC ((D.2.2.2.2 v).drop ((D.2.2.2.2 v).length - k))) + 1))), (5, .int (nI k)), (4, .int (nI ((pS ((D.2.2.2.2 v).drop ((D.2.2.2.2 v).length - k))).length))), (2, .ref w), (1, .int (nI v)), (0, .ref m)]) F dX7_laysValues_38 rfl (nI_add (pC ((D.2.2.2.2 v).drop ((D.2.2.2.2 v).length - k))) 1) (by decide) rfl rfl ?_
      refine v_goto (tgt := 63) F dX7_laysValues_41 (by decide) ?_
      refine v_iinc (pc' := 66) (j := 1) (x := nI k) (v := nI (k + 1)) (L' := [(5, .int (nI (k + 1))), (3, .int (nI ((pC ((D.2.2.2.2 v).drop ((D.2.2.2.2 v).length - k))) + 1))), (4, .int (nI ((pS ((D.2.2.2.2 v).drop ((D.2.2.2.2 v).length - k))).length))), (2, .ref w), (1, .int (nI v)), (0, .ref m)]) F dX7_laysValues_63 rfl (nI_add k 1) (by decide) rfl rfl ?_
      refine v_goto (tgt := 13) F dX7_laysValues_66 (by decide) ?_
      refine v_sub (L' := [(5, .int (nI (k + 1))), (4, .int (nI ((pS ((D.2.2.2.2 v).drop ((D.2.2.2.2 v).length - k))).length))), (3, .int (nI ((pC ((D.2.2.2.2 v).drop ((D.2.2.2.2 v).length - k))) + 1))), (2, .ref w), (1, .int (nI v)), (0, .ref m)]) [0, 2, 1, 3, 4, 5] rfl ?_
      have := ih (k := k + 1) hm hrows hway hw (by rw [e1]; exact hf) (by omega) K
      rw [e1, e2] at this
      exact this
set_option maxHeartbeats 4000000 in
set_option maxRecDepth 100000 in
theorem lpB_X7_laysValues {G : gG} {z0 : Nat} {X : gX} {l : Launch} {post : Option Value → gH → Prop} {mc ms cells slots j k N c v w m : Nat} {h : gH} {f P : Nat → Int32} (F : gF G z0 X cX7_laysValues 6 RX7 wsX7_laysValues (some .int) "laysValues" 3 66 mc ms) (E : gE G z0 X post mc ms) (hcc : cells ≤ mc) (hss : slots ≤ ms) (hw : h w = some (oI G 64 f)) (hN : N ≤ 64) (hf : ∀ i, i < k - c → f i = P (c + i)) (hg : ∀ i, k ≤ i → i < N → f i = P i) (hck : c ≤ k) (hkj : k + j = N) (hp : ∀ (h' : gH) (f' : Nat → Int32), h' w = some (oI G 64 f') → (∀ i, i < N - c → f' i = P (c + i)) → gfr [w] h h' → post (some (.int (nI (N - c)))) h') : gV G z0 X cells slots h 72 [(5, .int (nI k)), (4, .int (nI N)), (3, .int (nI c)), (2, .ref w), (1, .int (nI v)), (0, .ref m)] [] := by
  induction j generalizing k f h with
  | zero =>
    refine v_iload (pc' := 74) F dX7_laysValues_72  (j := 0) rfl rfl ?_
    refine v_iload (pc' := 76) F dX7_laysValues_74  (j := 1) rfl rfl ?_
    refine w_icmp_ge (tgt := 95) (pc' := 79) F (by omega) (by omega) dX7_laysValues_76 (by decide) rfl (fun _ => ?_) (fun c0 => absurd c0 (by omega))
    obtain rfl : k = N := by omega
    refine v_iload (pc' := 97) F dX7_laysValues_95  (j := 1) rfl rfl ?_
    refine v_iload_n (pc' := 98) F dX7_laysValues_97 rfl (j := 2) rfl rfl ?_
    refine v_isub (pc' := 99) (v := nI (k - c)) F dX7_laysValues_98 (g_subn (by omega) (by omega)) rfl ?_
    exact v_iret F E (by omega) (by omega)  dX7_laysValues_99 (hp _ _ hw hf gfr.rf)
  | succ j ih =>
    refine v_iload (pc' := 74) F dX7_laysValues_72  (j := 0) rfl rfl ?_
    refine v_iload (pc' := 76) F dX7_laysValues_74  (j := 1) rfl rfl ?_
    refine w_icmp_ge (tgt := 95) (pc' := 79) F (by omega) (by omega) dX7_laysValues_76 (by decide) rfl (fun c0 => absurd c0 (by omega)) (fun _ => ?_)
    refine v_aload_n (pc' := 80) F dX7_laysValues_79 rfl (j := 3) rfl rfl ?_
    refine v_iload (pc' := 82) F dX7_laysValues_80  (j := 0) rfl rfl ?_
    refine v_iload_n (pc' := 83) F dX7_laysValues_82 rfl (j := 2) rfl rfl ?_
    refine v_isub (pc' := 84) (v := nI (k - c)) F dX7_laysValues_83 (g_subn (by omega) (by omega)) rfl ?_
    refine v_aload_n (pc' := 85) F dX7_laysValues_84 rfl (j := 3) rfl rfl ?_
    refine v_iload (pc' := 87) F dX7_laysValues_85  (j := 0) rfl rfl ?_
    refine w_iald (pc' := 88) (v := f k) F hw (by omega) (by omega) rfl dX7_laysValues_87 rfl ?_
    refine w_iast (pc' := 89) F hw (by omega) (by omega) dX7_laysValues_88 rfl (fun h1 a2 f3 => ?_)
    refine v_iinc (pc' := 92) (j := 0) (x := nI k) (v := nI (k + 1)) (L' := [(5, .int (nI (k + 1))), (4, .int (nI N)), (3, .int (nI c)), (2, .ref w), (1, .int (nI v)), (0, .ref m)]) F dX7_laysValues_89 rfl (nI_add k 1) (by decide) rfl rfl ?_
    refine v_goto (tgt := 72) F dX7_laysValues_92 (by decide) ?_
    have fr4 : gfr [w] h h1 := f3
    refine v_sub (L' := [(5, .int (nI (k + 1))), (4, .int (nI N)), (3, .int (nI c)), (2, .ref w), (1, .int (nI v)), (0, .ref m)]) [0, 1, 2, 3, 4, 5] rfl ?_
    refine ih (k := k + 1) a2 (fun j hj => ?_) (fun j h1 h2 => ?_) (by omega) (by omega) (fun hA fA a1 a2 a3 => hp hA fA a1 a2 (gfr.t fr4 a3))
    · by_cases e : j = k - c
      · rw [e, upd_eq, hg k (Nat.le_refl _) (by omega)]; congr 1; omega
      · rw [upd_ne e]; exact hf j (by omega)
    · rw [upd_ne (by omega)]; exact hg j (by omega) h2
set_option maxHeartbeats 4000000 in
set_option maxRecDepth 100000 in
theorem c_X7_laysValues (G : gG) (z0 : Nat) (l : Launch) {h : gH} {m rows asd now vals many way told oth lst text : Nat} {th und fl rl kd ok st wm fed len spot fa fat num frm may : Int32} {w : Nat} {R W f : Nat → Int32} {D : Dt} {v : Nat} (hm : h m = some (.inr (7, [.int th, .ref rows, .ref asd, .int (nI now), .int und, .ref vals, .ref many, .int fl, .int rl, .int kd, .int ok, .int st, .ref way, .int wm, .ref told, .ref oth, .ref lst, .ref text, .int fed, .int len, .int spot, .int fa, .int fat, .int num, .int frm, .int may]))) (hrows : h rows = some (oI G 2970 R)) (hnow : now < 9) (hway : h way = some (oI G 64 W)) (hw : h w = some (oI G 64 f)) (hww : w ≠ way) (w9 : wfD D) (hS : slD R (330 * now) D) (hv : v < D.1) : gC G z0 l yX7_laysValues wsX7_laysValues 3 66 [.ref m, .int (nI v), .ref w] h (fun o h' => o = some (.int (nI (wVals (D.2.2.2.2 v)).length)) ∧ h' m = some (.inr (7, [.int th, .ref rows, .ref asd, .int (nI now), .int und, .ref vals, .ref many, .int fl, .int rl, .int kd, .int ok, .int st, .ref way, .int (nI ((D.2.2.2.2 v).length)), .ref told, .ref oth, .ref lst, .ref text, .int fed, .int len, .int spot, .int fa, .int fat, .int num, .int frm, .int may])) ∧ ∃ f', h' w = some (oI G 64 f') ∧ fHas f' 0 (wVals (D.2.2.2.2 v)) ∧ ∃ W', h' way = some (oI G 64 W') ∧ (∀ j, j < (D.2.2.2.2 v).length → wG D v j (W' j)) ∧ gfr [m, way, w] h h') 0 0 := by
  have hlen := (w9.os hv).2
  obtain ⟨z1, z2, z3⟩ := pS_w (w9.os hv).1
  refine gC_of (cc := cX7_laysValues) (nL := 6) (ret := (some .int)) (by decide) rfl (Nat.le_of_ble_eq_true rfl) ?_
  intro X F E _
  change gF G z0 X cX7_laysValues 6 RX7 wsX7_laysValues (some .int) "laysValues" 3 66 _ _ at F
  show gV G z0 X 0 0 h 0 [(0, .ref m), (1, .int (nI v)), (2, .ref w)] []
  refine v_aload_n (pc' := 1) F dX7_laysValues_0 rfl (j := 0) rfl rfl ?_
  refine v_iload_n (pc' := 2) F dX7_laysValues_1 rfl (j := 1) rfl rfl ?_
  refine v_callV (pc' := 5) (rt := none) (mcc := 0) (msc := 0) (As := [.int (nI v)]) (st := []) F (fun l => c_X7_laysWay G z0 l hm hrows hnow hway w9 hS.p hv) gX7_laysValues_X7_laysWay rfl hv_X7_laysWay (by decide) (by decide) hm rfl rfl rfl (Nat.le_of_ble_eq_true rfl) (by omega) (by omega) dX7_laysValues_2 rfl (fun v2 h1 hq => ?_)
  obtain ⟨rfl, hmA, W9, hwA, hWA, fA⟩ := hq
  refine v_iconst (pc' := 6) (v := nI 0) F dX7_laysValues_5 (by decide) rfl ?_
  refine v_istore_n (pc' := 7) (i := 3) (L' := [(3, .int (nI 0)), (0, .ref m), (1, .int (nI v)), (2, .ref w)]) F dX7_laysValues_6 rfl (by decide) rfl rfl ?_
  refine v_iconst (pc' := 8) (v := nI 0) F dX7_laysValues_7 (by decide) rfl ?_
  refine v_istore (pc' := 10) (i := 4) (L' := [(4, .int (nI 0)), (3, .int (nI 0)), (0, .ref m), (1, .int (nI v)), (2, .ref w)]) F dX7_laysValues_8  (by decide) rfl rfl ?_
  refine v_iconst (pc' := 11) (v := nI 0) F dX7_laysValues_10 (by decide) rfl ?_
  refine v_istore (pc' := 13) (i := 5) (L' := [(5, .int (nI 0)), (4, .int (nI 0)), (3, .int (nI 0)), (0, .ref m), (1, .int (nI v)), (2, .ref w)]) F dX7_laysValues_11  (by decide) rfl rfl ?_
  refine v_sub (L' := [(5, .int (nI 0)), (4, .int (nI 0)), (3, .int (nI 0)), (2, .ref w), (1, .int (nI v)), (0, .ref m)]) [0, 1, 2, 5, 4, 3] rfl ?_
  have fr3 : gfr [m, way, w] h h1 := (gfr.mono fA (by intro q9 z9 m9; apply z9; simp only [List.mem_cons, List.not_mem_nil, or_false] at m9 ⊢; omega))
  have e0 : (D.2.2.2.2 v).drop ((D.2.2.2.2 v).length - 0) = [] := by rw [Nat.sub_zero, List.drop_length]
  have hz1 : (pS ((D.2.2.2.2 v).drop ((D.2.2.2.2 v).length - 0))).length = 0 := by rw [e0]; rfl
  have hz2 : pC ((D.2.2.2.2 v).drop ((D.2.2.2.2 v).length - 0)) = 0 := by rw [e0]; rfl
  suffices hA : gV G z0 X 0 0 h1 13 [(5, .int (nI 0)), (4, .int (nI ((pS ((D.2.2.2.2 v).drop ((D.2.2.2.2 v).length - 0))).length))), (3, .int (nI (pC ((D.2.2.2.2 v).drop ((D.2.2.2.2 v).length - 0))))), (2, .ref w), (1, .int (nI v)), (0, .ref m)] [] by rw [hz1, hz2] at hA; exact hA
  have g4 := fA _ _ (gnc (Ne.symm (g_neA hm hrows)) (gnc (g_neL hrows hway (by decide)) gn0)) hrows
  have g5 := fA _ _ (gnc (Ne.symm (g_neA hm hw)) (gnc hww gn0)) hw
  refine lpA_X7_laysValues (l := l) (k := 0) (j := (D.2.2.2.2 v).length) F (by omega) (by omega) hmA g4 hnow hwA g5 hww w9 hS hlen hWA (by rw [e0]; exact fun j hj => absurd hj (by simp [pS])) (by omega) (fun hA fA a1 a2 a3 => ?_)
  show gV G z0 X 0 0 hA 69 [(5, .int (nI ((D.2.2.2.2 v).length))), (4, .int (nI ((pS (D.2.2.2.2 v)).length))), (3, .int (nI (pC (D.2.2.2.2 v)))), (2, .ref w), (1, .int (nI v)), (0, .ref m)] []
  refine v_iload_n (pc' := 70) F dX7_laysValues_69 rfl (j := 2) rfl rfl ?_
  refine v_istore (pc' := 72) (i := 5) (L' := [(5, .int (nI (pC (D.2.2.2.2 v)))), (4, .int (nI ((pS (D.2.2.2.2 v)).length))), (3, .int (nI (pC (D.2.2.2.2 v)))), (2, .ref w), (1, .int (nI v)), (0, .ref m)]) F dX7_laysValues_70  (by decide) rfl rfl ?_
  refine v_sub (L' := [(5, .int (nI (pC (D.2.2.2.2 v)))), (4, .int (nI ((pS (D.2.2.2.2 v)).length))), (3, .int (nI (pC (D.2.2.2.2 v)))), (2, .ref w), (1, .int (nI v)), (0, .ref m)]) [0, 1, 2, 3, 4, 5] rfl ?_
  refine lpB_X7_laysValues (l := l) (P := fun i => (pS (D.2.2.2.2 v)).getD i 0) (j := (pS (D.2.2.2.2 v)).length - pC (D.2.2.2.2 v)) F E (by omega) (by omega) a1 (by omega) (fun i hi => absurd hi (by omega)) (fun i h1 h2 => by have := a2 i h2; rwa [Nat.zero_add] at this) (Nat.le_refl _) (by omega) (fun hB fB b1 b2 b3 => ?_)
  have hln : (wVals (D.2.2.2.2 v)).length = (pS (D.2.2.2.2 v)).length - pC (D.2.2.2.2 v) := by rw [z2, List.length_drop]
  have hmw : m ≠ w := g_neA hmA g5
  refine ⟨by rw [hln], b3 _ _ (gnc hmw gn0) (a3 _ _ (gnc hmw gn0) hmA), fB, b1, fun i hi => ?_, ?_⟩
  · rw [hln] at hi
    rw [Nat.zero_add, b2 i hi, z2, List.getD_eq_getElem?_getD, List.getD_eq_getElem?_getD, List.getElem?_drop]
  · refine ⟨W9, b3 _ _ (gnc hww.symm gn0) (a3 _ _ (gnc hww.symm gn0) hwA), hWA, gfr.t fr3 (gfr.mono (gfr.t a3 b3) (by intro q9 z9 m9; apply z9; simp only [List.mem_cons, List.not_mem_nil, or_false] at m9 ⊢; omega))⟩
theorem k_X7_length_7 : gCl wsX7_length 7 RX7 TX7 26 := ⟨by decide +kernel, rfl⟩
theorem m_X7_length_f25 : Cond.fieldLink RX7 25 "SteadyQueuesModel" "told" "[I" ∈ wsX7_length := by decide +kernel
theorem hv_X7_laysValues : yX7_laysValues.cls = RX7 ∧ yX7_laysValues.cls ≠ "java/lang/invoke/MethodHandle" ∧ yX7_laysValues.cls ≠ "java/lang/invoke/VarHandle" ∧ (parseMethodDescriptor yX7_laysValues.desc).map (fun d => d.parameters.length) = some 2 := by decide +kernel
set_option maxHeartbeats 4000000 in
set_option maxRecDepth 100000 in
theorem c_X7_length (G : gG) (z0 : Nat) (l : Launch) {h : gH} {m rows asd now vals many way told oth lst text : Nat} {th und fl rl kd ok st wm fed len spot fa fat num frm may : Int32} {R W f : Nat → Int32} {D : Dt} {v : Nat} (hm : h m = some (.inr (7, [.int th, .ref rows, .ref asd, .int (nI now), .int und, .ref vals, .ref many, .int fl, .int rl, .int kd, .int ok, .int st, .ref way, .int wm, .ref told, .ref oth, .ref lst, .ref text, .int fed, .int len, .int spot, .int fa, .int fat, .int num, .int frm, .int may]))) (hrows : h rows = some (oI G 2970 R)) (hnow : now < 9) (hway : h way = some (oI G 64 W)) (htold : h told = some (oI G 64 f)) (htw : told ≠ way) (w9 : wfD D) (hS : slD R (330 * now) D) (hv : v < D.1) : gC G z0 l yX7_length wsX7_length 4 91 [.ref m, .int (nI v)] h (fun o h' => o = some (.int (nI (wVals (D.2.2.2.2 v)).length)) ∧ h' m = some (.inr (7, [.int th, .ref rows, .ref asd, .int (nI now), .int und, .ref vals, .ref many, .int fl, .int rl, .int kd, .int ok, .int st, .ref way, .int (nI ((D.2.2.2.2 v).length)), .ref told, .ref oth, .ref lst, .ref text, .int fed, .int len, .int spot, .int fa, .int fat, .int num, .int frm, .int may])) ∧ ∃ f', h' told = some (oI G 64 f') ∧ fHas f' 0 (wVals (D.2.2.2.2 v)) ∧ ∃ W', h' way = some (oI G 64 W') ∧ (∀ j, j < (D.2.2.2.2 v).length → wG D v j (W' j)) ∧ gfr [m, way, told] h h') 0 0 := by
  refine gC_of (cc := cX7_length) (nL := 2) (ret := (some .int)) (by decide) rfl (Nat.le_of_ble_eq_true rfl) ?_
  intro X F E _
  change gF G z0 X cX7_length 2 RX7 wsX7_length (some .int) "length" 4 91 _ _ at F
  show gV G z0 X 0 0 h 0 [(0, .ref m), (1, .int (nI v))] []
  refine v_aload_n (pc' := 1) F dX7_length_0 rfl (j := 0) rfl rfl ?_
  refine v_iload_n (pc' := 2) F dX7_length_1 rfl (j := 1) rfl rfl ?_
  refine v_aload_n (pc' := 3) F dX7_length_2 rfl (j := 0) rfl rfl ?_
  refine v_getf (pc' := 6) (v := .ref told) F k_X7_length_7 hm 14 (by decide) m_X7_length_f25 rfl dX7_length_3 rfl ?_
  refine v_callV (pc' := 9) (rt := (some .int)) (mcc := 0) (msc := 0) (As := [.int (nI v), .ref told]) (st := []) F (fun l => c_X7_laysValues G z0 l hm hrows hnow hway htold htw w9 hS hv) gX7_length_X7_laysValues rfl hv_X7_laysValues (by decide) (by decide) hm rfl rfl rfl (Nat.le_of_ble_eq_true rfl) (by omega) (by omega) dX7_length_6 rfl (fun v2 h1 hq => ?_)
  obtain ⟨rfl, hres⟩ := hq
  exact v_iret F E (by omega) (by omega)  dX7_length_9 ⟨rfl, hres⟩
