/-! THE REFERENCE reads a text -/
def rdT (G : gG) (h : gH) (m rows asd vals many way told oth lst text : Nat) (th : Int32) (now : Nat) (und fed fat : Int32) (R : Nat → Int32) (t : Nat → Nat) (ln lo : Nat) (r : PR) (v : Option Value) : Prop := match r with
  | .inl e => v = some (.int (nI 0)) ∧ ∃ (sp nu fr my : Int32) (R2 : Nat → Int32), mS G h m rows asd vals many way told oth lst text th now und fed (nI ln) sp e.1 (nI e.2.1) nu fr my R2 ∧ (∀ q, (q < 330 * now ∨ 330 * now + 330 ≤ q) → R2 q = R q)
  | .inr q => v = some (.int (nI 1)) ∧ ∃ (a : Nat) (nu fr : Int32) (R2 : Nat → Int32), mS G h m rows asd vals many way told oth lst text th now und fed (nI ln) (nI a) (nI 0) fat nu fr (nI 0) R2 ∧ (∀ q, (q < 330 * now ∨ 330 * now + 330 ≤ q) → R2 q = R q) ∧ lo ≤ a ∧ a ≤ ln ∧ sk t ln a = q.1 ∧ wfD q.2 ∧ slD R2 (330 * now) q.2
theorem rdT_e {G : gG} {h : gH} {m rows asd vals many way told oth lst text now : Nat} {th und fed fat sp nu fr my : Int32} {R R2 : Nat → Int32} {t : Nat → Nat} {ln lo : Nat} {e : Int32 × Nat × Nat} {v : Option Value} (h1 : v = some (.int (nI 0))) (h2 : mS G h m rows asd vals many way told oth lst text th now und fed (nI ln) sp e.1 (nI e.2.1) nu fr my R2) (h3 : (∀ q, (q < 330 * now ∨ 330 * now + 330 ≤ q) → R2 q = R q)) : rdT G h m rows asd vals many way told oth lst text th now und fed fat R t ln lo (.inl e) v := by
  unfold rdT
  exact ⟨h1, sp, nu, fr, my, R2, h2, h3⟩
theorem rdT_k {G : gG} {h : gH} {m rows asd vals many way told oth lst text now : Nat} {th und fed fat nu fr : Int32} {R R2 : Nat → Int32} {t : Nat → Nat} {ln lo a : Nat} {q : Nat × Dt} {v : Option Value} (h1 : v = some (.int (nI 1))) (h2 : mS G h m rows asd vals many way told oth lst text th now und fed (nI ln) (nI a) (nI 0) fat nu fr (nI 0) R2) (h3 : (∀ q, (q < 330 * now ∨ 330 * now + 330 ≤ q) → R2 q = R q)) (h4 : lo ≤ a) (h5 : a ≤ ln) (h6 : sk t ln a = q.1) (h7 : wfD q.2) (h8 : slD R2 (330 * now) q.2) : rdT G h m rows asd vals many way told oth lst text th now und fed fat R t ln lo (.inr q) v := by
  unfold rdT
  exact ⟨h1, a, nu, fr, R2, h2, h3, h4, h5, h6, h7, h8⟩
theorem pNum_2 {t : Nat → Nat} {len s lo hi n : Nat} (h : ¬ kdT t len s = 2) : pNum t len s lo hi n = some (-2, s, n) := by
  unfold pNum
  rw [if_pos h]
theorem pNum_3 {t : Nat → Nat} {len s lo hi n : Nat} (h : kdT t len s = 2) (h2 : ¬ (lo ≤ vl t len s ∧ vl t len s ≤ hi)) : pNum t len s lo hi n = some (-3, s, n) := by
  unfold pNum
  rw [if_neg (fun z => z h), if_neg h2]
theorem pNum_0 {t : Nat → Nat} {len s lo hi n : Nat} (h : kdT t len s = 2) (h2 : lo ≤ vl t len s ∧ vl t len s ≤ hi) : pNum t len s lo hi n = none := by
  unfold pNum
  rw [if_neg (fun z => z h), if_pos h2]
theorem k_X7_readsPace_7 : gCl wsX7_readsPace 7 RX7 TX7 26 := ⟨by decide +kernel, rfl⟩
theorem m_X7_readsPace_f180 : Cond.fieldLink RX7 180 "SteadyQueuesModel" "mayPace" "Z" ∈ wsX7_readsPace := by decide +kernel
theorem hv_X7_reads : yX7_reads.cls = RX7 ∧ yX7_reads.cls ≠ "java/lang/invoke/MethodHandle" ∧ yX7_reads.cls ≠ "java/lang/invoke/VarHandle" ∧ (parseMethodDescriptor yX7_reads.desc).map (fun d => d.parameters.length) = some 2 := by decide +kernel
theorem m_X7_readsPace_f176 : Cond.fieldLink RX7 176 "SteadyQueuesModel" "number" "I" ∈ wsX7_readsPace := by decide +kernel
set_option maxHeartbeats 4000000 in
set_option maxRecDepth 100000 in
theorem c_X7_readsPace (G : gG) (z0 : Nat) (l : Launch) {h : gH} {m rows asd vals many way told oth lst text now : Nat} {th und fed fat num frm : Int32} {R : Nat → Int32} {D : Dt} {T : Nat → Int32} {t : Nat → Nat} {a ln : Nat} {b0 : Nat} (hMS : mS G h m rows asd vals many way told oth lst text th now und fed (nI ln) (nI a) (nI 0) fat num frm (nI 1) R) (hnow : now < 9) (w9 : wfD D) (hS : slD R (330 * now) D) (htext : h text = some (oI G 500 T)) (ht : ∀ j, j < ln → T j = nI (t j) ∧ t j < 256) (hln : ln ≤ 500) (ha : a ≤ ln) : gC G z0 l yX7_readsPace wsX7_readsPace 2 44 [.ref m, .int (nI b0)] h (fun v h' => rdT G h' m rows asd vals many way told oth lst text th now und fed fat R t ln a (match pNum t ln (sk t ln a) 2 4 D.1 with | some e => .inl e | none => .inr (nxT t ln (sk t ln a), dPace D (vl t ln (sk t ln a)))) v ∧ gfr [rows, m, vals, many, way, told, oth, lst] h h') 0 0 := by
  have hsb := sk_b t ha
  have h1n := w9.1
  have hn64 := w9.2.1
  obtain ⟨fl, rl, kd, ok, st, wm, hm, hrows, ⟨V, hvals⟩, ⟨M, hmany⟩, ⟨W, hway⟩, ⟨f, htold⟩, ⟨g, hoth⟩, ⟨ll, hlst⟩, htw, how, hto⟩ := hMS
  refine gC_of (cc := cX7_readsPace) (nL := 2) (ret := (some .boolean)) (by decide) rfl (Nat.le_of_ble_eq_true rfl) ?_
  intro X F E _
  change gF G z0 X cX7_readsPace 2 RX7 wsX7_readsPace (some .boolean) "readsPace" 2 44 _ _ at F
  show gV G z0 X 0 0 h 0 [(0, .ref m), (1, .int (nI b0))] []
  refine v_aload_n (pc' := 1) F dX7_readsPace_0 rfl (j := 0) rfl rfl ?_
  refine v_getf (pc' := 4) (v := .int (nI 1)) F k_X7_readsPace_7 hm 25 (by decide) m_X7_readsPace_f180 rfl dX7_readsPace_1 rfl ?_
  refine w_if_ne (tgt := 15) (pc' := 7) F (by omega) dX7_readsPace_4 (by decide) rfl (fun _ => ?_) (fun c0 => absurd c0 (by omega))
  refine v_aload_n (pc' := 16) F dX7_readsPace_15 rfl (j := 0) rfl rfl ?_
  refine v_iconst (pc' := 17) (v := nI 0) F dX7_readsPace_16 (by decide) rfl ?_
  refine w_putf (pc' := 20) F k_X7_readsPace_7 tyX7_ok nmX7 hm 25 (by decide) m_X7_readsPace_f180 rfl  (by decide) rfl (show 25 < 26 by decide) [.int th, .ref rows, .ref asd, .int (nI now), .int und, .ref vals, .ref many, .int fl, .int rl, .int kd, .int ok, .int st, .ref way, .int wm, .ref told, .ref oth, .ref lst, .ref text, .int fed, .int (nI ln), .int (nI a), .int (nI 0), .int fat, .int num, .int frm, .int (nI 0)] rfl dX7_readsPace_17 rfl (fun h1 a2 f3 => ?_)
  refine v_aload_n (pc' := 21) F dX7_readsPace_20 rfl (j := 0) rfl rfl ?_
  refine v_iconst (pc' := 22) (v := nI 2) F dX7_readsPace_21 (by decide) rfl ?_
  refine v_iconst (pc' := 23) (v := nI 4) F dX7_readsPace_22 (by decide) rfl ?_
  by_cases hkA : kdT t ln (sk t ln a) = 2
  · skip
    by_cases hlA : 2 ≤ vl t ln (sk t ln a) ∧ vl t ln (sk t ln a) ≤ 4
    · skip
      have g4 := f3 _ _ (gnc (Ne.symm (g_neA hm htext)) gn0) htext
      refine v_callV (pc' := 26) (rt := (some .boolean)) (mcc := 0) (msc := 0) (As := [.int (nI 2), .int (nI 4)]) (st := []) F (fun l => c_X7_reads G z0 l (a := a) (lo := 2) (hi := 4) a2 g4 ht hln (by omega) (by omega) (by omega) hkA hlA) gX7_readsPace_X7_reads rfl hv_X7_reads (by decide) (by decide) a2 rfl rfl rfl (Nat.le_of_ble_eq_true rfl) (by omega) (by omega) dX7_readsPace_23 rfl (fun v6 h5 hqr => ?_)
      obtain ⟨rfl, hmA, frA⟩ := hqr
      refine w_if_ne (tgt := 31) (pc' := 29) F (by omega) dX7_readsPace_26 (by decide) rfl (fun _ => ?_) (fun c0 => absurd c0 (by omega))
      refine v_aload_n (pc' := 32) F dX7_readsPace_31 rfl (j := 0) rfl rfl ?_
      refine v_iconst (pc' := 33) (v := nI 1) F dX7_readsPace_32 (by decide) rfl ?_
      refine v_aload_n (pc' := 34) F dX7_readsPace_33 rfl (j := 0) rfl rfl ?_
      refine v_getf (pc' := 37) (v := .int (nI (vl t ln (sk t ln a)))) F k_X7_readsPace_7 hmA 23 (by decide) m_X7_readsPace_f176 rfl dX7_readsPace_34 rfl ?_
      have heb := enT_b t hsb.2
      have g7 := f3 _ _ (gnc (Ne.symm (g_neA hm hrows)) gn0) hrows
      have g8 := frA _ _ (gnc (Ne.symm (g_neA a2 g7)) gn0) g7
      refine v_callV (pc' := 40) (rt := none) (mcc := 0) (msc := 0) (As := [.int (nI 1), .int (nI (vl t ln (sk t ln a)))]) (st := []) F (fun l => c_X7_put G z0 l (k := 1) (nI (vl t ln (sk t ln a))) hmA g8 hnow (by omega)) gX7_readsPace_X7_put rfl hv_X7_put (by decide) (by decide) hmA rfl rfl rfl (Nat.le_of_ble_eq_true rfl) (by omega) (by omega) dX7_readsPace_37 rfl (fun v10 h9 hqw => ?_)
      obtain ⟨rfl, rR1, frR1⟩ := hqw
      have eR1 : ∀ q, q ≠ 330 * now + 1 → upd R (330 * now + 1) (nI (vl t ln (sk t ln a))) q = R q := fun q hq => upd_ne hq
      have fR1 : upd R (330 * now + 1) (nI (vl t ln (sk t ln a))) (330 * now + 1) = (nI (vl t ln (sk t ln a))) := upd_eq _ _ _
      generalize upd R (330 * now + 1) (nI (vl t ln (sk t ln a))) = R1 at rR1 eR1 fR1
      refine v_iconst (pc' := 41) (v := nI 1) F dX7_readsPace_40 (by decide) rfl ?_
      have fr11 : gfr [rows, m, vals, many, way, told, oth, lst] h h9 := (gfr.t (gfr.mono f3 (by intro q9 z9 m9; apply z9; simp only [List.mem_cons, List.not_mem_nil, or_false] at m9 ⊢; omega)) (gfr.t (gfr.mono frA (by intro q9 z9 m9; apply z9; simp only [List.mem_cons, List.not_mem_nil, or_false] at m9 ⊢; omega)) (gfr.mono frR1 (by intro q9 z9 m9; apply z9; simp only [List.mem_cons, List.not_mem_nil, or_false] at m9 ⊢; omega))))
      have g12 := frR1 _ _ (gnc (g_neA hmA g8) gn0) hmA
      have g13 := f3 _ _ (gnc (Ne.symm (g_neA hm hvals)) gn0) hvals
      have g14 := frA _ _ (gnc (Ne.symm (g_neA a2 g13)) gn0) g13
      have g15 := frR1 _ _ (gnc (g_neL g14 g8 (by decide)) gn0) g14
      have g16 := f3 _ _ (gnc (Ne.symm (g_neA hm hmany)) gn0) hmany
      have g17 := frA _ _ (gnc (Ne.symm (g_neA a2 g16)) gn0) g16
      have g18 := frR1 _ _ (gnc (g_neL g17 g8 (by decide)) gn0) g17
      have g19 := f3 _ _ (gnc (Ne.symm (g_neA hm hway)) gn0) hway
      have g20 := frA _ _ (gnc (Ne.symm (g_neA a2 g19)) gn0) g19
      have g21 := frR1 _ _ (gnc (g_neL g20 g8 (by decide)) gn0) g20
      have g22 := f3 _ _ (gnc (Ne.symm (g_neA hm htold)) gn0) htold
      have g23 := frA _ _ (gnc (Ne.symm (g_neA a2 g22)) gn0) g22
      have g24 := frR1 _ _ (gnc (g_neL g23 g8 (by decide)) gn0) g23
      have g25 := f3 _ _ (gnc (Ne.symm (g_neA hm hoth)) gn0) hoth
      have g26 := frA _ _ (gnc (Ne.symm (g_neA a2 g25)) gn0) g25
      have g27 := frR1 _ _ (gnc (g_neL g26 g8 (by decide)) gn0) g26
      have g28 := f3 _ _ (gnc (Ne.symm (g_neA hm hlst)) gn0) hlst
      have g29 := frA _ _ (gnc (Ne.symm (g_neA a2 g28)) gn0) g28
      have g30 := frR1 _ _ (gnc (g_neL g29 g8 (by decide)) gn0) g29
      refine v_zret F E (by omega) (by omega) (by decide) dX7_readsPace_41 ?_
      exact ⟨by rw [pNum_0 hkA hlA]; exact rdT_k (q := (_, _)) rfl ⟨_, _, _, _, _, _, g12, rR1, ⟨_, g15⟩, ⟨_, g18⟩, ⟨_, g21⟩, ⟨_, g24⟩, ⟨_, g27⟩, ⟨_, g30⟩, htw, how, hto⟩ (fun q hq => eR1 q (by omega)) (by omega) (by omega) rfl (w9.pace hlA.1 hlA.2) (slD.pace hS fR1 eR1), fr11⟩
    · skip
      have g31 := f3 _ _ (gnc (Ne.symm (g_neA hm htext)) gn0) htext
      refine v_callV (pc' := 26) (rt := (some .boolean)) (mcc := 0) (msc := 0) (As := [.int (nI 2), .int (nI 4)]) (st := []) F (fun l => n3_X7_reads G z0 l (a := a) (lo := 2) (hi := 4) a2 g31 ht hln (by omega) (by omega) (by omega) hkA hlA) gX7_readsPace_X7_reads rfl hv_X7_reads (by decide) (by decide) a2 rfl rfl rfl (Nat.le_of_ble_eq_true rfl) (by omega) (by omega) dX7_readsPace_23 rfl (fun v33 h32 hqr => ?_)
      obtain ⟨rfl, sp9, nu9, fr9, hmA, frA⟩ := hqr
      refine w_if_ne (tgt := 31) (pc' := 29) F (by omega) dX7_readsPace_26 (by decide) rfl (fun c0 => absurd c0 (by omega)) (fun _ => ?_)
      refine v_iconst (pc' := 30) (v := nI 0) F dX7_readsPace_29 (by decide) rfl ?_
      have fr34 : gfr [rows, m, vals, many, way, told, oth, lst] h h32 := (gfr.t (gfr.mono f3 (by intro q9 z9 m9; apply z9; simp only [List.mem_cons, List.not_mem_nil, or_false] at m9 ⊢; omega)) (gfr.mono frA (by intro q9 z9 m9; apply z9; simp only [List.mem_cons, List.not_mem_nil, or_false] at m9 ⊢; omega)))
      have g35 := f3 _ _ (gnc (Ne.symm (g_neA hm hrows)) gn0) hrows
      have g36 := frA _ _ (gnc (Ne.symm (g_neA a2 g35)) gn0) g35
      have g37 := f3 _ _ (gnc (Ne.symm (g_neA hm hvals)) gn0) hvals
      have g38 := frA _ _ (gnc (Ne.symm (g_neA a2 g37)) gn0) g37
      have g39 := f3 _ _ (gnc (Ne.symm (g_neA hm hmany)) gn0) hmany
      have g40 := frA _ _ (gnc (Ne.symm (g_neA a2 g39)) gn0) g39
      have g41 := f3 _ _ (gnc (Ne.symm (g_neA hm hway)) gn0) hway
      have g42 := frA _ _ (gnc (Ne.symm (g_neA a2 g41)) gn0) g41
      have g43 := f3 _ _ (gnc (Ne.symm (g_neA hm htold)) gn0) htold
      have g44 := frA _ _ (gnc (Ne.symm (g_neA a2 g43)) gn0) g43
      have g45 := f3 _ _ (gnc (Ne.symm (g_neA hm hoth)) gn0) hoth
      have g46 := frA _ _ (gnc (Ne.symm (g_neA a2 g45)) gn0) g45
      have g47 := f3 _ _ (gnc (Ne.symm (g_neA hm hlst)) gn0) hlst
      have g48 := frA _ _ (gnc (Ne.symm (g_neA a2 g47)) gn0) g47
      refine v_zret F E (by omega) (by omega) (by decide) dX7_readsPace_30 ?_
      exact ⟨by rw [pNum_3 hkA hlA]; exact (rdT_e (R2 := R) rfl ⟨_, _, _, _, _, _, hmA, g36, ⟨_, g38⟩, ⟨_, g40⟩, ⟨_, g42⟩, ⟨_, g44⟩, ⟨_, g46⟩, ⟨_, g48⟩, htw, how, hto⟩ fun q hq => rfl), fr34⟩
  · skip
    have g49 := f3 _ _ (gnc (Ne.symm (g_neA hm htext)) gn0) htext
    refine v_callV (pc' := 26) (rt := (some .boolean)) (mcc := 0) (msc := 0) (As := [.int (nI 2), .int (nI 4)]) (st := []) F (fun l => n2_X7_reads G z0 l (a := a) (lo := 2) (hi := 4) a2 g49 ht hln (by omega) hkA) gX7_readsPace_X7_reads rfl hv_X7_reads (by decide) (by decide) a2 rfl rfl rfl (Nat.le_of_ble_eq_true rfl) (by omega) (by omega) dX7_readsPace_23 rfl (fun v51 h50 hqr => ?_)
    obtain ⟨rfl, sp9, nu9, fr9, hmA, frA⟩ := hqr
    refine w_if_ne (tgt := 31) (pc' := 29) F (by omega) dX7_readsPace_26 (by decide) rfl (fun c0 => absurd c0 (by omega)) (fun _ => ?_)
    refine v_iconst (pc' := 30) (v := nI 0) F dX7_readsPace_29 (by decide) rfl ?_
    have fr52 : gfr [rows, m, vals, many, way, told, oth, lst] h h50 := (gfr.t (gfr.mono f3 (by intro q9 z9 m9; apply z9; simp only [List.mem_cons, List.not_mem_nil, or_false] at m9 ⊢; omega)) (gfr.mono frA (by intro q9 z9 m9; apply z9; simp only [List.mem_cons, List.not_mem_nil, or_false] at m9 ⊢; omega)))
    have g53 := f3 _ _ (gnc (Ne.symm (g_neA hm hrows)) gn0) hrows
    have g54 := frA _ _ (gnc (Ne.symm (g_neA a2 g53)) gn0) g53
    have g55 := f3 _ _ (gnc (Ne.symm (g_neA hm hvals)) gn0) hvals
    have g56 := frA _ _ (gnc (Ne.symm (g_neA a2 g55)) gn0) g55
    have g57 := f3 _ _ (gnc (Ne.symm (g_neA hm hmany)) gn0) hmany
    have g58 := frA _ _ (gnc (Ne.symm (g_neA a2 g57)) gn0) g57
    have g59 := f3 _ _ (gnc (Ne.symm (g_neA hm hway)) gn0) hway
    have g60 := frA _ _ (gnc (Ne.symm (g_neA a2 g59)) gn0) g59
    have g61 := f3 _ _ (gnc (Ne.symm (g_neA hm htold)) gn0) htold
    have g62 := frA _ _ (gnc (Ne.symm (g_neA a2 g61)) gn0) g61
    have g63 := f3 _ _ (gnc (Ne.symm (g_neA hm hoth)) gn0) hoth
    have g64 := frA _ _ (gnc (Ne.symm (g_neA a2 g63)) gn0) g63
    have g65 := f3 _ _ (gnc (Ne.symm (g_neA hm hlst)) gn0) hlst
    have g66 := frA _ _ (gnc (Ne.symm (g_neA a2 g65)) gn0) g65
    refine v_zret F E (by omega) (by omega) (by decide) dX7_readsPace_30 ?_
    exact ⟨by rw [pNum_2 hkA]; exact (rdT_e (R2 := R) rfl ⟨_, _, _, _, _, _, hmA, g54, ⟨_, g56⟩, ⟨_, g58⟩, ⟨_, g60⟩, ⟨_, g62⟩, ⟨_, g64⟩, ⟨_, g66⟩, htw, how, hto⟩ fun q hq => rfl), fr52⟩
set_option maxHeartbeats 4000000 in
set_option maxRecDepth 100000 in
theorem n_X7_readsPace (G : gG) (z0 : Nat) (l : Launch) {h : gH} {m rows asd vals many way told oth lst text now : Nat} {th und fed fat num frm : Int32} {R : Nat → Int32} {D : Dt} {T : Nat → Int32} {t : Nat → Nat} {a ln : Nat} {b0 : Nat} (hMS : mS G h m rows asd vals many way told oth lst text th now und fed (nI ln) (nI a) (nI 0) fat num frm (nI 0) R) (hnow : now < 9) (w9 : wfD D) (hS : slD R (330 * now) D) (htext : h text = some (oI G 500 T)) (ht : ∀ j, j < ln → T j = nI (t j) ∧ t j < 256) (hln : ln ≤ 500) (ha : a ≤ ln) : gC G z0 l yX7_readsPace wsX7_readsPace 2 44 [.ref m, .int (nI b0)] h (fun v h' => rdT G h' m rows asd vals many way told oth lst text th now und fed fat R t ln a (.inl (-2, b0, D.1)) v ∧ gfr [rows, m, vals, many, way, told, oth, lst] h h') 0 0 := by
  have hsb := sk_b t ha
  have h1n := w9.1
  have hn64 := w9.2.1
  obtain ⟨fl, rl, kd, ok, st, wm, hm, hrows, ⟨V, hvals⟩, ⟨M, hmany⟩, ⟨W, hway⟩, ⟨f, htold⟩, ⟨g, hoth⟩, ⟨ll, hlst⟩, htw, how, hto⟩ := hMS
  refine gC_of (cc := cX7_readsPace) (nL := 2) (ret := (some .boolean)) (by decide) rfl (Nat.le_of_ble_eq_true rfl) ?_
  intro X F E _
  change gF G z0 X cX7_readsPace 2 RX7 wsX7_readsPace (some .boolean) "readsPace" 2 44 _ _ at F
  show gV G z0 X 0 0 h 0 [(0, .ref m), (1, .int (nI b0))] []
  refine v_aload_n (pc' := 1) F dX7_readsPace_0 rfl (j := 0) rfl rfl ?_
  refine v_getf (pc' := 4) (v := .int (nI 0)) F k_X7_readsPace_7 hm 25 (by decide) m_X7_readsPace_f180 rfl dX7_readsPace_1 rfl ?_
  refine w_if_ne (tgt := 15) (pc' := 7) F (by omega) dX7_readsPace_4 (by decide) rfl (fun c0 => absurd c0 (by omega)) (fun _ => ?_)
  refine v_aload_n (pc' := 8) F dX7_readsPace_7 rfl (j := 0) rfl rfl ?_
  refine v_bipush (pc' := 10) (v := (-2)) F dX7_readsPace_8 (by decide) rfl ?_
  refine v_iload_n (pc' := 11) F dX7_readsPace_10 rfl (j := 1) rfl rfl ?_
  refine v_callV (pc' := 14) (rt := (some .boolean)) (mcc := 0) (msc := 0) (As := [.int (-2), .int (nI b0)]) (st := []) F (fun l => c_X7_fails G z0 l (-2) (nI b0) hm) gX7_readsPace_X7_fails rfl hv_X7_fails (by decide) (by decide) hm rfl rfl rfl (Nat.le_of_ble_eq_true rfl) (by omega) (by omega) dX7_readsPace_11 rfl (fun v2 h1 hqf => ?_)
  obtain ⟨rfl, hmF, frF⟩ := hqf
  have fr3 : gfr [rows, m, vals, many, way, told, oth, lst] h h1 := (gfr.mono frF (by intro q9 z9 m9; apply z9; simp only [List.mem_cons, List.not_mem_nil, or_false] at m9 ⊢; omega))
  have g4 := frF _ _ (gnc (Ne.symm (g_neA hm hrows)) gn0) hrows
  have g5 := frF _ _ (gnc (Ne.symm (g_neA hm hvals)) gn0) hvals
  have g6 := frF _ _ (gnc (Ne.symm (g_neA hm hmany)) gn0) hmany
  have g7 := frF _ _ (gnc (Ne.symm (g_neA hm hway)) gn0) hway
  have g8 := frF _ _ (gnc (Ne.symm (g_neA hm htold)) gn0) htold
  have g9 := frF _ _ (gnc (Ne.symm (g_neA hm hoth)) gn0) hoth
  have g10 := frF _ _ (gnc (Ne.symm (g_neA hm hlst)) gn0) hlst
  refine v_zret F E (by omega) (by omega) (by decide) dX7_readsPace_14 ?_
  exact ⟨(rdT_e (R2 := R) rfl ⟨_, _, _, _, _, _, hmF, g4, ⟨_, g5⟩, ⟨_, g6⟩, ⟨_, g7⟩, ⟨_, g8⟩, ⟨_, g9⟩, ⟨_, g10⟩, htw, how, hto⟩ (fun q hq => rfl)), fr3⟩
theorem k_X7_readsPush_7 : gCl wsX7_readsPush 7 RX7 TX7 26 := ⟨by decide +kernel, rfl⟩
theorem m_X7_readsPush_f176 : Cond.fieldLink RX7 176 "SteadyQueuesModel" "number" "I" ∈ wsX7_readsPush := by decide +kernel
theorem m_X7_readsPush_f173 : Cond.fieldLink RX7 173 "SteadyQueuesModel" "from" "I" ∈ wsX7_readsPush := by decide +kernel
theorem sk_sk (t : Nat → Nat) {ln a : Nat} (ha : a ≤ ln) : sk t ln (sk t ln a) = sk t ln a := by
  unfold sk
  have h : ∀ m a, eS t (a + m - eS t m a) (eS t m a) = eS t m a := by
    intro m
    induction m with
    | zero =>
      intro a
      show eS t (a + 0 - a) a = a
      rw [show a + 0 - a = 0 by omega]
      rfl
    | succ m ih =>
      intro a
      by_cases c : t a = 32
      · rw [show eS t (m + 1) a = eS t m (a + 1) from if_pos c, show a + (m + 1) = a + 1 + m by omega]
        exact ih (a + 1)
      · rw [show eS t (m + 1) a = a from if_neg c, show a + (m + 1) - a = m + 1 by omega]
        exact if_neg c
  have := h (ln - a) a
  rwa [show a + (ln - a) = ln by omega] at this
theorem rdT_out {G : gG} {h : gH} {m rows asd vals many way told oth lst text now : Nat} {th und fed fat : Int32} {R R2 : Nat → Int32} {t : Nat → Nat} {ln lo lo2 : Nat} {r : PR} {v : Option Value} (ho : (∀ q, (q < 330 * now ∨ 330 * now + 330 ≤ q) → R2 q = R q)) (h9 : rdT G h m rows asd vals many way told oth lst text th now und fed fat R2 t ln lo2 r v) (hl : lo ≤ lo2 := by omega) : rdT G h m rows asd vals many way told oth lst text th now und fed fat R t ln lo r v := by
  unfold rdT at h9 ⊢
  cases r with
  | inl e =>
    obtain ⟨h1, sp, nu, fr, my, R3, h2, h3⟩ := h9
    exact ⟨h1, sp, nu, fr, my, R3, h2, fun q hq => by rw [h3 q hq, ho q hq]⟩
  | inr q =>
    obtain ⟨h1, a, nu, fr, R3, h2, h3, h4, h5⟩ := h9
    exact ⟨h1, a, nu, fr, R3, h2, fun q hq => by rw [h3 q hq, ho q hq], by omega, h5⟩
set_option maxHeartbeats 4000000 in
set_option maxRecDepth 100000 in
theorem lp_X7_readsPush {G : gG} {z0 : Nat} {X : gX} {l : Launch} {post : Option Value → gH → Prop} {mc ms cells slots r v : Nat} {h : gH} {m rows asd vals many way told oth lst text now : Nat} {th und fed fat num frm : Int32} {R T : Nat → Int32} {D : Dt} {t : Nat → Nat} {a ln lo9 : Nat} (F : gF G z0 X cX7_readsPush 2 RX7 wsX7_readsPush (some .boolean) "readsPush" 6 131 mc ms) (E : gE G z0 X post mc ms) (hcc : cells ≤ mc) (hss : slots ≤ ms) (hnow : now < 9) (ht : ∀ j, j < ln → T j = nI (t j) ∧ t j < 256) (hln : ln ≤ 500) (hMS : mS G h m rows asd vals many way told oth lst text th now und fed (nI ln) (nI a) (nI 0) fat num frm (nI 0) R) (w9 : wfD D) (hS : slD R (330 * now) D) (htext : h text = some (oI G 500 T)) (ha : a ≤ ln) (hlo : lo9 ≤ a) (hv : v < D.1) (hr : 65 ≤ r + D.1) (hp : ∀ (v9 : Option Value) (h' : gH), rdT G h' m rows asd vals many way told oth lst text th now und fed fat R t ln lo9 (pPs t ln r true v (sk t ln a) D) v9 → gfr [rows, m, vals, many, way, told, oth, lst] h h' → post v9 h') : gV G z0 X cells slots h 26 [(1, .int (nI v)), (0, .ref m)] [] := by
  induction r generalizing a v D R h num frm with
  | zero => exact absurd hr (by have := w9.2.1; omega)
  | succ r ih =>
    have hsb := sk_b t ha
    have h1n := w9.1
    have hn64 := w9.2.1
    obtain ⟨fl, rl, kd, ok, st, wm, hm, hrows, ⟨V, hvals⟩, ⟨M, hmany⟩, ⟨W, hway⟩, ⟨f, htold⟩, ⟨g, hoth⟩, ⟨ll, hlst⟩, htw, how, hto⟩ := hMS
    refine v_aload_n (pc' := 27) F dX7_readsPush_26 rfl (j := 1) rfl rfl ?_
    refine v_iconst (pc' := 28) (v := nI 0) F dX7_readsPush_27 (by decide) rfl ?_
    refine v_bipush (pc' := 30) (v := nI 99) F dX7_readsPush_28 (by decide) rfl ?_
    by_cases hkA : kdT t ln (sk t ln a) = 2
    · skip
      by_cases hlA : 0 ≤ vl t ln (sk t ln a) ∧ vl t ln (sk t ln a) ≤ 99
      · skip
        refine v_callV (pc' := 33) (rt := (some .boolean)) (mcc := 0) (msc := 0) (As := [.int (nI 0), .int (nI 99)]) (st := []) F (fun l => c_X7_reads G z0 l (a := a) (lo := 0) (hi := 99) hm htext ht hln (by omega) (by omega) (by omega) hkA hlA) gX7_readsPush_X7_reads rfl hv_X7_reads (by decide) (by decide) hm rfl rfl rfl (Nat.le_of_ble_eq_true rfl) (by omega) (by omega) dX7_readsPush_30 rfl (fun v2 h1 hqr => ?_)
        obtain ⟨rfl, hmA, frA⟩ := hqr
        refine w_if_ne (tgt := 38) (pc' := 36) F (by omega) dX7_readsPush_33 (by decide) rfl (fun _ => ?_) (fun c0 => absurd c0 (by omega))
        refine v_aload_n (pc' := 39) F dX7_readsPush_38 rfl (j := 1) rfl rfl ?_
        have heb := enT_b t hsb.2
        have g3 := frA _ _ (gnc (Ne.symm (g_neA hm hrows)) gn0) hrows
        refine v_callV (pc' := 42) (rt := (some .int)) (mcc := 0) (msc := 0) (As := []) (st := []) F (fun l => c_X7_versions G z0 l hmA g3 hnow hS.1) gX7_readsPush_X7_versions rfl hv_X7_versions (by decide) (by decide) hmA rfl rfl rfl (Nat.le_of_ble_eq_true rfl) (by omega) (by omega) dX7_readsPush_39 rfl (fun v4 h1 hqv => ?_)
        obtain ⟨rfl, rfl⟩ := hqv
        refine v_bipush (pc' := 44) (v := nI 64) F dX7_readsPush_42 (by decide) rfl ?_
        refine w_icmp_ne (tgt := 58) (pc' := 47) F (by omega) (by omega) dX7_readsPush_44 (by decide) rfl (fun c0 => ?_) (fun c0 => ?_)
        · have e9 : pPs t ln (r + 1) true v (sk t ln a) D = pPs t ln r false D.1 (nxT t ln (sk t ln a)) (dAdd D v (nI (vl t ln (sk t ln a)))) := by rw [pPs, if_neg (fun zi => zi hkA), if_neg (by omega), if_neg (by omega)]
          rw [e9] at hp
          have hwk : wOk ((nI (vl t ln (sk t ln a)), D.2.1) :: D.2.2.2.2 v) := ⟨(w9.os hv).1, w9.2.2.1, w9.2.2.2.1, fun zi => absurd zi (nI_m1 (by omega)), fun _ => ⟨_, by omega, rfl⟩⟩
          refine v_aload_n (pc' := 59) F dX7_readsPush_58 rfl (j := 1) rfl rfl ?_
          refine v_iload_n (pc' := 60) F dX7_readsPush_59 rfl (j := 0) rfl rfl ?_
          refine v_aload_n (pc' := 61) F dX7_readsPush_60 rfl (j := 1) rfl rfl ?_
          refine v_getf (pc' := 64) (v := .int (nI (vl t ln (sk t ln a)))) F k_X7_readsPush_7 hmA 23 (by decide) m_X7_readsPush_f176 rfl dX7_readsPush_61 rfl ?_
          have g5 := frA _ _ (gnc (Ne.symm (g_neA hm hvals)) gn0) hvals
          have g6 := frA _ _ (gnc (Ne.symm (g_neA hm hmany)) gn0) hmany
          have g7 := frA _ _ (gnc (Ne.symm (g_neA hm hway)) gn0) hway
          have g8 := frA _ _ (gnc (Ne.symm (g_neA hm htold)) gn0) htold
          have g9 := frA _ _ (gnc (Ne.symm (g_neA hm hoth)) gn0) hoth
          have g10 := frA _ _ (gnc (Ne.symm (g_neA hm hlst)) gn0) hlst
          refine v_callV (pc' := 67) (rt := (some .int)) (mcc := 0) (msc := 0) (As := [.int (nI v), .int (nI (vl t ln (sk t ln a)))]) (st := []) F (fun l => c_X7_makes G z0 l (nI (vl t ln (sk t ln a))) ⟨_, _, _, _, _, _, hmA, g3, ⟨_, g5⟩, ⟨_, g6⟩, ⟨_, g7⟩, ⟨_, g8⟩, ⟨_, g9⟩, ⟨_, g10⟩, htw, how, hto⟩ hnow w9 hS (by omega) hv hwk) gX7_readsPush_X7_makes rfl hv_X7_makes (by decide) (by decide) hmA rfl rfl rfl (Nat.le_of_ble_eq_true rfl) (by omega) (by omega) dX7_readsPush_64 rfl (fun v12 h11 hqc => ?_)
          obtain ⟨rfl, R2, hMD, hSD, hoD, frD⟩ := hqc
          have wA := w9.add (by omega) hv hwk
          have hMD0 := hMD
          obtain ⟨fl4, rl4, kd4, ok4, st4, wm4, hm4, hrows4, ⟨V4, hvals4⟩, ⟨M4, hmany4⟩, ⟨W4, hway4⟩, ⟨f4, htold4⟩, ⟨g4, hoth4⟩, ⟨ll4, hlst4⟩, -, -, -⟩ := hMD
          refine v_istore_n (pc' := 68) (i := 1) (L' := [(1, .int (nI D.1)), (0, .ref m)]) F dX7_readsPush_67 rfl (by decide) rfl rfl ?_
          refine v_aload_n (pc' := 69) F dX7_readsPush_68 rfl (j := 1) rfl rfl ?_
          have hsb2 := sk_b t (show (enT t ln (sk t ln a)) ≤ ln by omega)
          have g13 := frA _ _ (gnc (Ne.symm (g_neA hm htext)) gn0) htext
          have g14 := frD _ _ (gnc (g_neL g13 g3 (by decide)) (gnc (Ne.symm (g_neA hmA g13)) (gnc (g_neL g13 g5 (by decide)) (gnc (g_neL g13 g6 (by decide)) (gnc (g_neL g13 g7 (by decide)) (gnc (g_neL g13 g8 (by decide)) (gnc (g_neL g13 g9 (by decide)) (gnc (g_neL g13 g10 (by decide)) gn0)))))))) g13
          refine v_callV (pc' := 72) (rt := (some .int)) (mcc := 0) (msc := 0) (As := []) (st := []) F (fun l => c_X7_here G z0 l (a := (enT t ln (sk t ln a))) hm4 g14 ht hln (by omega)) gX7_readsPush_X7_here rfl hv_X7_here (by decide) (by decide) hm4 rfl rfl rfl (Nat.le_of_ble_eq_true rfl) (by omega) (by omega) dX7_readsPush_69 rfl (fun v16 h15 hqh => ?_)
          obtain ⟨hv9, hmH, frH⟩ := hqh
          have hks : ¬ kdT t ln (sk t ln (enT t ln (sk t ln a))) = 2 → pPs t ln r false D.1 (sk t ln (enT t ln (sk t ln a))) (dAdd D v (nI (vl t ln (sk t ln a)))) = .inr ((sk t ln (enT t ln (sk t ln a))), dAdd D v (nI (vl t ln (sk t ln a))))  := fun zk => by cases r with | zero => rfl | succ r => rw [pPs, if_pos zk, if_neg (by decide)]
          have fr17 : gfr [rows, m, vals, many, way, told, oth, lst] h h15 := (gfr.t (gfr.mono frA (by intro q9 z9 m9; apply z9; simp only [List.mem_cons, List.not_mem_nil, or_false] at m9 ⊢; omega)) (gfr.t frD (gfr.mono frH (by intro q9 z9 m9; apply z9; simp only [List.mem_cons, List.not_mem_nil, or_false] at m9 ⊢; omega))))
          have g18 := frH _ _ (gnc (Ne.symm (g_neA hm4 hrows4)) gn0) hrows4
          have g19 := frH _ _ (gnc (Ne.symm (g_neA hm4 hvals4)) gn0) hvals4
          have g20 := frH _ _ (gnc (Ne.symm (g_neA hm4 hmany4)) gn0) hmany4
          have g21 := frH _ _ (gnc (Ne.symm (g_neA hm4 hway4)) gn0) hway4
          have g22 := frH _ _ (gnc (Ne.symm (g_neA hm4 htold4)) gn0) htold4
          have g23 := frH _ _ (gnc (Ne.symm (g_neA hm4 hoth4)) gn0) hoth4
          have g24 := frH _ _ (gnc (Ne.symm (g_neA hm4 hlst4)) gn0) hlst4
          have g25 := frH _ _ (gnc (Ne.symm (g_neA hm4 g14)) gn0) g14
          subst hv9
          by_cases hz : (sk t ln (enT t ln (sk t ln a))) < ln
          · rw [if_pos hz]
            refine v_callS (pc' := 75) (rt := (some .boolean)) (mcc := 0) (msc := 0) (As := [.int (nI (t (sk t ln (enT t ln (sk t ln a)))))]) (st := []) F (fun l => c_X7_isDigit G z0 l (ht _ hz).2) gX7_readsPush_X7_isDigit rfl hd_X7_isDigit (by decide) (by decide) rfl rfl (Nat.le_of_ble_eq_true rfl) (by omega) (by omega) dX7_readsPush_72 rfl (fun v26 h15 hqd => ?_)
            obtain ⟨rfl, rfl⟩ := hqd
            by_cases hd : 48 ≤ t (sk t ln (enT t ln (sk t ln a))) ∧ t (sk t ln (enT t ln (sk t ln a))) ≤ 57
            · skip
              rw [if_pos hd]
              have hk2 : kdT t ln (sk t ln (enT t ln (sk t ln a))) = 2 := (kdI2 t ln _).mpr ⟨hz, hd⟩
              refine w_if_ne (tgt := 26) (pc' := 78) F (by omega) dX7_readsPush_75 (by decide) rfl (fun _ => ?_) (fun c0 => absurd c0 (by omega))
              refine v_sub (L' := [(1, .int (nI D.1)), (0, .ref m)]) [0, 1] rfl ?_
              have hfs : pPs t ln r false D.1 (sk t ln (enT t ln (sk t ln a))) (dAdd D v (nI (vl t ln (sk t ln a)))) = pPs t ln r true D.1 (sk t ln (enT t ln (sk t ln a))) (dAdd D v (nI (vl t ln (sk t ln a)))) := by cases r with | zero => rfl | succ r => unfold pPs; rw [if_neg (show ¬ kdT t ln (sk t ln (enT t ln (sk t ln a))) ≠ 2 from fun zi => zi hk2), if_neg (show ¬ kdT t ln (sk t ln (enT t ln (sk t ln a))) ≠ 2 from fun zi => zi hk2)]
              rw [show nxT t ln (sk t ln a) = sk t ln (enT t ln (sk t ln a)) from rfl, hfs] at hp
              refine ih (a := (sk t ln (enT t ln (sk t ln a)))) (v := D.1) (D := dAdd D v (nI (vl t ln (sk t ln a)))) (R := R2) ⟨_, _, _, _, _, _, hmH, g18, ⟨_, g19⟩, ⟨_, g20⟩, ⟨_, g21⟩, ⟨_, g22⟩, ⟨_, g23⟩, ⟨_, g24⟩, htw, how, hto⟩ wA hSD g25 (by omega) (by omega) (by show D.1 < D.1 + 1; omega) (by show 65 ≤ r + (D.1 + 1); omega) (fun v9 hA a1 a2 => hp v9 hA ?_ (gfr.t fr17 a2))
              rw [sk_sk t (show (enT t ln (sk t ln a)) ≤ ln by omega)] at a1
              exact rdT_out hoD a1
            · skip
              rw [if_neg hd]
              have hk2 : ¬ kdT t ln (sk t ln (enT t ln (sk t ln a))) = 2 := fun zi => hd ((kdI2 t ln _).mp zi).2
              refine w_if_ne (tgt := 26) (pc' := 78) F (by omega) dX7_readsPush_75 (by decide) rfl (fun c0 => absurd c0 (by omega)) (fun _ => ?_)
              refine v_iconst (pc' := 79) (v := nI 1) F dX7_readsPush_78 (by decide) rfl ?_
              rw [show nxT t ln (sk t ln a) = sk t ln (enT t ln (sk t ln a)) from rfl, hks hk2] at hp
              refine v_zret F E (by omega) (by omega) (by decide) dX7_readsPush_79 ?_
              exact hp _ _ (rdT_k (q := (_, _)) rfl ⟨_, _, _, _, _, _, hmH, g18, ⟨_, g19⟩, ⟨_, g20⟩, ⟨_, g21⟩, ⟨_, g22⟩, ⟨_, g23⟩, ⟨_, g24⟩, htw, how, hto⟩ hoD (by omega) (by omega) (sk_sk t (show (enT t ln (sk t ln a)) ≤ ln by omega)) wA hSD) fr17
          · rw [if_neg hz]
            refine v_callS (pc' := 75) (rt := (some .boolean)) (mcc := 0) (msc := 0) (As := [.int (-1)]) (st := []) F (fun l => c9_X7_isDigit G z0 l) gX7_readsPush_X7_isDigit rfl hd_X7_isDigit (by decide) (by decide) rfl rfl (Nat.le_of_ble_eq_true rfl) (by omega) (by omega) dX7_readsPush_72 rfl (fun v27 h15 hqd => ?_)
            obtain ⟨rfl, rfl⟩ := hqd
            have hk2 : ¬ kdT t ln (sk t ln (enT t ln (sk t ln a))) = 2 := fun zi => hz ((kdI2 t ln _).mp zi).1
            refine w_if_ne (tgt := 26) (pc' := 78) F (by omega) dX7_readsPush_75 (by decide) rfl (fun c0 => absurd c0 (by omega)) (fun _ => ?_)
            refine v_iconst (pc' := 79) (v := nI 1) F dX7_readsPush_78 (by decide) rfl ?_
            rw [show nxT t ln (sk t ln a) = sk t ln (enT t ln (sk t ln a)) from rfl, hks hk2] at hp
            refine v_zret F E (by omega) (by omega) (by decide) dX7_readsPush_79 ?_
            exact hp _ _ (rdT_k (q := (_, _)) rfl ⟨_, _, _, _, _, _, hmH, g18, ⟨_, g19⟩, ⟨_, g20⟩, ⟨_, g21⟩, ⟨_, g22⟩, ⟨_, g23⟩, ⟨_, g24⟩, htw, how, hto⟩ hoD (by omega) (by omega) (sk_sk t (show (enT t ln (sk t ln a)) ≤ ln by omega)) wA hSD) fr17
        · have e9 : pPs t ln (r + 1) true v (sk t ln a) D = .inl (-4, (sk t ln a), D.1) := by unfold pPs; rw [if_neg (fun zi => zi hkA), if_neg (by omega), if_pos (by omega)]
          refine v_aload_n (pc' := 48) F dX7_readsPush_47 rfl (j := 1) rfl rfl ?_
          refine v_bipush (pc' := 50) (v := (-4)) F dX7_readsPush_48 (by decide) rfl ?_
          refine v_aload_n (pc' := 51) F dX7_readsPush_50 rfl (j := 1) rfl rfl ?_
          refine v_getf (pc' := 54) (v := .int (nI (sk t ln a))) F k_X7_readsPush_7 hmA 24 (by decide) m_X7_readsPush_f173 rfl dX7_readsPush_51 rfl ?_
          refine v_callV (pc' := 57) (rt := (some .boolean)) (mcc := 0) (msc := 0) (As := [.int (-4), .int (nI (sk t ln a))]) (st := []) F (fun l => c_X7_fails G z0 l (-4) (nI (sk t ln a)) hmA) gX7_readsPush_X7_fails rfl hv_X7_fails (by decide) (by decide) hmA rfl rfl rfl (Nat.le_of_ble_eq_true rfl) (by omega) (by omega) dX7_readsPush_54 rfl (fun v29 h28 hqf => ?_)
          obtain ⟨rfl, hmF, frF⟩ := hqf
          have fr30 : gfr [rows, m, vals, many, way, told, oth, lst] h h28 := (gfr.t (gfr.mono frA (by intro q9 z9 m9; apply z9; simp only [List.mem_cons, List.not_mem_nil, or_false] at m9 ⊢; omega)) (gfr.mono frF (by intro q9 z9 m9; apply z9; simp only [List.mem_cons, List.not_mem_nil, or_false] at m9 ⊢; omega)))
          have g31 := frF _ _ (gnc (Ne.symm (g_neA hmA g3)) gn0) g3
          have g32 := frA _ _ (gnc (Ne.symm (g_neA hm hvals)) gn0) hvals
          have g33 := frF _ _ (gnc (Ne.symm (g_neA hmA g32)) gn0) g32
          have g34 := frA _ _ (gnc (Ne.symm (g_neA hm hmany)) gn0) hmany
          have g35 := frF _ _ (gnc (Ne.symm (g_neA hmA g34)) gn0) g34
          have g36 := frA _ _ (gnc (Ne.symm (g_neA hm hway)) gn0) hway
          have g37 := frF _ _ (gnc (Ne.symm (g_neA hmA g36)) gn0) g36
          have g38 := frA _ _ (gnc (Ne.symm (g_neA hm htold)) gn0) htold
          have g39 := frF _ _ (gnc (Ne.symm (g_neA hmA g38)) gn0) g38
          have g40 := frA _ _ (gnc (Ne.symm (g_neA hm hoth)) gn0) hoth
          have g41 := frF _ _ (gnc (Ne.symm (g_neA hmA g40)) gn0) g40
          have g42 := frA _ _ (gnc (Ne.symm (g_neA hm hlst)) gn0) hlst
          have g43 := frF _ _ (gnc (Ne.symm (g_neA hmA g42)) gn0) g42
          rw [e9] at hp
          refine v_zret F E (by omega) (by omega) (by decide) dX7_readsPush_57 ?_
          exact hp _ _ (rdT_e (R2 := R) rfl ⟨_, _, _, _, _, _, hmF, g31, ⟨_, g33⟩, ⟨_, g35⟩, ⟨_, g37⟩, ⟨_, g39⟩, ⟨_, g41⟩, ⟨_, g43⟩, htw, how, hto⟩ (fun q hq => rfl)) fr30
      · skip
        refine v_callV (pc' := 33) (rt := (some .boolean)) (mcc := 0) (msc := 0) (As := [.int (nI 0), .int (nI 99)]) (st := []) F (fun l => n3_X7_reads G z0 l (a := a) (lo := 0) (hi := 99) hm htext ht hln (by omega) (by omega) (by omega) hkA hlA) gX7_readsPush_X7_reads rfl hv_X7_reads (by decide) (by decide) hm rfl rfl rfl (Nat.le_of_ble_eq_true rfl) (by omega) (by omega) dX7_readsPush_30 rfl (fun v45 h44 hqr => ?_)
        obtain ⟨rfl, sp9, nu9, fr9, hmA, frA⟩ := hqr
        refine w_if_ne (tgt := 38) (pc' := 36) F (by omega) dX7_readsPush_33 (by decide) rfl (fun c0 => absurd c0 (by omega)) (fun _ => ?_)
        refine v_iconst (pc' := 37) (v := nI 0) F dX7_readsPush_36 (by decide) rfl ?_
        have e9 : pPs t ln (r + 1) true v (sk t ln a) D = .inl (-3, (sk t ln a), D.1) := by unfold pPs; rw [if_neg (fun zi => zi hkA), if_pos (by omega)]
        have fr46 : gfr [rows, m, vals, many, way, told, oth, lst] h h44 := (gfr.mono frA (by intro q9 z9 m9; apply z9; simp only [List.mem_cons, List.not_mem_nil, or_false] at m9 ⊢; omega))
        have g47 := frA _ _ (gnc (Ne.symm (g_neA hm hrows)) gn0) hrows
        have g48 := frA _ _ (gnc (Ne.symm (g_neA hm hvals)) gn0) hvals
        have g49 := frA _ _ (gnc (Ne.symm (g_neA hm hmany)) gn0) hmany
        have g50 := frA _ _ (gnc (Ne.symm (g_neA hm hway)) gn0) hway
        have g51 := frA _ _ (gnc (Ne.symm (g_neA hm htold)) gn0) htold
        have g52 := frA _ _ (gnc (Ne.symm (g_neA hm hoth)) gn0) hoth
        have g53 := frA _ _ (gnc (Ne.symm (g_neA hm hlst)) gn0) hlst
        rw [e9] at hp
        refine v_zret F E (by omega) (by omega) (by decide) dX7_readsPush_37 ?_
        exact hp _ _ (rdT_e (R2 := R) rfl ⟨_, _, _, _, _, _, hmA, g47, ⟨_, g48⟩, ⟨_, g49⟩, ⟨_, g50⟩, ⟨_, g51⟩, ⟨_, g52⟩, ⟨_, g53⟩, htw, how, hto⟩ (fun q hq => rfl)) fr46
    · skip
      refine v_callV (pc' := 33) (rt := (some .boolean)) (mcc := 0) (msc := 0) (As := [.int (nI 0), .int (nI 99)]) (st := []) F (fun l => n2_X7_reads G z0 l (a := a) (lo := 0) (hi := 99) hm htext ht hln (by omega) hkA) gX7_readsPush_X7_reads rfl hv_X7_reads (by decide) (by decide) hm rfl rfl rfl (Nat.le_of_ble_eq_true rfl) (by omega) (by omega) dX7_readsPush_30 rfl (fun v55 h54 hqr => ?_)
      obtain ⟨rfl, sp9, nu9, fr9, hmA, frA⟩ := hqr
      refine w_if_ne (tgt := 38) (pc' := 36) F (by omega) dX7_readsPush_33 (by decide) rfl (fun c0 => absurd c0 (by omega)) (fun _ => ?_)
      refine v_iconst (pc' := 37) (v := nI 0) F dX7_readsPush_36 (by decide) rfl ?_
      have e9 : pPs t ln (r + 1) true v (sk t ln a) D = .inl (-2, (sk t ln a), D.1) := by unfold pPs; rw [if_pos hkA, if_pos rfl]
      have fr56 : gfr [rows, m, vals, many, way, told, oth, lst] h h54 := (gfr.mono frA (by intro q9 z9 m9; apply z9; simp only [List.mem_cons, List.not_mem_nil, or_false] at m9 ⊢; omega))
      have g57 := frA _ _ (gnc (Ne.symm (g_neA hm hrows)) gn0) hrows
      have g58 := frA _ _ (gnc (Ne.symm (g_neA hm hvals)) gn0) hvals
      have g59 := frA _ _ (gnc (Ne.symm (g_neA hm hmany)) gn0) hmany
      have g60 := frA _ _ (gnc (Ne.symm (g_neA hm hway)) gn0) hway
      have g61 := frA _ _ (gnc (Ne.symm (g_neA hm htold)) gn0) htold
      have g62 := frA _ _ (gnc (Ne.symm (g_neA hm hoth)) gn0) hoth
      have g63 := frA _ _ (gnc (Ne.symm (g_neA hm hlst)) gn0) hlst
      rw [e9] at hp
      refine v_zret F E (by omega) (by omega) (by decide) dX7_readsPush_37 ?_
      exact hp _ _ (rdT_e (R2 := R) rfl ⟨_, _, _, _, _, _, hmA, g57, ⟨_, g58⟩, ⟨_, g59⟩, ⟨_, g60⟩, ⟨_, g61⟩, ⟨_, g62⟩, ⟨_, g63⟩, htw, how, hto⟩ (fun q hq => rfl)) fr56
