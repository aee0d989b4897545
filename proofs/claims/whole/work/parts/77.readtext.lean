def reT (G : gG) (h : gH) (m rows asd vals many way told oth lst text : Nat) (th : Int32) (now : Nat) (und fed fat : Int32) (R : Nat → Int32) (ln : Nat) (r : PR) (v : Option Value) : Prop := match r with
  | .inl e => v = some (.int (nI 0)) ∧ ∃ (sp nu fr my : Int32) (R2 : Nat → Int32), mS G h m rows asd vals many way told oth lst text th now und fed (nI ln) sp e.1 (nI e.2.1) nu fr my R2 ∧ (∀ q, (q < 330 * now ∨ 330 * now + 330 ≤ q) → R2 q = R q)
  | .inr q => v = some (.int (nI 1)) ∧ ∃ (sp nu fr my : Int32) (R2 : Nat → Int32), mS G h m rows asd vals many way told oth lst text th now und fed (nI ln) sp (nI 0) fat nu fr my R2 ∧ (∀ q, (q < 330 * now ∨ 330 * now + 330 ≤ q) → R2 q = R q) ∧ wfD q.2 ∧ slD R2 (330 * now) q.2
theorem reT_e {G : gG} {h : gH} {m rows asd vals many way told oth lst text now : Nat} {th und fed fat sp nu fr my : Int32} {R R2 : Nat → Int32} {ln : Nat} {e : Int32 × Nat × Nat} {v : Option Value} (h1 : v = some (.int (nI 0))) (h2 : mS G h m rows asd vals many way told oth lst text th now und fed (nI ln) sp e.1 (nI e.2.1) nu fr my R2) (h3 : (∀ q, (q < 330 * now ∨ 330 * now + 330 ≤ q) → R2 q = R q)) : reT G h m rows asd vals many way told oth lst text th now und fed fat R ln (.inl e) v := by
  unfold reT
  exact ⟨h1, sp, nu, fr, my, R2, h2, h3⟩
theorem reT_k {G : gG} {h : gH} {m rows asd vals many way told oth lst text now : Nat} {th und fed fat sp nu fr my : Int32} {R R2 : Nat → Int32} {ln : Nat} {q : Nat × Dt} {v : Option Value} (h1 : v = some (.int (nI 1))) (h2 : mS G h m rows asd vals many way told oth lst text th now und fed (nI ln) sp (nI 0) fat nu fr my R2) (h3 : (∀ q, (q < 330 * now ∨ 330 * now + 330 ≤ q) → R2 q = R q)) (h7 : wfD q.2) (h8 : slD R2 (330 * now) q.2) : reT G h m rows asd vals many way told oth lst text th now und fed fat R ln (.inr q) v := by
  unfold reT
  exact ⟨h1, sp, nu, fr, my, R2, h2, h3, h7, h8⟩
theorem reT_out {G : gG} {h : gH} {m rows asd vals many way told oth lst text now : Nat} {th und fed fat : Int32} {R R2 : Nat → Int32} {ln : Nat} {r : PR} {v : Option Value} (ho : (∀ q, (q < 330 * now ∨ 330 * now + 330 ≤ q) → R2 q = R q)) (h9 : reT G h m rows asd vals many way told oth lst text th now und fed fat R2 ln r v) : reT G h m rows asd vals many way told oth lst text th now und fed fat R ln r v := by
  unfold reT at h9 ⊢
  cases r with
  | inl e =>
    obtain ⟨h1, sp, nu, fr, my, R3, h2, h3⟩ := h9
    exact ⟨h1, sp, nu, fr, my, R3, h2, fun q hq => by rw [h3 q hq, ho q hq]⟩
  | inr q =>
    obtain ⟨h1, sp, nu, fr, my, R3, h2, h3, h5⟩ := h9
    exact ⟨h1, sp, nu, fr, my, R3, h2, fun q hq => by rw [h3 q hq, ho q hq], h5⟩
theorem kd0 (t : Nat → Nat) (ln s : Nat) : kdT t ln s = 0 ↔ ln ≤ s := by
  unfold kdT
  have hw : wkd t s (eL t (ln - s) s) ≠ 0 := by
    unfold wkd
    repeat' split
    all_goals omega
  by_cases h1 : ln ≤ s
  · rw [if_pos h1]; omega
  · rw [if_neg h1]
    split
    · omega
    · split
      · omega
      · split <;> omega
theorem rdT_v {G : gG} {h : gH} {m rows asd vals many way told oth lst text now : Nat} {th und fed fat : Int32} {R : Nat → Int32} {t : Nat → Nat} {ln lo : Nat} {r : PR} {v : Option Value} (h9 : rdT G h m rows asd vals many way told oth lst text th now und fed fat R t ln lo r v) : v = some (.int (nI 0)) ∨ v = some (.int (nI 1)) := by
  unfold rdT at h9
  cases r with
  | inl e => exact .inl h9.1
  | inr q => exact .inr h9.1
theorem hv_X7_sign : yX7_sign.cls = RX7 ∧ yX7_sign.cls ≠ "java/lang/invoke/MethodHandle" ∧ yX7_sign.cls ≠ "java/lang/invoke/VarHandle" ∧ (parseMethodDescriptor yX7_sign.desc).map (fun d => d.parameters.length) = some 1 := by decide +kernel
set_option maxHeartbeats 4000000 in
set_option maxRecDepth 100000 in
theorem tl_X7_readsText {G : gG} {z0 : Nat} {X : gX} {l : Launch} {post : Option Value → gH → Prop} {mc ms cells slots b b0 : Nat} {h : gH} {m rows asd vals many way told oth lst text now : Nat} {th und fed fat : Int32} {R T : Nat → Int32} {t : Nat → Nat} {ln lo : Nat} {rr : PR} {NX : Nat × Dt → PR} (F : gF G z0 X cX7_readsText 3 RX7 wsX7_readsText (some .boolean) "readsText" 7 153 mc ms) (E : gE G z0 X post mc ms) (hcc : cells ≤ mc) (hss : slots ≤ ms) (hnow : now < 9) (htext : h text = some (oI G 500 T)) (ht : ∀ j, j < ln → T j = nI (t j) ∧ t j < 256) (hln : ln ≤ 500) (hb : b < 2) (hr9 : rdT G h m rows asd vals many way told oth lst text th now und fed fat R t ln lo rr (some (.int (nI b)))) (K : ∀ q, rr = .inr q → kdT t ln q.1 = 3 → ∀ (a9 : Nat) (h' : gH) (R2 : Nat → Int32) (nu fr : Int32), mS G h' m rows asd vals many way told oth lst text th now und fed (nI ln) (nI a9) (nI 0) fat nu fr (nI 0) R2 → wfD q.2 → slD R2 (330 * now) q.2 → h' text = some (oI G 500 T) → lo + 1 ≤ a9 → a9 ≤ ln → sk t ln a9 = nxT t ln q.1 → (∀ q, (q < 330 * now ∨ 330 * now + 330 ≤ q) → R2 q = R q) → gfr [rows, m, vals, many, way, told, oth, lst] h h' → gV G z0 X cells slots h' 40 [(0, .ref m)] []) (hp : ∀ (v9 : Option Value) (h' : gH), reT G h' m rows asd vals many way told oth lst text th now und fed fat R ln (match rr with | .inl e => .inl e | .inr q => if kdT t ln q.1 = 3 then NX q else .inl (-2, q.1, q.2.1)) v9 → gfr [rows, m, vals, many, way, told, oth, lst] h h' → post v9 h') : gV G z0 X cells slots h 109 [(1, .int (nI b0)), (0, .ref m)] [.int (nI b)] := by
  have hr0 := hr9
  unfold rdT at hr9
  cases rr with
  | inl e =>
    obtain ⟨hv9, sp2, nu2, fr2, my2, R2, hM2, ho2⟩ := hr9
    obtain rfl : b = 0 := (nI_eq (by omega) (by omega)).mp (Value.int.inj (Option.some.inj hv9))
    show gV G z0 X cells slots h 109 [(1, .int (nI b0)), (0, .ref m)] [.int (nI 0)]
    refine v_istore_n (pc' := 110) (i := 2) (L' := [(2, .int (nI 0)), (1, .int (nI b0)), (0, .ref m)]) F dX7_readsText_109 rfl (by decide) rfl rfl ?_
    refine v_iload_n (pc' := 111) F dX7_readsText_110 rfl (j := 0) rfl rfl ?_
    refine w_if_eq (tgt := 123) (pc' := 114) F (by omega) dX7_readsText_111 (by decide) rfl (fun _ => ?_) (fun c0 => absurd c0 (by omega))
    refine v_iconst (pc' := 124) (v := nI 0) F dX7_readsText_123 (by decide) rfl ?_
    refine v_zret F E (by omega) (by omega) (by decide) dX7_readsText_124 ?_
    exact hp _ _ (reT_e rfl hM2 ho2) gfr.rf
  | inr q =>
    obtain ⟨hv9, a2, nu2, fr2, R2, hM2, ho2, hla, hal, hsk2, wf2, sl2⟩ := hr9
    obtain rfl : b = 1 := (nI_eq (by omega) (by omega)).mp (Value.int.inj (Option.some.inj hv9))
    have hM20 := hM2
    have hsb2 := sk_b t hal
    obtain ⟨fl, rl, kd, ok, st, wm, hm, hrows, ⟨V, hvals⟩, ⟨M, hmany⟩, ⟨W, hway⟩, ⟨f, htold⟩, ⟨g, hoth⟩, ⟨ll, hlst⟩, htw, how, hto⟩ := hM2
    show gV G z0 X cells slots h 109 [(1, .int (nI b0)), (0, .ref m)] [.int (nI 1)]
    refine v_istore_n (pc' := 110) (i := 2) (L' := [(2, .int (nI 1)), (1, .int (nI b0)), (0, .ref m)]) F dX7_readsText_109 rfl (by decide) rfl rfl ?_
    refine v_iload_n (pc' := 111) F dX7_readsText_110 rfl (j := 0) rfl rfl ?_
    refine w_if_eq (tgt := 123) (pc' := 114) F (by omega) dX7_readsText_111 (by decide) rfl (fun c0 => absurd c0 (by omega)) (fun _ => ?_)
    refine v_aload_n (pc' := 115) F dX7_readsText_114 rfl (j := 2) rfl rfl ?_
    refine v_bipush (pc' := 117) (v := nI 59) F dX7_readsText_115 (by decide) rfl ?_
    by_cases hk3 : kdT t ln q.1 = 3
    · skip
      refine v_callV (pc' := 120) (rt := (some .boolean)) (mcc := 0) (msc := 0) (As := [.int (nI 59)]) (st := []) F (fun l => c_X7_sign G z0 l (a := a2) hm htext ht hln hal (by rw [hsk2]; exact hk3)) gX7_readsText_X7_sign rfl hv_X7_sign (by decide) (by decide) hm rfl rfl rfl (Nat.le_of_ble_eq_true rfl) (by omega) (by omega) dX7_readsText_117 rfl (fun v2 h1 hqs => ?_)
      obtain ⟨rfl, hmS, frS⟩ := hqs
      refine w_if_ne (tgt := 125) (pc' := 123) F (by omega) dX7_readsText_120 (by decide) rfl (fun _ => ?_) (fun c0 => absurd c0 (by omega))
      refine v_goto (tgt := 40) F dX7_readsText_125 (by decide) ?_
      have fr3 : gfr [rows, m, vals, many, way, told, oth, lst] h h1 := (gfr.mono frS (by intro q9 z9 m9; apply z9; simp only [List.mem_cons, List.not_mem_nil, or_false] at m9 ⊢; omega))
      refine v_sub (L' := [(0, .ref m)]) [2] rfl ?_
      have g4 := frS _ _ (gnc (Ne.symm (g_neA hm hrows)) gn0) hrows
      have g5 := frS _ _ (gnc (Ne.symm (g_neA hm hvals)) gn0) hvals
      have g6 := frS _ _ (gnc (Ne.symm (g_neA hm hmany)) gn0) hmany
      have g7 := frS _ _ (gnc (Ne.symm (g_neA hm hway)) gn0) hway
      have g8 := frS _ _ (gnc (Ne.symm (g_neA hm htold)) gn0) htold
      have g9 := frS _ _ (gnc (Ne.symm (g_neA hm hoth)) gn0) hoth
      have g10 := frS _ _ (gnc (Ne.symm (g_neA hm hlst)) gn0) hlst
      have g11 := frS _ _ (gnc (Ne.symm (g_neA hm htext)) gn0) htext
      have hnx : sk t ln ((sk t ln a2) + 1) = nxT t ln q.1 := by unfold nxT; rw [en3 hk3, hsk2]
      have hlt3 := ((kdI3 t ln q.1).mp hk3).1
      exact K q rfl hk3 _ _ _ _ _ ⟨_, _, _, _, _, _, hmS, g4, ⟨_, g5⟩, ⟨_, g6⟩, ⟨_, g7⟩, ⟨_, g8⟩, ⟨_, g9⟩, ⟨_, g10⟩, htw, how, hto⟩ wf2 sl2 g11 (by omega) (by omega) hnx ho2 fr3
    · skip
      refine v_callV (pc' := 120) (rt := (some .boolean)) (mcc := 0) (msc := 0) (As := [.int (nI 59)]) (st := []) F (fun l => n_X7_sign G z0 l (a := a2) hm htext ht hln hal (by rw [hsk2]; exact hk3)) gX7_readsText_X7_sign rfl hv_X7_sign (by decide) (by decide) hm rfl rfl rfl (Nat.le_of_ble_eq_true rfl) (by omega) (by omega) dX7_readsText_117 rfl (fun v13 h12 hqs => ?_)
      obtain ⟨rfl, hmS, frS⟩ := hqs
      refine w_if_ne (tgt := 125) (pc' := 123) F (by omega) dX7_readsText_120 (by decide) rfl (fun c0 => absurd c0 (by omega)) (fun _ => ?_)
      refine v_iconst (pc' := 124) (v := nI 0) F dX7_readsText_123 (by decide) rfl ?_
      have fr14 : gfr [rows, m, vals, many, way, told, oth, lst] h h12 := (gfr.mono frS (by intro q9 z9 m9; apply z9; simp only [List.mem_cons, List.not_mem_nil, or_false] at m9 ⊢; omega))
      have g15 := frS _ _ (gnc (Ne.symm (g_neA hm hrows)) gn0) hrows
      have g16 := frS _ _ (gnc (Ne.symm (g_neA hm hvals)) gn0) hvals
      have g17 := frS _ _ (gnc (Ne.symm (g_neA hm hmany)) gn0) hmany
      have g18 := frS _ _ (gnc (Ne.symm (g_neA hm hway)) gn0) hway
      have g19 := frS _ _ (gnc (Ne.symm (g_neA hm htold)) gn0) htold
      have g20 := frS _ _ (gnc (Ne.symm (g_neA hm hoth)) gn0) hoth
      have g21 := frS _ _ (gnc (Ne.symm (g_neA hm hlst)) gn0) hlst
      simp only [if_neg hk3] at hp
      rw [hsk2] at hmS
      refine v_zret F E (by omega) (by omega) (by decide) dX7_readsText_124 ?_
      exact hp _ _ (reT_e rfl ⟨_, _, _, _, _, _, hmS, g15, ⟨_, g16⟩, ⟨_, g17⟩, ⟨_, g18⟩, ⟨_, g19⟩, ⟨_, g20⟩, ⟨_, g21⟩, htw, how, hto⟩ ho2) fr14
theorem k_X7_readsText_7 : gCl wsX7_readsText 7 RX7 TX7 26 := ⟨by decide +kernel, rfl⟩
theorem m_X7_readsText_f146 : Cond.fieldLink RX7 146 "SteadyQueuesModel" "spot" "I" ∈ wsX7_readsText := by decide +kernel
theorem hv_X7_passes : yX7_passes.cls = RX7 ∧ yX7_passes.cls ≠ "java/lang/invoke/MethodHandle" ∧ yX7_passes.cls ≠ "java/lang/invoke/VarHandle" ∧ (parseMethodDescriptor yX7_passes.desc).map (fun d => d.parameters.length) = some 1 := by decide +kernel
theorem hv_X7_readsPush : yX7_readsPush.cls = RX7 ∧ yX7_readsPush.cls ≠ "java/lang/invoke/MethodHandle" ∧ yX7_readsPush.cls ≠ "java/lang/invoke/VarHandle" ∧ (parseMethodDescriptor yX7_readsPush.desc).map (fun d => d.parameters.length) = some 0 := by decide +kernel
theorem hv_X7_readsPop : yX7_readsPop.cls = RX7 ∧ yX7_readsPop.cls ≠ "java/lang/invoke/MethodHandle" ∧ yX7_readsPop.cls ≠ "java/lang/invoke/VarHandle" ∧ (parseMethodDescriptor yX7_readsPop.desc).map (fun d => d.parameters.length) = some 0 := by decide +kernel
theorem hv_X7_readsPace : yX7_readsPace.cls = RX7 ∧ yX7_readsPace.cls ≠ "java/lang/invoke/MethodHandle" ∧ yX7_readsPace.cls ≠ "java/lang/invoke/VarHandle" ∧ (parseMethodDescriptor yX7_readsPace.desc).map (fun d => d.parameters.length) = some 1 := by decide +kernel
theorem pMain_s {t : Nat → Nat} {ln fuel s : Nat} {mp : Bool} {D : Dt} (h : ¬ kdT t ln s = 0) : pMain t ln (fuel + 1) mp s D = (match pSt t ln mp s D with | .inl e => .inl e | .inr q => if kdT t ln q.1 = 3 then pMain t ln fuel false (nxT t ln q.1) q.2 else .inl (-2, q.1, q.2.1)) := by
  rw [pMain, if_neg h]
  cases pSt t ln mp s D with
  | inl e => rfl
  | inr q =>
    obtain ⟨a, b⟩ := q
    rfl
theorem nI_m1w {c : Nat} (h : c < 256) : nI c ≠ -1 := fun z => by
  have h1 : nI 0 ≤ nI c := nI_le (Nat.zero_le c) (by omega)
  rw [z] at h1
  exact absurd h1 (by decide)
set_option maxHeartbeats 4000000 in
set_option maxRecDepth 100000 in
theorem lp_X7_readsText {G : gG} {z0 : Nat} {X : gX} {l : Launch} {post : Option Value → gH → Prop} {mc ms cells slots fuel : Nat} {h : gH} {m rows asd vals many way told oth lst text now : Nat} {th und fed fat num frm : Int32} {R T : Nat → Int32} {D : Dt} {t : Nat → Nat} {a ln : Nat} {mp : Bool} (F : gF G z0 X cX7_readsText 3 RX7 wsX7_readsText (some .boolean) "readsText" 7 153 mc ms) (E : gE G z0 X post mc ms) (hcc : cells ≤ mc) (hss : slots ≤ ms) (hnow : now < 9) (ht : ∀ j, j < ln → T j = nI (t j) ∧ t j < 256) (hln : ln ≤ 500) (hMS : mS G h m rows asd vals many way told oth lst text th now und fed (nI ln) (nI a) (nI 0) fat num frm (nI (if mp = true then 1 else 0)) R) (w9 : wfD D) (hS : slD R (330 * now) D) (htext : h text = some (oI G 500 T)) (ha : a ≤ ln) (hfu : ln ≤ sk t ln a + fuel) (hp : ∀ (v9 : Option Value) (h' : gH), reT G h' m rows asd vals many way told oth lst text th now und fed fat R ln (pMain t ln fuel mp (sk t ln a) D) v9 → gfr [rows, m, vals, many, way, told, oth, lst] h h' → post v9 h') : gV G z0 X cells slots h 40 [(0, .ref m)] [] := by
  induction fuel generalizing a mp D R h num frm with
  | zero =>
    have hsb := sk_b t ha
    have h1n := w9.1
    have hn64 := w9.2.1
    obtain ⟨fl, rl, kd, ok, st, wm, hm, hrows, ⟨V, hvals⟩, ⟨M, hmany⟩, ⟨W, hway⟩, ⟨f, htold⟩, ⟨g, hoth⟩, ⟨ll, hlst⟩, htw, how, hto⟩ := hMS
    refine v_aload_n (pc' := 41) F dX7_readsText_40 rfl (j := 0) rfl rfl ?_
    refine v_callV (pc' := 44) (rt := (some .int)) (mcc := 0) (msc := 0) (As := []) (st := []) F (fun l => c_X7_here G z0 l (a := a) hm htext ht hln (by omega)) gX7_readsText_X7_here rfl hv_X7_here (by decide) (by decide) hm rfl rfl rfl (Nat.le_of_ble_eq_true rfl) (by omega) (by omega) dX7_readsText_41 rfl (fun v2 h1 hqh => ?_)
    obtain ⟨hv9, hmH, frH⟩ := hqh
    have hz : ln ≤ (sk t ln a) := by omega
    rw [if_neg (show ¬ (sk t ln a) < ln by omega)] at hv9; subst hv9
    refine v_iconst (pc' := 45) (v := (-1)) F dX7_readsText_44 (by decide) rfl ?_
    refine v_icmp_eq (tgt := 128) (pc' := 48) F dX7_readsText_45 (by decide) rfl (fun _ => ?_) (fun c0 => absurd rfl c0)
    refine v_iconst (pc' := 129) (v := nI 1) F dX7_readsText_128 (by decide) rfl ?_
    have fr3 : gfr [rows, m, vals, many, way, told, oth, lst] h h1 := (gfr.mono frH (by intro q9 z9 m9; apply z9; simp only [List.mem_cons, List.not_mem_nil, or_false] at m9 ⊢; omega))
    have g4 := frH _ _ (gnc (Ne.symm (g_neA hm hrows)) gn0) hrows
    have g5 := frH _ _ (gnc (Ne.symm (g_neA hm hvals)) gn0) hvals
    have g6 := frH _ _ (gnc (Ne.symm (g_neA hm hmany)) gn0) hmany
    have g7 := frH _ _ (gnc (Ne.symm (g_neA hm hway)) gn0) hway
    have g8 := frH _ _ (gnc (Ne.symm (g_neA hm htold)) gn0) htold
    have g9 := frH _ _ (gnc (Ne.symm (g_neA hm hoth)) gn0) hoth
    have g10 := frH _ _ (gnc (Ne.symm (g_neA hm hlst)) gn0) hlst
    refine v_zret F E (by omega) (by omega) (by decide) dX7_readsText_129 ?_
    exact hp _ _ (reT_k (q := (_, _)) rfl ⟨_, _, _, _, _, _, hmH, g4, ⟨_, g5⟩, ⟨_, g6⟩, ⟨_, g7⟩, ⟨_, g8⟩, ⟨_, g9⟩, ⟨_, g10⟩, htw, how, hto⟩ (fun q hq => rfl) w9 hS) fr3
  | succ fuel ih =>
    have hsb := sk_b t ha
    have h1n := w9.1
    have hn64 := w9.2.1
    obtain ⟨fl, rl, kd, ok, st, wm, hm, hrows, ⟨V, hvals⟩, ⟨M, hmany⟩, ⟨W, hway⟩, ⟨f, htold⟩, ⟨g, hoth⟩, ⟨ll, hlst⟩, htw, how, hto⟩ := hMS
    refine v_aload_n (pc' := 41) F dX7_readsText_40 rfl (j := 0) rfl rfl ?_
    refine v_callV (pc' := 44) (rt := (some .int)) (mcc := 0) (msc := 0) (As := []) (st := []) F (fun l => c_X7_here G z0 l (a := a) hm htext ht hln (by omega)) gX7_readsText_X7_here rfl hv_X7_here (by decide) (by decide) hm rfl rfl rfl (Nat.le_of_ble_eq_true rfl) (by omega) (by omega) dX7_readsText_41 rfl (fun v2 h1 hqh => ?_)
    obtain ⟨hv9, hmH, frH⟩ := hqh
    by_cases hz : ln ≤ (sk t ln a)
    · skip
      rw [show pMain t ln (fuel + 1) mp (sk t ln a) D = .inr ((sk t ln a), D) from if_pos ((kd0 t ln _).mpr hz)] at hp
      rw [if_neg (show ¬ (sk t ln a) < ln by omega)] at hv9; subst hv9
      refine v_iconst (pc' := 45) (v := (-1)) F dX7_readsText_44 (by decide) rfl ?_
      refine v_icmp_eq (tgt := 128) (pc' := 48) F dX7_readsText_45 (by decide) rfl (fun _ => ?_) (fun c0 => absurd rfl c0)
      refine v_iconst (pc' := 129) (v := nI 1) F dX7_readsText_128 (by decide) rfl ?_
      have fr3 : gfr [rows, m, vals, many, way, told, oth, lst] h h1 := (gfr.mono frH (by intro q9 z9 m9; apply z9; simp only [List.mem_cons, List.not_mem_nil, or_false] at m9 ⊢; omega))
      have g4 := frH _ _ (gnc (Ne.symm (g_neA hm hrows)) gn0) hrows
      have g5 := frH _ _ (gnc (Ne.symm (g_neA hm hvals)) gn0) hvals
      have g6 := frH _ _ (gnc (Ne.symm (g_neA hm hmany)) gn0) hmany
      have g7 := frH _ _ (gnc (Ne.symm (g_neA hm hway)) gn0) hway
      have g8 := frH _ _ (gnc (Ne.symm (g_neA hm htold)) gn0) htold
      have g9 := frH _ _ (gnc (Ne.symm (g_neA hm hoth)) gn0) hoth
      have g10 := frH _ _ (gnc (Ne.symm (g_neA hm hlst)) gn0) hlst
      refine v_zret F E (by omega) (by omega) (by decide) dX7_readsText_129 ?_
      exact hp _ _ (reT_k (q := (_, _)) rfl ⟨_, _, _, _, _, _, hmH, g4, ⟨_, g5⟩, ⟨_, g6⟩, ⟨_, g7⟩, ⟨_, g8⟩, ⟨_, g9⟩, ⟨_, g10⟩, htw, how, hto⟩ (fun q hq => rfl) w9 hS) fr3
    · skip
      have hlt : (sk t ln a) < ln := by omega
      rw [if_pos hlt] at hv9; subst hv9
      obtain ⟨hTs, hts⟩ := ht _ hlt
      have hne9 : nI (t (sk t ln a)) ≠ -1 := nI_m1w hts
      refine v_iconst (pc' := 45) (v := (-1)) F dX7_readsText_44 (by decide) rfl ?_
      refine v_icmp_eq (tgt := 128) (pc' := 48) F dX7_readsText_45 (by decide) rfl (fun c0 => absurd c0 hne9) (fun _ => ?_)
      have hk0 : ¬ kdT t ln (sk t ln a) = 0 := fun zi => hz ((kd0 t ln _).mp zi)
      rw [show pMain t ln (fuel + 1) mp (sk t ln a) D = (match pSt t ln mp (sk t ln a) D with | .inl e => .inl e | .inr q => if kdT t ln q.1 = 3 then pMain t ln fuel false (nxT t ln q.1) q.2 else .inl (-2, q.1, q.2.1)) from pMain_s hk0] at hp
      have hss9 := sk_sk t ha
      have heb := enT_b t hsb.2
      refine v_aload_n (pc' := 49) F dX7_readsText_48 rfl (j := 0) rfl rfl ?_
      refine v_getf (pc' := 52) (v := .int (nI (sk t ln a))) F k_X7_readsText_7 hmH 20 (by decide) m_X7_readsText_f146 rfl dX7_readsText_49 rfl ?_
      refine v_istore_n (pc' := 53) (i := 1) (L' := [(1, .int (nI (sk t ln a))), (0, .ref m)]) F dX7_readsText_52 rfl (by decide) rfl rfl ?_
      refine v_aload_n (pc' := 54) F dX7_readsText_53 rfl (j := 1) rfl rfl ?_
      refine v_ldcS (pc' := 56) (i := 1) (tx := "push") F (by decide) dX7_readsText_54 rfl ?_
      by_cases hk5 : kdT t ln (sk t ln a) = 5
      · skip
        have g11 := frH _ _ (gnc (Ne.symm (g_neA hm htext)) gn0) htext
        refine v_callV (pc' := 59) (rt := (some .boolean)) (mcc := 0) (msc := 0) (As := [.ref (G.2.2 1)]) (st := []) F (fun l => y_X7_passes G z0 l (a := (sk t ln a)) (i := 1) hmH g11 ht hln hsb.2 (by omega) (by rw [hss9]; exact hk5)) gX7_readsText_X7_passes rfl hv_X7_passes (by decide) (by decide) hmH rfl rfl rfl (Nat.le_of_ble_eq_true rfl) (by omega) (by omega) dX7_readsText_56 rfl (fun v13 h12 hqp => ?_)
        obtain ⟨rfl, hmP1, frP1⟩ := hqp
        rw [hss9] at hmP1
        refine w_if_eq (tgt := 69) (pc' := 62) F (by omega) dX7_readsText_59 (by decide) rfl (fun c0 => absurd c0 (by omega)) (fun _ => ?_)
        refine v_aload_n (pc' := 63) F dX7_readsText_62 rfl (j := 1) rfl rfl ?_
        have g14 := frH _ _ (gnc (Ne.symm (g_neA hm hrows)) gn0) hrows
        have g15 := frP1 _ _ (gnc (Ne.symm (g_neA hmH g14)) gn0) g14
        have g16 := frH _ _ (gnc (Ne.symm (g_neA hm hvals)) gn0) hvals
        have g17 := frP1 _ _ (gnc (Ne.symm (g_neA hmH g16)) gn0) g16
        have g18 := frH _ _ (gnc (Ne.symm (g_neA hm hmany)) gn0) hmany
        have g19 := frP1 _ _ (gnc (Ne.symm (g_neA hmH g18)) gn0) g18
        have g20 := frH _ _ (gnc (Ne.symm (g_neA hm hway)) gn0) hway
        have g21 := frP1 _ _ (gnc (Ne.symm (g_neA hmH g20)) gn0) g20
        have g22 := frH _ _ (gnc (Ne.symm (g_neA hm htold)) gn0) htold
        have g23 := frP1 _ _ (gnc (Ne.symm (g_neA hmH g22)) gn0) g22
        have g24 := frH _ _ (gnc (Ne.symm (g_neA hm hoth)) gn0) hoth
        have g25 := frP1 _ _ (gnc (Ne.symm (g_neA hmH g24)) gn0) g24
        have g26 := frH _ _ (gnc (Ne.symm (g_neA hm hlst)) gn0) hlst
        have g27 := frP1 _ _ (gnc (Ne.symm (g_neA hmH g26)) gn0) g26
        have g28 := frP1 _ _ (gnc (Ne.symm (g_neA hmH g11)) gn0) g11
        have fr29 : gfr [rows, m, vals, many, way, told, oth, lst] h h12 := (gfr.t (gfr.mono frH (by intro q9 z9 m9; apply z9; simp only [List.mem_cons, List.not_mem_nil, or_false] at m9 ⊢; omega)) (gfr.mono frP1 (by intro q9 z9 m9; apply z9; simp only [List.mem_cons, List.not_mem_nil, or_false] at m9 ⊢; omega)))
        refine v_callV (pc' := 66) (rt := (some .boolean)) (mcc := 0) (msc := 0) (As := []) (st := []) F (fun l => c_X7_readsPush G z0 l (a := (enT t ln (sk t ln a))) ⟨_, _, _, _, _, _, hmP1, g15, ⟨_, g17⟩, ⟨_, g19⟩, ⟨_, g21⟩, ⟨_, g23⟩, ⟨_, g25⟩, ⟨_, g27⟩, htw, how, hto⟩ hnow w9 hS g28 ht hln (by omega)) gX7_readsText_X7_readsPush rfl hv_X7_readsPush (by decide) (by decide) hmP1 rfl rfl rfl (Nat.le_of_ble_eq_true rfl) (by omega) (by omega) dX7_readsText_63 rfl (fun v31 h30 hqR => ?_)
        obtain ⟨hR9, frQ⟩ := hqR
        have hP9 : pSt t ln mp (sk t ln a) D = _ := if_pos hk5
        have hxQ := frQ _ _ (gnc (g_neL g28 g15 (by decide)) (gnc (Ne.symm (g_neA hmP1 g28)) (gnc (g_neL g28 g17 (by decide)) (gnc (g_neL g28 g19 (by decide)) (gnc (g_neL g28 g21 (by decide)) (gnc (g_neL g28 g23 (by decide)) (gnc (g_neL g28 g25 (by decide)) (gnc (g_neL g28 g27 (by decide)) gn0)))))))) g28
        rcases rdT_v hR9 with rfl | rfl
        · skip
          show gV G z0 X cells slots h30 66 [(1, .int (nI (sk t ln a))), (0, .ref m)] [.int (nI 0)]
          refine v_goto (tgt := 109) F dX7_readsText_66 (by decide) ?_
          have frX := gfr.t fr29 frQ
          refine v_sub (L' := [(1, .int (nI (sk t ln a))), (0, .ref m)]) [0, 1] rfl ?_
          exact tl_X7_readsText (l := l) (lo := (enT t ln (sk t ln a))) (R := R) (b := 0) (rr := pSt t ln mp (sk t ln a) D) (NX := fun q => pMain t ln fuel false (nxT t ln q.1) q.2) F E (by omega) (by omega) hnow hxQ ht hln (by omega) (by rw [hP9]; exact hR9) (fun q eq hk3 a9 h9 R9 nu9 fr9 m1 m2 m3 m4 m5 m6 m7 m8 m9 => ih (mp := false) (a := a9) m1 m2 m3 m4 m6 (by have := (sk_b t m6).1; omega) (fun v8 h8 n1 n2 => hp v8 h8 (by rw [eq]; simp only [if_pos hk3]; rw [m7] at n1; exact reT_out m8 n1) (gfr.t frX (gfr.t m9 n2)))) (fun v8 h8 n1 n2 => hp v8 h8 n1 (gfr.t frX n2))
        · skip
          show gV G z0 X cells slots h30 66 [(1, .int (nI (sk t ln a))), (0, .ref m)] [.int (nI 1)]
          refine v_goto (tgt := 109) F dX7_readsText_66 (by decide) ?_
          have frX := gfr.t fr29 frQ
          refine v_sub (L' := [(1, .int (nI (sk t ln a))), (0, .ref m)]) [0, 1] rfl ?_
          exact tl_X7_readsText (l := l) (lo := (enT t ln (sk t ln a))) (R := R) (b := 1) (rr := pSt t ln mp (sk t ln a) D) (NX := fun q => pMain t ln fuel false (nxT t ln q.1) q.2) F E (by omega) (by omega) hnow hxQ ht hln (by omega) (by rw [hP9]; exact hR9) (fun q eq hk3 a9 h9 R9 nu9 fr9 m1 m2 m3 m4 m5 m6 m7 m8 m9 => ih (mp := false) (a := a9) m1 m2 m3 m4 m6 (by have := (sk_b t m6).1; omega) (fun v8 h8 n1 n2 => hp v8 h8 (by rw [eq]; simp only [if_pos hk3]; rw [m7] at n1; exact reT_out m8 n1) (gfr.t frX (gfr.t m9 n2)))) (fun v8 h8 n1 n2 => hp v8 h8 n1 (gfr.t frX n2))
      · skip
        have g32 := frH _ _ (gnc (Ne.symm (g_neA hm htext)) gn0) htext
        refine v_callV (pc' := 59) (rt := (some .boolean)) (mcc := 0) (msc := 0) (As := [.ref (G.2.2 1)]) (st := []) F (fun l => n_X7_passes G z0 l (a := (sk t ln a)) (i := 1) hmH g32 ht hln hsb.2 (by omega) (by rw [hss9]; exact hk5)) gX7_readsText_X7_passes rfl hv_X7_passes (by decide) (by decide) hmH rfl rfl rfl (Nat.le_of_ble_eq_true rfl) (by omega) (by omega) dX7_readsText_56 rfl (fun v34 h33 hqp => ?_)
        obtain ⟨rfl, hmP1, frP1⟩ := hqp
        rw [hss9] at hmP1
        refine w_if_eq (tgt := 69) (pc' := 62) F (by omega) dX7_readsText_59 (by decide) rfl (fun _ => ?_) (fun c0 => absurd c0 (by omega))
        refine v_aload_n (pc' := 70) F dX7_readsText_69 rfl (j := 1) rfl rfl ?_
        refine v_ldcS (pc' := 72) (i := 2) (tx := "pop") F (by decide) dX7_readsText_70 rfl ?_
        by_cases hk6 : kdT t ln (sk t ln a) = 6
        · skip
          have g35 := frP1 _ _ (gnc (Ne.symm (g_neA hmH g32)) gn0) g32
          refine v_callV (pc' := 75) (rt := (some .boolean)) (mcc := 0) (msc := 0) (As := [.ref (G.2.2 2)]) (st := []) F (fun l => y_X7_passes G z0 l (a := (sk t ln a)) (i := 2) hmP1 g35 ht hln hsb.2 (by omega) (by rw [hss9]; exact hk6)) gX7_readsText_X7_passes rfl hv_X7_passes (by decide) (by decide) hmP1 rfl rfl rfl (Nat.le_of_ble_eq_true rfl) (by omega) (by omega) dX7_readsText_72 rfl (fun v37 h36 hqp => ?_)
          obtain ⟨rfl, hmP2, frP2⟩ := hqp
          rw [hss9] at hmP2
          refine w_if_eq (tgt := 85) (pc' := 78) F (by omega) dX7_readsText_75 (by decide) rfl (fun c0 => absurd c0 (by omega)) (fun _ => ?_)
          refine v_aload_n (pc' := 79) F dX7_readsText_78 rfl (j := 1) rfl rfl ?_
          have g38 := frH _ _ (gnc (Ne.symm (g_neA hm hrows)) gn0) hrows
          have g39 := frP1 _ _ (gnc (Ne.symm (g_neA hmH g38)) gn0) g38
          have g40 := frP2 _ _ (gnc (Ne.symm (g_neA hmP1 g39)) gn0) g39
          have g41 := frH _ _ (gnc (Ne.symm (g_neA hm hvals)) gn0) hvals
          have g42 := frP1 _ _ (gnc (Ne.symm (g_neA hmH g41)) gn0) g41
          have g43 := frP2 _ _ (gnc (Ne.symm (g_neA hmP1 g42)) gn0) g42
          have g44 := frH _ _ (gnc (Ne.symm (g_neA hm hmany)) gn0) hmany
          have g45 := frP1 _ _ (gnc (Ne.symm (g_neA hmH g44)) gn0) g44
          have g46 := frP2 _ _ (gnc (Ne.symm (g_neA hmP1 g45)) gn0) g45
          have g47 := frH _ _ (gnc (Ne.symm (g_neA hm hway)) gn0) hway
          have g48 := frP1 _ _ (gnc (Ne.symm (g_neA hmH g47)) gn0) g47
          have g49 := frP2 _ _ (gnc (Ne.symm (g_neA hmP1 g48)) gn0) g48
          have g50 := frH _ _ (gnc (Ne.symm (g_neA hm htold)) gn0) htold
          have g51 := frP1 _ _ (gnc (Ne.symm (g_neA hmH g50)) gn0) g50
          have g52 := frP2 _ _ (gnc (Ne.symm (g_neA hmP1 g51)) gn0) g51
          have g53 := frH _ _ (gnc (Ne.symm (g_neA hm hoth)) gn0) hoth
          have g54 := frP1 _ _ (gnc (Ne.symm (g_neA hmH g53)) gn0) g53
          have g55 := frP2 _ _ (gnc (Ne.symm (g_neA hmP1 g54)) gn0) g54
          have g56 := frH _ _ (gnc (Ne.symm (g_neA hm hlst)) gn0) hlst
          have g57 := frP1 _ _ (gnc (Ne.symm (g_neA hmH g56)) gn0) g56
          have g58 := frP2 _ _ (gnc (Ne.symm (g_neA hmP1 g57)) gn0) g57
          have g59 := frP2 _ _ (gnc (Ne.symm (g_neA hmP1 g35)) gn0) g35
          have fr60 : gfr [rows, m, vals, many, way, told, oth, lst] h h36 := (gfr.t (gfr.mono frH (by intro q9 z9 m9; apply z9; simp only [List.mem_cons, List.not_mem_nil, or_false] at m9 ⊢; omega)) (gfr.t (gfr.mono frP1 (by intro q9 z9 m9; apply z9; simp only [List.mem_cons, List.not_mem_nil, or_false] at m9 ⊢; omega)) (gfr.mono frP2 (by intro q9 z9 m9; apply z9; simp only [List.mem_cons, List.not_mem_nil, or_false] at m9 ⊢; omega))))
          refine v_callV (pc' := 82) (rt := (some .boolean)) (mcc := 0) (msc := 0) (As := []) (st := []) F (fun l => c_X7_readsPop G z0 l (a := (enT t ln (sk t ln a))) ⟨_, _, _, _, _, _, hmP2, g40, ⟨_, g43⟩, ⟨_, g46⟩, ⟨_, g49⟩, ⟨_, g52⟩, ⟨_, g55⟩, ⟨_, g58⟩, htw, how, hto⟩ hnow w9 hS g59 ht hln (by omega)) gX7_readsText_X7_readsPop rfl hv_X7_readsPop (by decide) (by decide) hmP2 rfl rfl rfl (Nat.le_of_ble_eq_true rfl) (by omega) (by omega) dX7_readsText_79 rfl (fun v62 h61 hqR => ?_)
          obtain ⟨hR9, frQ⟩ := hqR
          have hP9 : pSt t ln mp (sk t ln a) D = _ := (if_neg hk5).trans (if_pos hk6)
          have hxQ := frQ _ _ (gnc (g_neL g59 g40 (by decide)) (gnc (Ne.symm (g_neA hmP2 g59)) (gnc (g_neL g59 g43 (by decide)) (gnc (g_neL g59 g46 (by decide)) (gnc (g_neL g59 g49 (by decide)) (gnc (g_neL g59 g52 (by decide)) (gnc (g_neL g59 g55 (by decide)) (gnc (g_neL g59 g58 (by decide)) gn0)))))))) g59
          rcases rdT_v hR9 with rfl | rfl
          · skip
            show gV G z0 X cells slots h61 82 [(1, .int (nI (sk t ln a))), (0, .ref m)] [.int (nI 0)]
            refine v_goto (tgt := 109) F dX7_readsText_82 (by decide) ?_
            have frX := gfr.t fr60 frQ
            refine v_sub (L' := [(1, .int (nI (sk t ln a))), (0, .ref m)]) [0, 1] rfl ?_
            exact tl_X7_readsText (l := l) (lo := (enT t ln (sk t ln a))) (R := R) (b := 0) (rr := pSt t ln mp (sk t ln a) D) (NX := fun q => pMain t ln fuel false (nxT t ln q.1) q.2) F E (by omega) (by omega) hnow hxQ ht hln (by omega) (by rw [hP9]; exact hR9) (fun q eq hk3 a9 h9 R9 nu9 fr9 m1 m2 m3 m4 m5 m6 m7 m8 m9 => ih (mp := false) (a := a9) m1 m2 m3 m4 m6 (by have := (sk_b t m6).1; omega) (fun v8 h8 n1 n2 => hp v8 h8 (by rw [eq]; simp only [if_pos hk3]; rw [m7] at n1; exact reT_out m8 n1) (gfr.t frX (gfr.t m9 n2)))) (fun v8 h8 n1 n2 => hp v8 h8 n1 (gfr.t frX n2))
          · skip
            show gV G z0 X cells slots h61 82 [(1, .int (nI (sk t ln a))), (0, .ref m)] [.int (nI 1)]
            refine v_goto (tgt := 109) F dX7_readsText_82 (by decide) ?_
            have frX := gfr.t fr60 frQ
            refine v_sub (L' := [(1, .int (nI (sk t ln a))), (0, .ref m)]) [0, 1] rfl ?_
            exact tl_X7_readsText (l := l) (lo := (enT t ln (sk t ln a))) (R := R) (b := 1) (rr := pSt t ln mp (sk t ln a) D) (NX := fun q => pMain t ln fuel false (nxT t ln q.1) q.2) F E (by omega) (by omega) hnow hxQ ht hln (by omega) (by rw [hP9]; exact hR9) (fun q eq hk3 a9 h9 R9 nu9 fr9 m1 m2 m3 m4 m5 m6 m7 m8 m9 => ih (mp := false) (a := a9) m1 m2 m3 m4 m6 (by have := (sk_b t m6).1; omega) (fun v8 h8 n1 n2 => hp v8 h8 (by rw [eq]; simp only [if_pos hk3]; rw [m7] at n1; exact reT_out m8 n1) (gfr.t frX (gfr.t m9 n2)))) (fun v8 h8 n1 n2 => hp v8 h8 n1 (gfr.t frX n2))
        · skip
          have g63 := frP1 _ _ (gnc (Ne.symm (g_neA hmH g32)) gn0) g32
          refine v_callV (pc' := 75) (rt := (some .boolean)) (mcc := 0) (msc := 0) (As := [.ref (G.2.2 2)]) (st := []) F (fun l => n_X7_passes G z0 l (a := (sk t ln a)) (i := 2) hmP1 g63 ht hln hsb.2 (by omega) (by rw [hss9]; exact hk6)) gX7_readsText_X7_passes rfl hv_X7_passes (by decide) (by decide) hmP1 rfl rfl rfl (Nat.le_of_ble_eq_true rfl) (by omega) (by omega) dX7_readsText_72 rfl (fun v65 h64 hqp => ?_)
          obtain ⟨rfl, hmP2, frP2⟩ := hqp
          rw [hss9] at hmP2
          refine w_if_eq (tgt := 85) (pc' := 78) F (by omega) dX7_readsText_75 (by decide) rfl (fun _ => ?_) (fun c0 => absurd c0 (by omega))
          refine v_aload_n (pc' := 86) F dX7_readsText_85 rfl (j := 1) rfl rfl ?_
          refine v_ldcS (pc' := 88) (i := 3) (tx := "pace") F (by decide) dX7_readsText_86 rfl ?_
          by_cases hk7 : kdT t ln (sk t ln a) = 7
          · skip
            have g66 := frP2 _ _ (gnc (Ne.symm (g_neA hmP1 g63)) gn0) g63
            refine v_callV (pc' := 91) (rt := (some .boolean)) (mcc := 0) (msc := 0) (As := [.ref (G.2.2 3)]) (st := []) F (fun l => y_X7_passes G z0 l (a := (sk t ln a)) (i := 3) hmP2 g66 ht hln hsb.2 (by omega) (by rw [hss9]; exact hk7)) gX7_readsText_X7_passes rfl hv_X7_passes (by decide) (by decide) hmP2 rfl rfl rfl (Nat.le_of_ble_eq_true rfl) (by omega) (by omega) dX7_readsText_88 rfl (fun v68 h67 hqp => ?_)
            obtain ⟨rfl, hmP3, frP3⟩ := hqp
            rw [hss9] at hmP3
            refine w_if_eq (tgt := 102) (pc' := 94) F (by omega) dX7_readsText_91 (by decide) rfl (fun c0 => absurd c0 (by omega)) (fun _ => ?_)
            refine v_aload_n (pc' := 95) F dX7_readsText_94 rfl (j := 1) rfl rfl ?_
            refine v_iload_n (pc' := 96) F dX7_readsText_95 rfl (j := 0) rfl rfl ?_
            cases mp with
            | false =>
              have g69 := frH _ _ (gnc (Ne.symm (g_neA hm hrows)) gn0) hrows
              have g70 := frP1 _ _ (gnc (Ne.symm (g_neA hmH g69)) gn0) g69
              have g71 := frP2 _ _ (gnc (Ne.symm (g_neA hmP1 g70)) gn0) g70
              have g72 := frP3 _ _ (gnc (Ne.symm (g_neA hmP2 g71)) gn0) g71
              have g73 := frH _ _ (gnc (Ne.symm (g_neA hm hvals)) gn0) hvals
              have g74 := frP1 _ _ (gnc (Ne.symm (g_neA hmH g73)) gn0) g73
              have g75 := frP2 _ _ (gnc (Ne.symm (g_neA hmP1 g74)) gn0) g74
              have g76 := frP3 _ _ (gnc (Ne.symm (g_neA hmP2 g75)) gn0) g75
              have g77 := frH _ _ (gnc (Ne.symm (g_neA hm hmany)) gn0) hmany
              have g78 := frP1 _ _ (gnc (Ne.symm (g_neA hmH g77)) gn0) g77
              have g79 := frP2 _ _ (gnc (Ne.symm (g_neA hmP1 g78)) gn0) g78
              have g80 := frP3 _ _ (gnc (Ne.symm (g_neA hmP2 g79)) gn0) g79
              have g81 := frH _ _ (gnc (Ne.symm (g_neA hm hway)) gn0) hway
              have g82 := frP1 _ _ (gnc (Ne.symm (g_neA hmH g81)) gn0) g81
              have g83 := frP2 _ _ (gnc (Ne.symm (g_neA hmP1 g82)) gn0) g82
              have g84 := frP3 _ _ (gnc (Ne.symm (g_neA hmP2 g83)) gn0) g83
              have g85 := frH _ _ (gnc (Ne.symm (g_neA hm htold)) gn0) htold
              have g86 := frP1 _ _ (gnc (Ne.symm (g_neA hmH g85)) gn0) g85
              have g87 := frP2 _ _ (gnc (Ne.symm (g_neA hmP1 g86)) gn0) g86
              have g88 := frP3 _ _ (gnc (Ne.symm (g_neA hmP2 g87)) gn0) g87
              have g89 := frH _ _ (gnc (Ne.symm (g_neA hm hoth)) gn0) hoth
              have g90 := frP1 _ _ (gnc (Ne.symm (g_neA hmH g89)) gn0) g89
              have g91 := frP2 _ _ (gnc (Ne.symm (g_neA hmP1 g90)) gn0) g90
              have g92 := frP3 _ _ (gnc (Ne.symm (g_neA hmP2 g91)) gn0) g91
              have g93 := frH _ _ (gnc (Ne.symm (g_neA hm hlst)) gn0) hlst
              have g94 := frP1 _ _ (gnc (Ne.symm (g_neA hmH g93)) gn0) g93
              have g95 := frP2 _ _ (gnc (Ne.symm (g_neA hmP1 g94)) gn0) g94
              have g96 := frP3 _ _ (gnc (Ne.symm (g_neA hmP2 g95)) gn0) g95
              have g97 := frP3 _ _ (gnc (Ne.symm (g_neA hmP2 g66)) gn0) g66
              have fr98 : gfr [rows, m, vals, many, way, told, oth, lst] h h67 := (gfr.t (gfr.mono frH (by intro q9 z9 m9; apply z9; simp only [List.mem_cons, List.not_mem_nil, or_false] at m9 ⊢; omega)) (gfr.t (gfr.mono frP1 (by intro q9 z9 m9; apply z9; simp only [List.mem_cons, List.not_mem_nil, or_false] at m9 ⊢; omega)) (gfr.t (gfr.mono frP2 (by intro q9 z9 m9; apply z9; simp only [List.mem_cons, List.not_mem_nil, or_false] at m9 ⊢; omega)) (gfr.mono frP3 (by intro q9 z9 m9; apply z9; simp only [List.mem_cons, List.not_mem_nil, or_false] at m9 ⊢; omega)))))
              refine v_callV (pc' := 99) (rt := (some .boolean)) (mcc := 0) (msc := 0) (As := [.int (nI (sk t ln a))]) (st := []) F (fun l => n_X7_readsPace G z0 l (D := D) (b0 := (sk t ln a)) (a := (enT t ln (sk t ln a))) ⟨_, _, _, _, _, _, hmP3, g72, ⟨_, g76⟩, ⟨_, g80⟩, ⟨_, g84⟩, ⟨_, g88⟩, ⟨_, g92⟩, ⟨_, g96⟩, htw, how, hto⟩ hnow w9 hS g97 ht hln (by omega)) gX7_readsText_X7_readsPace rfl hv_X7_readsPace (by decide) (by decide) hmP3 rfl rfl rfl (Nat.le_of_ble_eq_true rfl) (by omega) (by omega) dX7_readsText_96 rfl (fun v100 h99 hqR => ?_)
              obtain ⟨hR9, frQ⟩ := hqR
              have hP9 : pSt t ln false (sk t ln a) D = _ := (if_neg hk5).trans ((if_neg hk6).trans (if_neg (fun zi => absurd zi.2 (by decide))))
              have hxQ := frQ _ _ (gnc (g_neL g97 g72 (by decide)) (gnc (Ne.symm (g_neA hmP3 g97)) (gnc (g_neL g97 g76 (by decide)) (gnc (g_neL g97 g80 (by decide)) (gnc (g_neL g97 g84 (by decide)) (gnc (g_neL g97 g88 (by decide)) (gnc (g_neL g97 g92 (by decide)) (gnc (g_neL g97 g96 (by decide)) gn0)))))))) g97
              rcases rdT_v hR9 with rfl | rfl
              · skip
                show gV G z0 X cells slots h99 99 [(1, .int (nI (sk t ln a))), (0, .ref m)] [.int (nI 0)]
                refine v_goto (tgt := 109) F dX7_readsText_99 (by decide) ?_
                have frX := gfr.t fr98 frQ
                refine v_sub (L' := [(1, .int (nI (sk t ln a))), (0, .ref m)]) [0, 1] rfl ?_
                exact tl_X7_readsText (l := l) (lo := (enT t ln (sk t ln a))) (R := R) (b := 0) (rr := pSt t ln false (sk t ln a) D) (NX := fun q => pMain t ln fuel false (nxT t ln q.1) q.2) F E (by omega) (by omega) hnow hxQ ht hln (by omega) (by rw [hP9]; exact hR9) (fun q eq hk3 a9 h9 R9 nu9 fr9 m1 m2 m3 m4 m5 m6 m7 m8 m9 => ih (mp := false) (a := a9) m1 m2 m3 m4 m6 (by have := (sk_b t m6).1; omega) (fun v8 h8 n1 n2 => hp v8 h8 (by rw [eq]; simp only [if_pos hk3]; rw [m7] at n1; exact reT_out m8 n1) (gfr.t frX (gfr.t m9 n2)))) (fun v8 h8 n1 n2 => hp v8 h8 n1 (gfr.t frX n2))
              · skip
                show gV G z0 X cells slots h99 99 [(1, .int (nI (sk t ln a))), (0, .ref m)] [.int (nI 1)]
                refine v_goto (tgt := 109) F dX7_readsText_99 (by decide) ?_
                have frX := gfr.t fr98 frQ
                refine v_sub (L' := [(1, .int (nI (sk t ln a))), (0, .ref m)]) [0, 1] rfl ?_
                exact tl_X7_readsText (l := l) (lo := (enT t ln (sk t ln a))) (R := R) (b := 1) (rr := pSt t ln false (sk t ln a) D) (NX := fun q => pMain t ln fuel false (nxT t ln q.1) q.2) F E (by omega) (by omega) hnow hxQ ht hln (by omega) (by rw [hP9]; exact hR9) (fun q eq hk3 a9 h9 R9 nu9 fr9 m1 m2 m3 m4 m5 m6 m7 m8 m9 => ih (mp := false) (a := a9) m1 m2 m3 m4 m6 (by have := (sk_b t m6).1; omega) (fun v8 h8 n1 n2 => hp v8 h8 (by rw [eq]; simp only [if_pos hk3]; rw [m7] at n1; exact reT_out m8 n1) (gfr.t frX (gfr.t m9 n2)))) (fun v8 h8 n1 n2 => hp v8 h8 n1 (gfr.t frX n2))
            | true =>
              have g101 := frH _ _ (gnc (Ne.symm (g_neA hm hrows)) gn0) hrows
              have g102 := frP1 _ _ (gnc (Ne.symm (g_neA hmH g101)) gn0) g101
              have g103 := frP2 _ _ (gnc (Ne.symm (g_neA hmP1 g102)) gn0) g102
              have g104 := frP3 _ _ (gnc (Ne.symm (g_neA hmP2 g103)) gn0) g103
              have g105 := frH _ _ (gnc (Ne.symm (g_neA hm hvals)) gn0) hvals
              have g106 := frP1 _ _ (gnc (Ne.symm (g_neA hmH g105)) gn0) g105
              have g107 := frP2 _ _ (gnc (Ne.symm (g_neA hmP1 g106)) gn0) g106
              have g108 := frP3 _ _ (gnc (Ne.symm (g_neA hmP2 g107)) gn0) g107
              have g109 := frH _ _ (gnc (Ne.symm (g_neA hm hmany)) gn0) hmany
              have g110 := frP1 _ _ (gnc (Ne.symm (g_neA hmH g109)) gn0) g109
              have g111 := frP2 _ _ (gnc (Ne.symm (g_neA hmP1 g110)) gn0) g110
              have g112 := frP3 _ _ (gnc (Ne.symm (g_neA hmP2 g111)) gn0) g111
              have g113 := frH _ _ (gnc (Ne.symm (g_neA hm hway)) gn0) hway
              have g114 := frP1 _ _ (gnc (Ne.symm (g_neA hmH g113)) gn0) g113
              have g115 := frP2 _ _ (gnc (Ne.symm (g_neA hmP1 g114)) gn0) g114
              have g116 := frP3 _ _ (gnc (Ne.symm (g_neA hmP2 g115)) gn0) g115
              have g117 := frH _ _ (gnc (Ne.symm (g_neA hm htold)) gn0) htold
              have g118 := frP1 _ _ (gnc (Ne.symm (g_neA hmH g117)) gn0) g117
              have g119 := frP2 _ _ (gnc (Ne.symm (g_neA hmP1 g118)) gn0) g118
              have g120 := frP3 _ _ (gnc (Ne.symm (g_neA hmP2 g119)) gn0) g119
              have g121 := frH _ _ (gnc (Ne.symm (g_neA hm hoth)) gn0) hoth
              have g122 := frP1 _ _ (gnc (Ne.symm (g_neA hmH g121)) gn0) g121
              have g123 := frP2 _ _ (gnc (Ne.symm (g_neA hmP1 g122)) gn0) g122
              have g124 := frP3 _ _ (gnc (Ne.symm (g_neA hmP2 g123)) gn0) g123
              have g125 := frH _ _ (gnc (Ne.symm (g_neA hm hlst)) gn0) hlst
              have g126 := frP1 _ _ (gnc (Ne.symm (g_neA hmH g125)) gn0) g125
              have g127 := frP2 _ _ (gnc (Ne.symm (g_neA hmP1 g126)) gn0) g126
              have g128 := frP3 _ _ (gnc (Ne.symm (g_neA hmP2 g127)) gn0) g127
              have g129 := frP3 _ _ (gnc (Ne.symm (g_neA hmP2 g66)) gn0) g66
              have fr130 : gfr [rows, m, vals, many, way, told, oth, lst] h h67 := (gfr.t (gfr.mono frH (by intro q9 z9 m9; apply z9; simp only [List.mem_cons, List.not_mem_nil, or_false] at m9 ⊢; omega)) (gfr.t (gfr.mono frP1 (by intro q9 z9 m9; apply z9; simp only [List.mem_cons, List.not_mem_nil, or_false] at m9 ⊢; omega)) (gfr.t (gfr.mono frP2 (by intro q9 z9 m9; apply z9; simp only [List.mem_cons, List.not_mem_nil, or_false] at m9 ⊢; omega)) (gfr.mono frP3 (by intro q9 z9 m9; apply z9; simp only [List.mem_cons, List.not_mem_nil, or_false] at m9 ⊢; omega)))))
              refine v_callV (pc' := 99) (rt := (some .boolean)) (mcc := 0) (msc := 0) (As := [.int (nI (sk t ln a))]) (st := []) F (fun l => c_X7_readsPace G z0 l (D := D) (b0 := (sk t ln a)) (a := (enT t ln (sk t ln a))) ⟨_, _, _, _, _, _, hmP3, g104, ⟨_, g108⟩, ⟨_, g112⟩, ⟨_, g116⟩, ⟨_, g120⟩, ⟨_, g124⟩, ⟨_, g128⟩, htw, how, hto⟩ hnow w9 hS g129 ht hln (by omega)) gX7_readsText_X7_readsPace rfl hv_X7_readsPace (by decide) (by decide) hmP3 rfl rfl rfl (Nat.le_of_ble_eq_true rfl) (by omega) (by omega) dX7_readsText_96 rfl (fun v132 h131 hqR => ?_)
              obtain ⟨hR9, frQ⟩ := hqR
              have hP9 : pSt t ln true (sk t ln a) D = _ := (if_neg hk5).trans ((if_neg hk6).trans (if_pos ⟨hk7, rfl⟩))
              have hxQ := frQ _ _ (gnc (g_neL g129 g104 (by decide)) (gnc (Ne.symm (g_neA hmP3 g129)) (gnc (g_neL g129 g108 (by decide)) (gnc (g_neL g129 g112 (by decide)) (gnc (g_neL g129 g116 (by decide)) (gnc (g_neL g129 g120 (by decide)) (gnc (g_neL g129 g124 (by decide)) (gnc (g_neL g129 g128 (by decide)) gn0)))))))) g129
              rcases rdT_v hR9 with rfl | rfl
              · skip
                show gV G z0 X cells slots h131 99 [(1, .int (nI (sk t ln a))), (0, .ref m)] [.int (nI 0)]
                refine v_goto (tgt := 109) F dX7_readsText_99 (by decide) ?_
                have frX := gfr.t fr130 frQ
                refine v_sub (L' := [(1, .int (nI (sk t ln a))), (0, .ref m)]) [0, 1] rfl ?_
                exact tl_X7_readsText (l := l) (lo := (enT t ln (sk t ln a))) (R := R) (b := 0) (rr := pSt t ln true (sk t ln a) D) (NX := fun q => pMain t ln fuel false (nxT t ln q.1) q.2) F E (by omega) (by omega) hnow hxQ ht hln (by omega) (by rw [hP9]; exact hR9) (fun q eq hk3 a9 h9 R9 nu9 fr9 m1 m2 m3 m4 m5 m6 m7 m8 m9 => ih (mp := false) (a := a9) m1 m2 m3 m4 m6 (by have := (sk_b t m6).1; omega) (fun v8 h8 n1 n2 => hp v8 h8 (by rw [eq]; simp only [if_pos hk3]; rw [m7] at n1; exact reT_out m8 n1) (gfr.t frX (gfr.t m9 n2)))) (fun v8 h8 n1 n2 => hp v8 h8 n1 (gfr.t frX n2))
              · skip
                show gV G z0 X cells slots h131 99 [(1, .int (nI (sk t ln a))), (0, .ref m)] [.int (nI 1)]
                refine v_goto (tgt := 109) F dX7_readsText_99 (by decide) ?_
                have frX := gfr.t fr130 frQ
                refine v_sub (L' := [(1, .int (nI (sk t ln a))), (0, .ref m)]) [0, 1] rfl ?_
                exact tl_X7_readsText (l := l) (lo := (enT t ln (sk t ln a))) (R := R) (b := 1) (rr := pSt t ln true (sk t ln a) D) (NX := fun q => pMain t ln fuel false (nxT t ln q.1) q.2) F E (by omega) (by omega) hnow hxQ ht hln (by omega) (by rw [hP9]; exact hR9) (fun q eq hk3 a9 h9 R9 nu9 fr9 m1 m2 m3 m4 m5 m6 m7 m8 m9 => ih (mp := false) (a := a9) m1 m2 m3 m4 m6 (by have := (sk_b t m6).1; omega) (fun v8 h8 n1 n2 => hp v8 h8 (by rw [eq]; simp only [if_pos hk3]; rw [m7] at n1; exact reT_out m8 n1) (gfr.t frX (gfr.t m9 n2)))) (fun v8 h8 n1 n2 => hp v8 h8 n1 (gfr.t frX n2))
          · skip
            have g133 := frP2 _ _ (gnc (Ne.symm (g_neA hmP1 g63)) gn0) g63
            refine v_callV (pc' := 91) (rt := (some .boolean)) (mcc := 0) (msc := 0) (As := [.ref (G.2.2 3)]) (st := []) F (fun l => n_X7_passes G z0 l (a := (sk t ln a)) (i := 3) hmP2 g133 ht hln hsb.2 (by omega) (by rw [hss9]; exact hk7)) gX7_readsText_X7_passes rfl hv_X7_passes (by decide) (by decide) hmP2 rfl rfl rfl (Nat.le_of_ble_eq_true rfl) (by omega) (by omega) dX7_readsText_88 rfl (fun v135 h134 hqp => ?_)
            obtain ⟨rfl, hmP3, frP3⟩ := hqp
            rw [hss9] at hmP3
            refine w_if_eq (tgt := 102) (pc' := 94) F (by omega) dX7_readsText_91 (by decide) rfl (fun _ => ?_) (fun c0 => absurd c0 (by omega))
            refine v_aload_n (pc' := 103) F dX7_readsText_102 rfl (j := 1) rfl rfl ?_
            refine v_bipush (pc' := 105) (v := (-2)) F dX7_readsText_103 (by decide) rfl ?_
            refine v_iload_n (pc' := 106) F dX7_readsText_105 rfl (j := 0) rfl rfl ?_
            refine v_callV (pc' := 109) (rt := (some .boolean)) (mcc := 0) (msc := 0) (As := [.int (-2), .int (nI (sk t ln a))]) (st := []) F (fun l => c_X7_fails G z0 l (-2) (nI (sk t ln a)) hmP3) gX7_readsText_X7_fails rfl hv_X7_fails (by decide) (by decide) hmP3 rfl rfl rfl (Nat.le_of_ble_eq_true rfl) (by omega) (by omega) dX7_readsText_106 rfl (fun v137 h136 hqf => ?_)
            obtain ⟨rfl, hmF, frF⟩ := hqf
            have fr138 : gfr [rows, m, vals, many, way, told, oth, lst] h h136 := (gfr.t (gfr.mono frH (by intro q9 z9 m9; apply z9; simp only [List.mem_cons, List.not_mem_nil, or_false] at m9 ⊢; omega)) (gfr.t (gfr.mono frP1 (by intro q9 z9 m9; apply z9; simp only [List.mem_cons, List.not_mem_nil, or_false] at m9 ⊢; omega)) (gfr.t (gfr.mono frP2 (by intro q9 z9 m9; apply z9; simp only [List.mem_cons, List.not_mem_nil, or_false] at m9 ⊢; omega)) (gfr.t (gfr.mono frP3 (by intro q9 z9 m9; apply z9; simp only [List.mem_cons, List.not_mem_nil, or_false] at m9 ⊢; omega)) (gfr.mono frF (by intro q9 z9 m9; apply z9; simp only [List.mem_cons, List.not_mem_nil, or_false] at m9 ⊢; omega))))))
            have g139 := frH _ _ (gnc (Ne.symm (g_neA hm hrows)) gn0) hrows
            have g140 := frP1 _ _ (gnc (Ne.symm (g_neA hmH g139)) gn0) g139
            have g141 := frP2 _ _ (gnc (Ne.symm (g_neA hmP1 g140)) gn0) g140
            have g142 := frP3 _ _ (gnc (Ne.symm (g_neA hmP2 g141)) gn0) g141
            have g143 := frF _ _ (gnc (Ne.symm (g_neA hmP3 g142)) gn0) g142
            have g144 := frH _ _ (gnc (Ne.symm (g_neA hm hvals)) gn0) hvals
            have g145 := frP1 _ _ (gnc (Ne.symm (g_neA hmH g144)) gn0) g144
            have g146 := frP2 _ _ (gnc (Ne.symm (g_neA hmP1 g145)) gn0) g145
            have g147 := frP3 _ _ (gnc (Ne.symm (g_neA hmP2 g146)) gn0) g146
            have g148 := frF _ _ (gnc (Ne.symm (g_neA hmP3 g147)) gn0) g147
            have g149 := frH _ _ (gnc (Ne.symm (g_neA hm hmany)) gn0) hmany
            have g150 := frP1 _ _ (gnc (Ne.symm (g_neA hmH g149)) gn0) g149
            have g151 := frP2 _ _ (gnc (Ne.symm (g_neA hmP1 g150)) gn0) g150
            have g152 := frP3 _ _ (gnc (Ne.symm (g_neA hmP2 g151)) gn0) g151
            have g153 := frF _ _ (gnc (Ne.symm (g_neA hmP3 g152)) gn0) g152
            have g154 := frH _ _ (gnc (Ne.symm (g_neA hm hway)) gn0) hway
            have g155 := frP1 _ _ (gnc (Ne.symm (g_neA hmH g154)) gn0) g154
            have g156 := frP2 _ _ (gnc (Ne.symm (g_neA hmP1 g155)) gn0) g155
            have g157 := frP3 _ _ (gnc (Ne.symm (g_neA hmP2 g156)) gn0) g156
            have g158 := frF _ _ (gnc (Ne.symm (g_neA hmP3 g157)) gn0) g157
            have g159 := frH _ _ (gnc (Ne.symm (g_neA hm htold)) gn0) htold
            have g160 := frP1 _ _ (gnc (Ne.symm (g_neA hmH g159)) gn0) g159
            have g161 := frP2 _ _ (gnc (Ne.symm (g_neA hmP1 g160)) gn0) g160
            have g162 := frP3 _ _ (gnc (Ne.symm (g_neA hmP2 g161)) gn0) g161
            have g163 := frF _ _ (gnc (Ne.symm (g_neA hmP3 g162)) gn0) g162
            have g164 := frH _ _ (gnc (Ne.symm (g_neA hm hoth)) gn0) hoth
            have g165 := frP1 _ _ (gnc (Ne.symm (g_neA hmH g164)) gn0) g164
            have g166 := frP2 _ _ (gnc (Ne.symm (g_neA hmP1 g165)) gn0) g165
            have g167 := frP3 _ _ (gnc (Ne.symm (g_neA hmP2 g166)) gn0) g166
            have g168 := frF _ _ (gnc (Ne.symm (g_neA hmP3 g167)) gn0) g167
            have g169 := frH _ _ (gnc (Ne.symm (g_neA hm hlst)) gn0) hlst
            have g170 := frP1 _ _ (gnc (Ne.symm (g_neA hmH g169)) gn0) g169
            have g171 := frP2 _ _ (gnc (Ne.symm (g_neA hmP1 g170)) gn0) g170
            have g172 := frP3 _ _ (gnc (Ne.symm (g_neA hmP2 g171)) gn0) g171
            have g173 := frF _ _ (gnc (Ne.symm (g_neA hmP3 g172)) gn0) g172
            have g174 := frP3 _ _ (gnc (Ne.symm (g_neA hmP2 g133)) gn0) g133
            have g175 := frF _ _ (gnc (Ne.symm (g_neA hmP3 g174)) gn0) g174
            refine v_sub (L' := [(1, .int (nI (sk t ln a))), (0, .ref m)]) [0, 1] rfl ?_
            have hP9 : pSt t ln mp (sk t ln a) D = .inl (-2, (sk t ln a), D.1) := (if_neg hk5).trans ((if_neg hk6).trans (if_neg (fun zi => hk7 zi.1)))
            exact tl_X7_readsText (l := l) (lo := (sk t ln a)) (R := R) (b := 0) (rr := pSt t ln mp (sk t ln a) D) (NX := fun q => pMain t ln fuel false (nxT t ln q.1) q.2) F E (by omega) (by omega) hnow g175 ht hln (by omega) (by rw [hP9]; exact rdT_e (R2 := R) rfl ⟨_, _, _, _, _, _, hmF, g143, ⟨_, g148⟩, ⟨_, g153⟩, ⟨_, g158⟩, ⟨_, g163⟩, ⟨_, g168⟩, ⟨_, g173⟩, htw, how, hto⟩ (fun q hq => rfl)) (fun q eq hk3 a9 h9 R9 nu9 fr9 m1 m2 m3 m4 m5 m6 m7 m8 m9 => ih (mp := false) (a := a9) m1 m2 m3 m4 m6 (by have := (sk_b t m6).1; omega) (fun v8 h8 n1 n2 => hp v8 h8 (by rw [eq]; simp only [if_pos hk3]; rw [m7] at n1; exact reT_out m8 n1) (gfr.t fr138 (gfr.t m9 n2)))) (fun v8 h8 n1 n2 => hp v8 h8 n1 (gfr.t fr138 n2))
