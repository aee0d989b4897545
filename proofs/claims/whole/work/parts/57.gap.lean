/-! THE REFERENCE, as a query finds it; and with a queue laid -/
def mS (G : gG) (h : gH) (m rows asd vals many way told oth lst text : Nat) (th : Int32) (now : Nat) (und fed len spot fa fat num frm may : Int32) (R : Nat → Int32) : Prop := ∃ fl rl kd ok st wm : Int32, h m = some (.inr (7, [.int th, .ref rows, .ref asd, .int (nI now), .int und, .ref vals, .ref many, .int fl, .int rl, .int kd, .int ok, .int st, .ref way, .int wm, .ref told, .ref oth, .ref lst, .ref text, .int fed, .int len, .int spot, .int fa, .int fat, .int num, .int frm, .int may])) ∧ h rows = some (oI G 2970 R) ∧ (∃ V, h vals = some (oI G 384 V)) ∧ (∃ M, h many = some (oI G 6 M)) ∧ (∃ W, h way = some (oI G 64 W)) ∧ (∃ f, h told = some (oI G 64 f)) ∧ (∃ g, h oth = some (oI G 64 g)) ∧ (∃ ll, h lst = some (oI G 128 ll)) ∧ told ≠ way ∧ oth ≠ way ∧ told ≠ oth
def mL (G : gG) (h : gH) (m rows asd vals many way told oth lst text : Nat) (th : Int32) (now : Nat) (und fed len spot fa fat num frm may : Int32) (R : Nat → Int32) (q : mQ × Nat) : Prop := ∃ wm : Int32, h m = some (.inr (7, [.int th, .ref rows, .ref asd, .int (nI now), .int und, .ref vals, .ref many, .int (nI q.1.2.2.1), .int (nI q.1.2.2.2.1), .int (nI q.1.2.2.2.2.1), .int (nI q.1.2.2.2.2.2.1), .int (nI q.2), .ref way, .int wm, .ref told, .ref oth, .ref lst, .ref text, .int fed, .int len, .int spot, .int fa, .int fat, .int num, .int frm, .int may])) ∧ h rows = some (oI G 2970 R) ∧ isMq G h vals many q.1 ∧ (∃ W, h way = some (oI G 64 W)) ∧ (∃ f, h told = some (oI G 64 f)) ∧ (∃ g, h oth = some (oI G 64 g)) ∧ (∃ ll, h lst = some (oI G 128 ll)) ∧ told ≠ way ∧ oth ≠ way ∧ told ≠ oth
theorem mL.s {G : gG} {h : gH} {m rows asd vals many way told oth lst text now : Nat} {th und fed len spot fa fat num frm may : Int32} {R : Nat → Int32} {q : mQ × Nat} (h9 : mL G h m rows asd vals many way told oth lst text th now und fed len spot fa fat num frm may R q) : mS G h m rows asd vals many way told oth lst text th now und fed len spot fa fat num frm may R := by
  obtain ⟨wm, hm, hrows, ⟨V, M, ls, hvals, hmany, -, -⟩, hway, htold, hoth, hlst, hn⟩ := h9
  exact ⟨_, _, _, _, _, wm, hm, hrows, ⟨V, hvals⟩, ⟨M, hmany⟩, hway, htold, hoth, hlst, hn⟩
theorem k_X7_isGap_7 : gCl wsX7_isGap 7 RX7 TX7 26 := ⟨by decide +kernel, rfl⟩
theorem m_X7_isGap_f31 : Cond.fieldLink RX7 31 "SteadyQueuesModel" "listed" "[I" ∈ wsX7_isGap := by decide +kernel
theorem m_X7_isGap_f25 : Cond.fieldLink RX7 25 "SteadyQueuesModel" "told" "[I" ∈ wsX7_isGap := by decide +kernel
set_option maxHeartbeats 4000000 in
set_option maxRecDepth 100000 in
theorem lp_X7_isGap {G : gG} {z0 : Nat} {X : gX} {l : Launch} {post : Option Value → gH → Prop} {mc ms cells slots j k v : Nat} {h : gH} {m rows asd vals many way told oth lst text : Nat} {th now und fl rl kd ok st wm fed len spot fa fat num frm may : Int32} {f g : Nat → Int32} {xs : List Int32} (F : gF G z0 X cX7_isGap 5 RX7 wsX7_isGap (some .boolean) "isGap" 5 112 mc ms) (E : gE G z0 X post mc ms) (hcc : cells ≤ mc) (hss : slots ≤ ms) (hm : h m = some (.inr (7, [.int th, .ref rows, .ref asd, .int now, .int und, .ref vals, .ref many, .int fl, .int rl, .int kd, .int ok, .int st, .ref way, .int wm, .ref told, .ref oth, .ref lst, .ref text, .int fed, .int len, .int spot, .int fa, .int fat, .int num, .int frm, .int may]))) (htold : h told = some (oI G 64 f)) (hlst : h lst = some (oI G 128 g)) (hf : fHas f 0 xs) (hg : fHas g 0 xs) (hl : xs.length ≤ 64) (hkj : k + j = xs.length) (hp : post (some (.int (nI 0))) h) : gV G z0 X cells slots h 28 [(4, .int (nI k)), (3, .int (nI 1)), (2, .int (nI xs.length)), (1, .int (nI v)), (0, .ref m)] [] := by
  induction j generalizing k with
  | zero =>
    obtain rfl : k = xs.length := by omega
    refine v_iload (pc' := 30) F dX7_isGap_28  (j := 0) rfl rfl ?_
    refine v_iload_n (pc' := 31) F dX7_isGap_30 rfl (j := 2) rfl rfl ?_
    refine w_icmp_ge (tgt := 67) (pc' := 34) F (by omega) (by omega) dX7_isGap_31 (by decide) rfl (fun _ => ?_) (fun c0 => absurd c0 (by omega))
    refine v_iload_n (pc' := 68) F dX7_isGap_67 rfl (j := 1) rfl rfl ?_
    refine w_if_ne (tgt := 75) (pc' := 71) F (by omega) dX7_isGap_68 (by decide) rfl (fun _ => ?_) (fun c0 => absurd c0 (by omega))
    refine v_iconst (pc' := 76) (v := nI 0) F dX7_isGap_75 (by decide) rfl ?_
    refine v_zret F E (by omega) (by omega) (by decide) dX7_isGap_76 ?_
    exact hp
  | succ j ih =>
    have e1 := hf k (by omega)
    have e2 := hg k (by omega)
    rw [Nat.zero_add] at e1 e2
    refine v_iload (pc' := 30) F dX7_isGap_28  (j := 0) rfl rfl ?_
    refine v_iload_n (pc' := 31) F dX7_isGap_30 rfl (j := 2) rfl rfl ?_
    refine w_icmp_ge (tgt := 67) (pc' := 34) F (by omega) (by omega) dX7_isGap_31 (by decide) rfl (fun c0 => absurd c0 (by omega)) (fun _ => ?_)
    refine v_iload_n (pc' := 35) F dX7_isGap_34 rfl (j := 1) rfl rfl ?_
    refine w_if_eq (tgt := 67) (pc' := 38) F (by omega) dX7_isGap_35 (by decide) rfl (fun c0 => absurd c0 (by omega)) (fun _ => ?_)
    refine v_aload_n (pc' := 39) F dX7_isGap_38 rfl (j := 4) rfl rfl ?_
    refine v_getf (pc' := 42) (v := .ref lst) F k_X7_isGap_7 hm 16 (by decide) m_X7_isGap_f31 rfl dX7_isGap_39 rfl ?_
    refine v_iload (pc' := 44) F dX7_isGap_42  (j := 0) rfl rfl ?_
    refine w_iald (pc' := 45) (v := xs.getD k 0) F hlst (by omega) (by omega) e2 dX7_isGap_44 rfl ?_
    refine v_aload_n (pc' := 46) F dX7_isGap_45 rfl (j := 4) rfl rfl ?_
    refine v_getf (pc' := 49) (v := .ref told) F k_X7_isGap_7 hm 14 (by decide) m_X7_isGap_f25 rfl dX7_isGap_46 rfl ?_
    refine v_iload (pc' := 51) F dX7_isGap_49  (j := 0) rfl rfl ?_
    refine w_iald (pc' := 52) (v := xs.getD k 0) F htold (by omega) (by omega) e1 dX7_isGap_51 rfl ?_
    refine v_icmp_ne (tgt := 59) (pc' := 55) F dX7_isGap_52 (by decide) rfl (fun c0 => absurd rfl c0) (fun _ => ?_)
    refine v_iconst (pc' := 56) (v := nI 1) F dX7_isGap_55 (by decide) rfl ?_
    refine v_goto (tgt := 60) F dX7_isGap_56 (by decide) ?_
    refine v_istore_n (pc' := 61) (i := 3) (L' := [(3, .int (nI 1)), (4, .int (nI k)), (2, .int (nI xs.length)), (1, .int (nI v)), (0, .ref m)]) F dX7_isGap_60 rfl (by decide) rfl rfl ?_
    refine v_iinc (pc' := 64) (j := 1) (x := nI k) (v := nI (k + 1)) (L' := [(4, .int (nI (k + 1))), (3, .int (nI 1)), (2, .int (nI xs.length)), (1, .int (nI v)), (0, .ref m)]) F dX7_isGap_61 rfl (nI_add k 1) (by decide) rfl rfl ?_
    refine v_goto (tgt := 28) F dX7_isGap_64 (by decide) ?_
    refine v_sub (L' := [(4, .int (nI (k + 1))), (3, .int (nI 1)), (2, .int (nI xs.length)), (1, .int (nI v)), (0, .ref m)]) [0, 1, 2, 3, 4] rfl ?_
    exact ih (k := k + 1) (by omega)
theorem hv_X7_length : yX7_length.cls = RX7 ∧ yX7_length.cls ≠ "java/lang/invoke/MethodHandle" ∧ yX7_length.cls ≠ "java/lang/invoke/VarHandle" ∧ (parseMethodDescriptor yX7_length.desc).map (fun d => d.parameters.length) = some 1 := by decide +kernel
theorem hv_X7_lays : yX7_lays.cls = RX7 ∧ yX7_lays.cls ≠ "java/lang/invoke/MethodHandle" ∧ yX7_lays.cls ≠ "java/lang/invoke/VarHandle" ∧ (parseMethodDescriptor yX7_lays.desc).map (fun d => d.parameters.length) = some 1 := by decide +kernel
theorem hv_X7_laysListed : yX7_laysListed.cls = RX7 ∧ yX7_laysListed.cls ≠ "java/lang/invoke/MethodHandle" ∧ yX7_laysListed.cls ≠ "java/lang/invoke/VarHandle" ∧ (parseMethodDescriptor yX7_laysListed.desc).map (fun d => d.parameters.length) = some 0 := by decide +kernel
set_option maxHeartbeats 4000000 in
set_option maxRecDepth 100000 in
theorem c_X7_isGap (G : gG) (z0 : Nat) (l : Launch) {h : gH} {m rows asd vals many way told oth lst text now : Nat} {th und fed len spot fa fat num frm may : Int32} {R : Nat → Int32} {D : Dt} {v : Nat} (hMS : mS G h m rows asd vals many way told oth lst text th now und fed len spot fa fat num frm may R) (hnow : now < 9) (w9 : wfD D) (hS : slD R (330 * now) D) (hv : v < D.1) : gC G z0 l yX7_isGap wsX7_isGap 5 112 [.ref m, .int (nI v)] h (fun o h' => o = some (.int (nI 0)) ∧ mS G h' m rows asd vals many way told oth lst text th now und fed len spot fa fat num frm may R ∧ gfr [m, vals, many, way, told, oth, lst] h h') 0 0 := by
  obtain ⟨fl, rl, kd, ok, st, wm, hm, hrows, ⟨V, hvals⟩, ⟨M, hmany⟩, ⟨W, hway⟩, ⟨f, htold⟩, ⟨g, hoth⟩, ⟨ll, hlst⟩, htw, how, hto⟩ := hMS
  have hlen := (w9.os hv).2
  have hJ := qOf_J (w9.os hv).1
  have hxl : (wVals (D.2.2.2.2 v)).length ≤ 64 := by have := pS_w (w9.os hv).1; rw [this.2.1, List.length_drop]; omega
  refine gC_of (cc := cX7_isGap) (nL := 5) (ret := (some .boolean)) (by decide) rfl (Nat.le_of_ble_eq_true rfl) ?_
  intro X F E _
  change gF G z0 X cX7_isGap 5 RX7 wsX7_isGap (some .boolean) "isGap" 5 112 _ _ at F
  show gV G z0 X 0 0 h 0 [(0, .ref m), (1, .int (nI v))] []
  refine v_aload_n (pc' := 1) F dX7_isGap_0 rfl (j := 0) rfl rfl ?_
  refine v_iload_n (pc' := 2) F dX7_isGap_1 rfl (j := 1) rfl rfl ?_
  refine v_callV (pc' := 5) (rt := (some .int)) (mcc := 0) (msc := 0) (As := [.int (nI v)]) (st := []) F (fun l => c_X7_length G z0 l hm hrows hnow hway htold htw w9 hS hv) gX7_isGap_X7_length rfl hv_X7_length (by decide) (by decide) hm rfl rfl rfl (Nat.le_of_ble_eq_true rfl) (by omega) (by omega) dX7_isGap_2 rfl (fun v2 h1 hq => ?_)
  obtain ⟨rfl, hmA, fA, htA, hfA, WA, hwA, hWA, frA⟩ := hq
  refine v_istore_n (pc' := 6) (i := 2) (L' := [(2, .int (nI ((wVals (D.2.2.2.2 v)).length))), (0, .ref m), (1, .int (nI v))]) F dX7_isGap_5 rfl (by decide) rfl rfl ?_
  refine v_aload_n (pc' := 7) F dX7_isGap_6 rfl (j := 1) rfl rfl ?_
  refine v_iload_n (pc' := 8) F dX7_isGap_7 rfl (j := 2) rfl rfl ?_
  have g3 := frA _ _ (gnc (Ne.symm (g_neA hm hrows)) (gnc (g_neL hrows hway (by decide)) (gnc (g_neL hrows htold (by decide)) gn0))) hrows
  have g4 := frA _ _ (gnc (Ne.symm (g_neA hm hvals)) (gnc (g_neL hvals hway (by decide)) (gnc (g_neL hvals htold (by decide)) gn0))) hvals
  have g5 := frA _ _ (gnc (Ne.symm (g_neA hm hmany)) (gnc (g_neL hmany hway (by decide)) (gnc (g_neL hmany htold (by decide)) gn0))) hmany
  refine v_callV (pc' := 11) (rt := none) (mcc := 0) (msc := 0) (As := [.int (nI v)]) (st := []) F (fun l => c_X7_lays G z0 l hmA g3 hnow hwA g4 g5 w9 hS.p hv) gX7_isGap_X7_lays rfl hv_X7_lays (by decide) (by decide) hmA rfl rfl rfl (Nat.le_of_ble_eq_true rfl) (by omega) (by omega) dX7_isGap_8 rfl (fun v7 h6 hq => ?_)
  obtain ⟨rfl, hmB, WB, hwB, hWB, hqB, frB⟩ := hq
  have hqB0 := hqB
  obtain ⟨VB, MB, lsB, hvB, hyB, -, -⟩ := hqB0
  refine v_aload_n (pc' := 12) F dX7_isGap_11 rfl (j := 1) rfl rfl ?_
  have g8 := frA _ _ (gnc (Ne.symm (g_neA hm hlst)) (gnc (g_neL hlst hway (by decide)) (gnc (g_neL hlst htold (by decide)) gn0))) hlst
  have g9 := frB _ _ (gnc (Ne.symm (g_neA hmA g8)) (gnc (g_neL g8 hwA (by decide)) (gnc (g_neL g8 g4 (by decide)) (gnc (g_neL g8 g5 (by decide)) gn0)))) g8
  refine v_callV (pc' := 15) (rt := (some .int)) (mcc := 0) (msc := 0) (As := []) (st := []) F (fun l => c_X7_laysListed G z0 l (q := (qOf (D.2.2.2.2 v)).1) hlen hmB hqB hJ g9) gX7_isGap_X7_laysListed rfl hv_X7_laysListed (by decide) (by decide) hmB rfl rfl rfl (Nat.le_of_ble_eq_true rfl) (by omega) (by omega) dX7_isGap_12 rfl (fun v11 h10 hq => ?_)
  obtain ⟨rfl, gC, hlC, hgC, frC⟩ := hq
  refine v_iload_n (pc' := 16) F dX7_isGap_15 rfl (j := 0) rfl rfl ?_
  refine w_icmp_ne (tgt := 23) (pc' := 19) F (by omega) (by omega) dX7_isGap_16 (by decide) rfl (fun c0 => absurd rfl c0) (fun _ => ?_)
  refine v_iconst (pc' := 20) (v := nI 1) F dX7_isGap_19 (by decide) rfl ?_
  refine v_goto (tgt := 24) F dX7_isGap_20 (by decide) ?_
  refine v_istore_n (pc' := 25) (i := 3) (L' := [(3, .int (nI 1)), (2, .int (nI ((wVals (D.2.2.2.2 v)).length))), (0, .ref m), (1, .int (nI v))]) F dX7_isGap_24 rfl (by decide) rfl rfl ?_
  refine v_iconst (pc' := 26) (v := nI 0) F dX7_isGap_25 (by decide) rfl ?_
  refine v_istore (pc' := 28) (i := 4) (L' := [(4, .int (nI 0)), (3, .int (nI 1)), (2, .int (nI ((wVals (D.2.2.2.2 v)).length))), (0, .ref m), (1, .int (nI v))]) F dX7_isGap_26  (by decide) rfl rfl ?_
  have fr12 : gfr [m, vals, many, way, told, oth, lst] h h10 := (gfr.t (gfr.mono frA (by intro q9 z9 m9; apply z9; simp only [List.mem_cons, List.not_mem_nil, or_false] at m9 ⊢; omega)) (gfr.t (gfr.mono frB (by intro q9 z9 m9; apply z9; simp only [List.mem_cons, List.not_mem_nil, or_false] at m9 ⊢; omega)) (gfr.mono frC (by intro q9 z9 m9; apply z9; simp only [List.mem_cons, List.not_mem_nil, or_false] at m9 ⊢; omega))))
  refine v_sub (L' := [(4, .int (nI 0)), (3, .int (nI 1)), (2, .int (nI ((wVals (D.2.2.2.2 v)).length))), (1, .int (nI v)), (0, .ref m)]) [0, 1, 2, 4, 3] rfl ?_
  have g13 := frC _ _ (gnc (g_neL hwB g9 (by decide)) gn0) hwB
  have hwC := g13
  have g14 := frB _ _ (gnc (Ne.symm (g_neA hmA htA)) (gnc htw (gnc (g_neL htA g4 (by decide)) (gnc (g_neL htA g5 (by decide)) gn0)))) htA
  have g15 := frC _ _ (gnc (g_neL g14 g9 (by decide)) gn0) g14
  have htC := g15
  have g16 := frA _ _ (gnc (Ne.symm (g_neA hm hoth)) (gnc how (gnc hto.symm gn0))) hoth
  have g17 := frB _ _ (gnc (Ne.symm (g_neA hmA g16)) (gnc how (gnc (g_neL g16 g4 (by decide)) (gnc (g_neL g16 g5 (by decide)) gn0)))) g16
  have g18 := frC _ _ (gnc (g_neL g17 g9 (by decide)) gn0) g17
  have hoC := g18
  have g19 := frB _ _ (gnc (Ne.symm (g_neA hmA g3)) (gnc (g_neL g3 hwA (by decide)) (gnc (g_neL g3 g4 (by decide)) (gnc (g_neL g3 g5 (by decide)) gn0)))) g3
  have g20 := frC _ _ (gnc (g_neL g19 g9 (by decide)) gn0) g19
  have hrC := g20
  have g21 := frC _ _ (gnc (g_neL hvB g9 (by decide)) gn0) hvB
  have hvC := g21
  have g22 := frC _ _ (gnc (g_neL hyB g9 (by decide)) gn0) hyB
  have hyC := g22
  have g23 := frC _ _ (gnc (g_neA hmB g9) gn0) hmB
  exact lp_X7_isGap (l := l) (k := 0) (j := (wVals (D.2.2.2.2 v)).length) F E (by omega) (by omega) g23 htC hlC hfA hgC hxl (by omega) ⟨rfl, ⟨_, _, _, _, _, _, g23, hrC, ⟨_, hvC⟩, ⟨_, hyC⟩, ⟨_, hwC⟩, ⟨_, htC⟩, ⟨_, hoC⟩, ⟨_, hlC⟩, htw, how, hto⟩, fr12⟩
