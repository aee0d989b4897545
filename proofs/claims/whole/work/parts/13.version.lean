/-! A VERSION -/
def isVt (h : gH) (v t : Nat) (par : Option Nat) (pu : Int32) (dp : Nat) (q : mQ) (st : Nat) : Prop :=
  match q with
  | (f, r, fl, rl, T) => ∃ (a b : Option Nat), h v = some (.inr (5, [va_rf par, .int pu, .int (nI dp), .ref t, va_rf a, va_rf b, .int (nI fl), .int (nI rl), .int (nI st)])) ∧ isL h f a ∧ isL h r b ∧ isT h t T
/-- versions, turns and cells stay -/
def gpv (h h' : gH) : Prop := ∀ (a ci : Nat) (fs : List Value), (ci = 1 ∨ ci = 4 ∨ ci = 5) → h a = some (.inr (ci, fs)) → h' a = some (.inr (ci, fs))
theorem gpv.rf {h : gH} : gpv h h := fun _ _ _ _ q => q
theorem gpv.tr {h h1 h2 : gH} (a : gpv h h1) (b : gpv h1 h2) : gpv h h2 := fun x ci fs c q => b x ci fs c (a x ci fs c q)
theorem gpv.pl {h h' : gH} (f : gpv h h') : gpl h h' := fun a fs q => f a 1 fs (Or.inl rfl) q
theorem gfr.pv {S : List Nat} {h h' : gH} (f : gfr S h h') (hS : ∀ a, a ∈ S → ∀ ci fs, (ci = 1 ∨ ci = 4 ∨ ci = 5) → h a ≠ some (.inr (ci, fs))) : gpv h h' := fun a ci fs c q => f a _ (fun m => hS a m ci fs c q) q
theorem isT.kind {h : gH} {t : Nat} {T : mT} (q : isT h t T) : ∃ fs, h t = some (.inr (4, fs)) := by
  obtain ⟨k, ok, oF, nF, oR, nR⟩ := T
  obtain ⟨a, b, c, d, h1, -⟩ := q
  exact ⟨_, h1⟩
theorem isT.six {h : gH} {t : Nat} {T : mT} (q : isT h t T) : ∃ (x1 x2 : Int32) (x3 x4 x5 x6 : Option Nat), h t = some (.inr (4, [.int x1, .int x2, va_rf x3, va_rf x4, va_rf x5, va_rf x6])) := by
  obtain ⟨k, ok, oF, nF, oR, nR⟩ := T
  obtain ⟨a, b, c, d, h1, -⟩ := q
  exact ⟨_, _, _, _, _, _, h1⟩
theorem isT.pv {h h' : gH} {t : Nat} {T : mT} (q : isT h t T) (f : gpv h h') : isT h' t T := q.keep f.pl (fun e he => by
  obtain ⟨fs, h4⟩ := q.kind
  rw [h4] at he
  cases he
  exact f t 4 fs (Or.inr (Or.inl rfl)) h4)
theorem isVt.pv {h h' : gH} {v t dp st : Nat} {par : Option Nat} {pu : Int32} {q : mQ} (w : isVt h v t par pu dp q st) (f : gpv h h') : isVt h' v t par pu dp q st := by
  obtain ⟨fr, r, fl, rl, T⟩ := q
  obtain ⟨a, b, h1, h2, h3, h4⟩ := w
  exact ⟨a, b, f v 5 _ (Or.inr (Or.inr rfl)) h1, h2.keep f.pl, h3.keep f.pl, h4.pv f⟩
/-- the version that a way makes; its latest op stands first -/
def isV (h : gH) : List mO → Nat → Prop
  | [], v => ∃ t, isVt h v t none (-1) 0 q0 0
  | o :: os, v => ∃ t u, isVt h v t (some u) o.1 (os.length + 1) (qOf (o :: os)).1 (qOf (o :: os)).2 ∧ isV h os u
theorem isV.pv {h h' : gH} (f : gpv h h') : ∀ {os : List mO} {v : Nat}, isV h os v → isV h' os v
  | [], _, ⟨t, w⟩ => ⟨t, w.pv f⟩
  | _ :: _, _, ⟨t, u, w, k⟩ => ⟨t, u, w.pv f, k.pv f⟩
theorem isV.at {h : gH} {os : List mO} {v : Nat} (w : isV h os v) : ∃ t par pu, isVt h v t par pu os.length (qOf os).1 (qOf os).2 := by
  cases os with
  | nil => obtain ⟨t, w⟩ := w; exact ⟨t, none, -1, w⟩
  | cons o os => obtain ⟨t, u, w, -⟩ := w; exact ⟨t, some u, o.1, w⟩
theorem m_X5_init_ml3 : Cond.methodLink RX5 3 objectInit ∈ wsX5_init := by decide +kernel
theorem m_X5_init_oi : Cond.instanceMethod objectInit ∈ wsX5_init := by decide +kernel
theorem m_X5_init_oc : Cond.code objectInit ⟨#[0xb1]⟩ 1 none ∈ wsX5_init := by decide +kernel
theorem k_X5_init_4 : gCl wsX5_init 4 RX4 TX4 6 := ⟨by decide +kernel, rfl⟩
theorem m_X5_init_c9 : Cond.classLink RX5 9 RX4 ∈ wsX5_init := by decide +kernel
theorem m_X5_init_in4 : Cond.instantiable RX4 6 ∈ wsX5_init := by decide +kernel
theorem m_X5_init_ini4 : Cond.initialized RX4 ∈ wsX5_init := by decide +kernel
theorem m_X5_init_imX4_init : Cond.instanceMethod yX4_init ∈ wsX5_init := by decide +kernel
theorem hd_X4_init : yX4_init.cls ≠ "java/lang/invoke/MethodHandle" ∧ yX4_init.cls ≠ "java/lang/invoke/VarHandle" ∧ (parseMethodDescriptor yX4_init.desc).map (fun d => d.parameters.length) = some 0 := by decide +kernel
theorem k_X5_init_5 : gCl wsX5_init 5 RX5 TX5 9 := ⟨by decide +kernel, rfl⟩
theorem m_X5_init_f12 : Cond.fieldLink RX5 12 "SteadyQueues$Version" "turn" "LSteadyQueues$Turn;" ∈ wsX5_init := by decide +kernel
theorem m_X5_init_f18 : Cond.fieldLink RX5 18 "SteadyQueues$Version" "front" "LSteadyQueues$Cell;" ∈ wsX5_init := by decide +kernel
theorem m_X5_init_f22 : Cond.fieldLink RX5 22 "SteadyQueues$Version" "rear" "LSteadyQueues$Cell;" ∈ wsX5_init := by decide +kernel
theorem m_X5_init_f25 : Cond.fieldLink RX5 25 "SteadyQueues$Version" "frontLength" "I" ∈ wsX5_init := by decide +kernel
theorem m_X5_init_f29 : Cond.fieldLink RX5 29 "SteadyQueues$Version" "rearLength" "I" ∈ wsX5_init := by decide +kernel
theorem m_X5_init_f32 : Cond.fieldLink RX5 32 "SteadyQueues$Version" "steps" "I" ∈ wsX5_init := by decide +kernel
theorem m_X5_init_f35 : Cond.fieldLink RX5 35 "SteadyQueues$Version" "parent" "LSteadyQueues$Version;" ∈ wsX5_init := by decide +kernel
theorem m_X5_init_f39 : Cond.fieldLink RX5 39 "SteadyQueues$Version" "pushed" "I" ∈ wsX5_init := by decide +kernel
theorem m_X5_init_f42 : Cond.fieldLink RX5 42 "SteadyQueues$Version" "depth" "I" ∈ wsX5_init := by decide +kernel
set_option maxHeartbeats 4000000 in
set_option maxRecDepth 100000 in
/-- a version of none -/
theorem c_X5_init0 (G : gG) (z0 : Nat) (l : Launch) {h : gH} {v : Nat} (pu : Int32) (hv : h v = some (.inr (5, [.null, .int (nI 0), .int (nI 0), .null, .null, .null, .int (nI 0), .int (nI 0), .int (nI 0)]))) : gC G z0 l yX5_init wsX5_init 2 40 [.ref v, .null, .int pu] h (fun o h' => o = none ∧ ∃ t, isVt h' v t none pu 0 q0 0 ∧ gfr [v] h h' ∧ h t = none) 1 6 := by
  refine gC_of (cc := cX5_init) (nL := 3) (ret := none) (by decide) rfl (Nat.le_of_ble_eq_true rfl) ?_
  intro X F E _
  change gF G z0 X cX5_init 3 RX5 wsX5_init none "<init>" 2 40 _ _ at F
  show gV G z0 X 0 0 h 0 [(0, .ref v), (1, .null), (2, .int pu)] []
  refine v_aload_n (pc' := 1) F dX5_init_0 rfl (j := 0) rfl rfl ?_
  refine v_objInit (pc' := 4) F m_X5_init_ml3 m_X5_init_oi m_X5_init_oc (by decide) (Nat.le_of_ble_eq_true rfl) dX5_init_1 rfl ?_
  refine v_aload_n (pc' := 5) F dX5_init_4 rfl (j := 0) rfl rfl ?_
  refine w_new (pc' := 8) F [.int (nI 0), .int (nI 0), .null, .null, .null, .null] k_X5_init_4 tyX4_ok m_X5_init_c9 m_X5_init_in4 m_X5_init_ini4 (g_dv4 ) (by omega) (by omega) dX5_init_5 rfl (fun q1 h2 e3 a4 f5 => ?_)
  refine v_dup (pc' := 9) F dX5_init_8 rfl rfl ?_
  refine v_callIN (pc' := 12) (mcc := 0) (msc := 0) (As := []) (st := [.ref q1, .ref v]) F (fun l => c_X4_init G z0 l a4) gX5_init_X4_init_n11 rfl m_X5_init_ini4 (fun U h9 => h9.1.1) m_X5_init_imX4_init rfl hd_X4_init (by decide) (by decide) rfl rfl (Nat.le_of_ble_eq_true rfl) (by omega) (by omega) dX5_init_9 rfl (fun v7 h6 hq => ?_)
  obtain ⟨rfl, hT1, hF1⟩ := hq
  obtain ⟨y3, y4, y5, y6, hT3, hy3, hy4, hy5, hy6⟩ := id hT1
  cases hy3
  cases hy4
  cases hy5
  cases hy6
  have g8 := f5 _ _ gn0 hv
  have g9 := hF1 _ _ (gnc (g_neN hv e3) gn0) g8
  refine w_putfF (pc' := 15) F k_X5_init_5 tyX5_ok nmX5 g9 3 (by decide) m_X5_init_f12 rfl rfl rfl rfl rfl (show 3 < 9 by decide) [.null, .int (nI 0), .int (nI 0), .ref q1, .null, .null, .int (nI 0), .int (nI 0), .int (nI 0)] rfl dX5_init_12 rfl (fun h10 a11 f12 => ?_)
  refine v_aload_n (pc' := 16) F dX5_init_15 rfl (j := 0) rfl rfl ?_
  refine v_null (pc' := 17) F dX5_init_16 rfl ?_
  refine w_putf (pc' := 20) F k_X5_init_5 tyX5_ok nmX5 a11 4 (by decide) m_X5_init_f18 rfl  rfl rfl (show 4 < 9 by decide) [.null, .int (nI 0), .int (nI 0), .ref q1, .null, .null, .int (nI 0), .int (nI 0), .int (nI 0)] rfl dX5_init_17 rfl (fun h13 a14 f15 => ?_)
  refine v_aload_n (pc' := 21) F dX5_init_20 rfl (j := 0) rfl rfl ?_
  refine v_null (pc' := 22) F dX5_init_21 rfl ?_
  refine w_putf (pc' := 25) F k_X5_init_5 tyX5_ok nmX5 a14 5 (by decide) m_X5_init_f22 rfl  rfl rfl (show 5 < 9 by decide) [.null, .int (nI 0), .int (nI 0), .ref q1, .null, .null, .int (nI 0), .int (nI 0), .int (nI 0)] rfl dX5_init_22 rfl (fun h16 a17 f18 => ?_)
  refine v_aload_n (pc' := 26) F dX5_init_25 rfl (j := 0) rfl rfl ?_
  refine v_iconst (pc' := 27) (v := nI 0) F dX5_init_26 (by decide) rfl ?_
  refine w_putf (pc' := 30) F k_X5_init_5 tyX5_ok nmX5 a17 6 (by decide) m_X5_init_f25 rfl  rfl rfl (show 6 < 9 by decide) [.null, .int (nI 0), .int (nI 0), .ref q1, .null, .null, .int (nI 0), .int (nI 0), .int (nI 0)] rfl dX5_init_27 rfl (fun h19 a20 f21 => ?_)
  refine v_aload_n (pc' := 31) F dX5_init_30 rfl (j := 0) rfl rfl ?_
  refine v_iconst (pc' := 32) (v := nI 0) F dX5_init_31 (by decide) rfl ?_
  refine w_putf (pc' := 35) F k_X5_init_5 tyX5_ok nmX5 a20 7 (by decide) m_X5_init_f29 rfl  rfl rfl (show 7 < 9 by decide) [.null, .int (nI 0), .int (nI 0), .ref q1, .null, .null, .int (nI 0), .int (nI 0), .int (nI 0)] rfl dX5_init_32 rfl (fun h22 a23 f24 => ?_)
  refine v_aload_n (pc' := 36) F dX5_init_35 rfl (j := 0) rfl rfl ?_
  refine v_iconst (pc' := 37) (v := nI 0) F dX5_init_36 (by decide) rfl ?_
  refine w_putf (pc' := 40) F k_X5_init_5 tyX5_ok nmX5 a23 8 (by decide) m_X5_init_f32 rfl  rfl rfl (show 8 < 9 by decide) [.null, .int (nI 0), .int (nI 0), .ref q1, .null, .null, .int (nI 0), .int (nI 0), .int (nI 0)] rfl dX5_init_37 rfl (fun h25 a26 f27 => ?_)
  refine v_aload_n (pc' := 41) F dX5_init_40 rfl (j := 0) rfl rfl ?_
  refine v_aload0_n (pc' := 42) F dX5_init_41 rfl (j := 1) rfl rfl ?_
  refine w_putfF (pc' := 45) F k_X5_init_5 tyX5_ok nmX5 a26 0 (by decide) m_X5_init_f35 rfl rfl rfl rfl rfl (show 0 < 9 by decide) [.null, .int (nI 0), .int (nI 0), .ref q1, .null, .null, .int (nI 0), .int (nI 0), .int (nI 0)] rfl dX5_init_42 rfl (fun h28 a29 f30 => ?_)
  refine v_aload_n (pc' := 46) F dX5_init_45 rfl (j := 0) rfl rfl ?_
  refine v_iload_n (pc' := 47) F dX5_init_46 rfl (j := 2) rfl rfl ?_
  refine w_putfF (pc' := 50) F k_X5_init_5 tyX5_ok nmX5 a29 1 (by decide) m_X5_init_f39 rfl rfl rfl rfl rfl (show 1 < 9 by decide) [.null, .int pu, .int (nI 0), .ref q1, .null, .null, .int (nI 0), .int (nI 0), .int (nI 0)] rfl dX5_init_47 rfl (fun h31 a32 f33 => ?_)
  refine v_aload0_n (pc' := 51) F dX5_init_50 rfl (j := 1) rfl rfl ?_
  refine v_ifnonnullN (pc' := 54) F dX5_init_51 rfl ?_
  refine v_aload_n (pc' := 55) F dX5_init_54 rfl (j := 0) rfl rfl ?_
  refine v_iconst (pc' := 56) (v := nI 0) F dX5_init_55 (by decide) rfl ?_
  refine w_putfF (pc' := 59) F k_X5_init_5 tyX5_ok nmX5 a32 2 (by decide) m_X5_init_f42 rfl rfl rfl rfl rfl (show 2 < 9 by decide) [.null, .int pu, .int (nI 0), .ref q1, .null, .null, .int (nI 0), .int (nI 0), .int (nI 0)] rfl dX5_init_56 rfl (fun h34 a35 f36 => ?_)
  have fr38 : gfr [q1, v] h h34 := (gfr.t (gfr.mono0 f5) (gfr.t (gfr.mono hF1 (by intro q9 z9 m9; apply z9; simp only [List.mem_cons, List.not_mem_nil, or_false] at m9 ⊢; omega)) (gfr.t (gfr.mono f12 (by intro q9 z9 m9; apply z9; simp only [List.mem_cons, List.not_mem_nil, or_false] at m9 ⊢; omega)) (gfr.t (gfr.mono f15 (by intro q9 z9 m9; apply z9; simp only [List.mem_cons, List.not_mem_nil, or_false] at m9 ⊢; omega)) (gfr.t (gfr.mono f18 (by intro q9 z9 m9; apply z9; simp only [List.mem_cons, List.not_mem_nil, or_false] at m9 ⊢; omega)) (gfr.t (gfr.mono f21 (by intro q9 z9 m9; apply z9; simp only [List.mem_cons, List.not_mem_nil, or_false] at m9 ⊢; omega)) (gfr.t (gfr.mono f24 (by intro q9 z9 m9; apply z9; simp only [List.mem_cons, List.not_mem_nil, or_false] at m9 ⊢; omega)) (gfr.t (gfr.mono f27 (by intro q9 z9 m9; apply z9; simp only [List.mem_cons, List.not_mem_nil, or_false] at m9 ⊢; omega)) (gfr.t (gfr.mono f30 (by intro q9 z9 m9; apply z9; simp only [List.mem_cons, List.not_mem_nil, or_false] at m9 ⊢; omega)) (gfr.t (gfr.mono f33 (by intro q9 z9 m9; apply z9; simp only [List.mem_cons, List.not_mem_nil, or_false] at m9 ⊢; omega)) (gfr.mono f36 (by intro q9 z9 m9; apply z9; simp only [List.mem_cons, List.not_mem_nil, or_false] at m9 ⊢; omega))))))))))))
  have fr37 := gfr.drop e3 fr38
  have g39 := f12 _ _ (gnc ((g_neN hv e3).symm) gn0) hT3
  have g40 := f15 _ _ (gnc ((g_neN hv e3).symm) gn0) g39
  have g41 := f18 _ _ (gnc ((g_neN hv e3).symm) gn0) g40
  have g42 := f21 _ _ (gnc ((g_neN hv e3).symm) gn0) g41
  have g43 := f24 _ _ (gnc ((g_neN hv e3).symm) gn0) g42
  have g44 := f27 _ _ (gnc ((g_neN hv e3).symm) gn0) g43
  have g45 := f30 _ _ (gnc ((g_neN hv e3).symm) gn0) g44
  have g46 := f33 _ _ (gnc ((g_neN hv e3).symm) gn0) g45
  have g47 := f36 _ _ (gnc ((g_neN hv e3).symm) gn0) g46
  exact v_vret F E (by omega) (by omega)  dX5_init_59 ⟨rfl, q1, ⟨none, none, a35, rfl, rfl, ⟨none, none, none, none, g47, rfl, rfl, rfl, rfl⟩⟩, fr37, e3⟩
theorem hv_X4_copyFrom : yX4_copyFrom.cls = RX4 ∧ yX4_copyFrom.cls ≠ "java/lang/invoke/MethodHandle" ∧ yX4_copyFrom.cls ≠ "java/lang/invoke/VarHandle" ∧ (parseMethodDescriptor yX4_copyFrom.desc).map (fun d => d.parameters.length) = some 1 := by decide +kernel
set_option maxHeartbeats 4000000 in
set_option maxRecDepth 100000 in
/-- a version of another one -/
theorem c_X5_init1 (G : gG) (z0 : Nat) (l : Launch) {h : gH} {v u ut dp ust : Nat} {up : Option Nat} {upu : Int32} {q : mQ} (pu : Int32) (hne : u ≠ v) (hv : h v = some (.inr (5, [.null, .int (nI 0), .int (nI 0), .null, .null, .null, .int (nI 0), .int (nI 0), .int (nI 0)]))) (hU : isVt h u ut up upu dp q ust) : gC G z0 l yX5_init wsX5_init 2 40 [.ref v, .ref u, .int pu] h (fun o h' => o = none ∧ ∃ t, isVt h' v t (some u) pu (dp + 1) q 0 ∧ gfr [v] h h' ∧ h t = none) 1 6 := by
  obtain ⟨f, r, fl, rl, T⟩ := q
  obtain ⟨a, b, hu, ha, hb, hT⟩ := hU
  obtain ⟨tfs, htk⟩ := hT.kind
  refine gC_of (cc := cX5_init) (nL := 3) (ret := none) (by decide) rfl (Nat.le_of_ble_eq_true rfl) ?_
  intro X F E _
  change gF G z0 X cX5_init 3 RX5 wsX5_init none "<init>" 2 40 _ _ at F
  show gV G z0 X 0 0 h 0 [(0, .ref v), (1, .ref u), (2, .int pu)] []
  refine v_aload_n (pc' := 1) F dX5_init_0 rfl (j := 0) rfl rfl ?_
  refine v_objInit (pc' := 4) F m_X5_init_ml3 m_X5_init_oi m_X5_init_oc (by decide) (Nat.le_of_ble_eq_true rfl) dX5_init_1 rfl ?_
  refine v_aload_n (pc' := 5) F dX5_init_4 rfl (j := 0) rfl rfl ?_
  refine w_new (pc' := 8) F [.int (nI 0), .int (nI 0), .null, .null, .null, .null] k_X5_init_4 tyX4_ok m_X5_init_c9 m_X5_init_in4 m_X5_init_ini4 (g_dv4 ) (by omega) (by omega) dX5_init_5 rfl (fun q1 h2 e3 a4 f5 => ?_)
  refine v_dup (pc' := 9) F dX5_init_8 rfl rfl ?_
  refine v_callIN (pc' := 12) (mcc := 0) (msc := 0) (As := []) (st := [.ref q1, .ref v]) F (fun l => c_X4_init G z0 l a4) gX5_init_X4_init_n11 rfl m_X5_init_ini4 (fun U h9 => h9.1.1) m_X5_init_imX4_init rfl hd_X4_init (by decide) (by decide) rfl rfl (Nat.le_of_ble_eq_true rfl) (by omega) (by omega) dX5_init_9 rfl (fun v7 h6 hq => ?_)
  obtain ⟨rfl, hT1, hF1⟩ := hq
  obtain ⟨y3, y4, y5, y6, hT3, hy3, hy4, hy5, hy6⟩ := id hT1
  cases hy3
  cases hy4
  cases hy5
  cases hy6
  have g8 := f5 _ _ gn0 hv
  have g9 := hF1 _ _ (gnc (g_neN hv e3) gn0) g8
  refine w_putfF (pc' := 15) F k_X5_init_5 tyX5_ok nmX5 g9 3 (by decide) m_X5_init_f12 rfl rfl rfl rfl rfl (show 3 < 9 by decide) [.null, .int (nI 0), .int (nI 0), .ref q1, .null, .null, .int (nI 0), .int (nI 0), .int (nI 0)] rfl dX5_init_12 rfl (fun h10 a11 f12 => ?_)
  refine v_aload_n (pc' := 16) F dX5_init_15 rfl (j := 0) rfl rfl ?_
  refine v_null (pc' := 17) F dX5_init_16 rfl ?_
  refine w_putf (pc' := 20) F k_X5_init_5 tyX5_ok nmX5 a11 4 (by decide) m_X5_init_f18 rfl  rfl rfl (show 4 < 9 by decide) [.null, .int (nI 0), .int (nI 0), .ref q1, .null, .null, .int (nI 0), .int (nI 0), .int (nI 0)] rfl dX5_init_17 rfl (fun h13 a14 f15 => ?_)
  refine v_aload_n (pc' := 21) F dX5_init_20 rfl (j := 0) rfl rfl ?_
  refine v_null (pc' := 22) F dX5_init_21 rfl ?_
  refine w_putf (pc' := 25) F k_X5_init_5 tyX5_ok nmX5 a14 5 (by decide) m_X5_init_f22 rfl  rfl rfl (show 5 < 9 by decide) [.null, .int (nI 0), .int (nI 0), .ref q1, .null, .null, .int (nI 0), .int (nI 0), .int (nI 0)] rfl dX5_init_22 rfl (fun h16 a17 f18 => ?_)
  refine v_aload_n (pc' := 26) F dX5_init_25 rfl (j := 0) rfl rfl ?_
  refine v_iconst (pc' := 27) (v := nI 0) F dX5_init_26 (by decide) rfl ?_
  refine w_putf (pc' := 30) F k_X5_init_5 tyX5_ok nmX5 a17 6 (by decide) m_X5_init_f25 rfl  rfl rfl (show 6 < 9 by decide) [.null, .int (nI 0), .int (nI 0), .ref q1, .null, .null, .int (nI 0), .int (nI 0), .int (nI 0)] rfl dX5_init_27 rfl (fun h19 a20 f21 => ?_)
  refine v_aload_n (pc' := 31) F dX5_init_30 rfl (j := 0) rfl rfl ?_
  refine v_iconst (pc' := 32) (v := nI 0) F dX5_init_31 (by decide) rfl ?_
  refine w_putf (pc' := 35) F k_X5_init_5 tyX5_ok nmX5 a20 7 (by decide) m_X5_init_f29 rfl  rfl rfl (show 7 < 9 by decide) [.null, .int (nI 0), .int (nI 0), .ref q1, .null, .null, .int (nI 0), .int (nI 0), .int (nI 0)] rfl dX5_init_32 rfl (fun h22 a23 f24 => ?_)
  refine v_aload_n (pc' := 36) F dX5_init_35 rfl (j := 0) rfl rfl ?_
  refine v_iconst (pc' := 37) (v := nI 0) F dX5_init_36 (by decide) rfl ?_
  refine w_putf (pc' := 40) F k_X5_init_5 tyX5_ok nmX5 a23 8 (by decide) m_X5_init_f32 rfl  rfl rfl (show 8 < 9 by decide) [.null, .int (nI 0), .int (nI 0), .ref q1, .null, .null, .int (nI 0), .int (nI 0), .int (nI 0)] rfl dX5_init_37 rfl (fun h25 a26 f27 => ?_)
  refine v_aload_n (pc' := 41) F dX5_init_40 rfl (j := 0) rfl rfl ?_
  refine v_aload_n (pc' := 42) F dX5_init_41 rfl (j := 1) rfl rfl ?_
  refine w_putfF (pc' := 45) F k_X5_init_5 tyX5_ok nmX5 a26 0 (by decide) m_X5_init_f35 rfl rfl rfl rfl rfl (show 0 < 9 by decide) [.ref u, .int (nI 0), .int (nI 0), .ref q1, .null, .null, .int (nI 0), .int (nI 0), .int (nI 0)] rfl dX5_init_42 rfl (fun h28 a29 f30 => ?_)
  refine v_aload_n (pc' := 46) F dX5_init_45 rfl (j := 0) rfl rfl ?_
  refine v_iload_n (pc' := 47) F dX5_init_46 rfl (j := 2) rfl rfl ?_
  refine w_putfF (pc' := 50) F k_X5_init_5 tyX5_ok nmX5 a29 1 (by decide) m_X5_init_f39 rfl rfl rfl rfl rfl (show 1 < 9 by decide) [.ref u, .int pu, .int (nI 0), .ref q1, .null, .null, .int (nI 0), .int (nI 0), .int (nI 0)] rfl dX5_init_47 rfl (fun h31 a32 f33 => ?_)
  refine v_aload_n (pc' := 51) F dX5_init_50 rfl (j := 1) rfl rfl ?_
  refine v_ifnonnull (tgt := 60) F dX5_init_51 (by decide) ?_
  refine v_aload_n (pc' := 61) F dX5_init_60 rfl (j := 0) rfl rfl ?_
  refine v_aload_n (pc' := 62) F dX5_init_61 rfl (j := 1) rfl rfl ?_
  have g34 := f5 _ _ gn0 hu
  have g35 := hF1 _ _ (gnc (g_neN hu e3) gn0) g34
  have g36 := f12 _ _ (gnc hne gn0) g35
  have g37 := f15 _ _ (gnc hne gn0) g36
  have g38 := f18 _ _ (gnc hne gn0) g37
  have g39 := f21 _ _ (gnc hne gn0) g38
  have g40 := f24 _ _ (gnc hne gn0) g39
  have g41 := f27 _ _ (gnc hne gn0) g40
  have g42 := f30 _ _ (gnc hne gn0) g41
  have g43 := f33 _ _ (gnc hne gn0) g42
  refine v_getf (pc' := 65) (v := .int (nI dp)) F k_X5_init_5 g43 2 (by decide) m_X5_init_f42 rfl dX5_init_62 rfl ?_
  refine v_iconst (pc' := 66) (v := nI 1) F dX5_init_65 (by decide) rfl ?_
  refine v_iadd (pc' := 67) (v := nI (dp + 1)) F dX5_init_66 (nI_add dp 1) rfl ?_
  refine w_putfF (pc' := 70) F k_X5_init_5 tyX5_ok nmX5 a32 2 (by decide) m_X5_init_f42 rfl rfl rfl rfl rfl (show 2 < 9 by decide) [.ref u, .int pu, .int (nI (dp + 1)), .ref q1, .null, .null, .int (nI 0), .int (nI 0), .int (nI 0)] rfl dX5_init_67 rfl (fun h44 a45 f46 => ?_)
  refine v_aload_n (pc' := 71) F dX5_init_70 rfl (j := 0) rfl rfl ?_
  refine v_getf (pc' := 74) (v := .ref q1) F k_X5_init_5 a45 3 (by decide) m_X5_init_f12 rfl dX5_init_71 rfl ?_
  refine v_aload_n (pc' := 75) F dX5_init_74 rfl (j := 1) rfl rfl ?_
  have g47 := f46 _ _ (gnc hne gn0) g43
  refine v_getf (pc' := 78) (v := .ref ut) F k_X5_init_5 g47 3 (by decide) m_X5_init_f12 rfl dX5_init_75 rfl ?_
  have fr49 : gfr [q1, v] h h44 := (gfr.t (gfr.mono0 f5) (gfr.t (gfr.mono hF1 (by intro q9 z9 m9; apply z9; simp only [List.mem_cons, List.not_mem_nil, or_false] at m9 ⊢; omega)) (gfr.t (gfr.mono f12 (by intro q9 z9 m9; apply z9; simp only [List.mem_cons, List.not_mem_nil, or_false] at m9 ⊢; omega)) (gfr.t (gfr.mono f15 (by intro q9 z9 m9; apply z9; simp only [List.mem_cons, List.not_mem_nil, or_false] at m9 ⊢; omega)) (gfr.t (gfr.mono f18 (by intro q9 z9 m9; apply z9; simp only [List.mem_cons, List.not_mem_nil, or_false] at m9 ⊢; omega)) (gfr.t (gfr.mono f21 (by intro q9 z9 m9; apply z9; simp only [List.mem_cons, List.not_mem_nil, or_false] at m9 ⊢; omega)) (gfr.t (gfr.mono f24 (by intro q9 z9 m9; apply z9; simp only [List.mem_cons, List.not_mem_nil, or_false] at m9 ⊢; omega)) (gfr.t (gfr.mono f27 (by intro q9 z9 m9; apply z9; simp only [List.mem_cons, List.not_mem_nil, or_false] at m9 ⊢; omega)) (gfr.t (gfr.mono f30 (by intro q9 z9 m9; apply z9; simp only [List.mem_cons, List.not_mem_nil, or_false] at m9 ⊢; omega)) (gfr.t (gfr.mono f33 (by intro q9 z9 m9; apply z9; simp only [List.mem_cons, List.not_mem_nil, or_false] at m9 ⊢; omega)) (gfr.mono f46 (by intro q9 z9 m9; apply z9; simp only [List.mem_cons, List.not_mem_nil, or_false] at m9 ⊢; omega))))))))))))
  have fr48 := gfr.drop e3 fr49
  have pl50 := gfr.pl fr48 (by intro a9 m9 fs9 z9; simp only [List.mem_cons, List.not_mem_nil, or_false] at m9; subst m9; (rw [hv] at z9; cases z9))
  have hTn : isT h44 ut T := hT.keep pl50 (fun e9 he9 => fr48 ut e9 (gnc (g_neC htk hv (by decide)) gn0) he9)
  have g51 := f12 _ _ (gnc ((g_neN hv e3).symm) gn0) hT3
  have g52 := f15 _ _ (gnc ((g_neN hv e3).symm) gn0) g51
  have g53 := f18 _ _ (gnc ((g_neN hv e3).symm) gn0) g52
  have g54 := f21 _ _ (gnc ((g_neN hv e3).symm) gn0) g53
  have g55 := f24 _ _ (gnc ((g_neN hv e3).symm) gn0) g54
  have g56 := f27 _ _ (gnc ((g_neN hv e3).symm) gn0) g55
  have g57 := f30 _ _ (gnc ((g_neN hv e3).symm) gn0) g56
  have g58 := f33 _ _ (gnc ((g_neN hv e3).symm) gn0) g57
  have g59 := f46 _ _ (gnc ((g_neN hv e3).symm) gn0) g58
  refine v_callV (pc' := 81) (rt := none) (mcc := 0) (msc := 0) (As := [.ref ut]) (st := []) F (fun l => c_X4_copyFrom G z0 l ((g_neN htk e3).symm) ⟨_, _, none, none, none, none, g59⟩ hTn) gX5_init_X4_copyFrom rfl hv_X4_copyFrom (by decide) (by decide) g59 rfl rfl rfl (Nat.le_of_ble_eq_true rfl) (by omega) (by omega) dX5_init_78 rfl (fun v61 h60 hq => ?_)
  obtain ⟨rfl, hTc, hfc⟩ := hq
  obtain ⟨tqs, hqk⟩ := hTc.kind
  have g62 := hfc _ _ (gnc (g_neN hv e3) gn0) a45
  refine v_aload_n (pc' := 82) F dX5_init_81 rfl (j := 0) rfl rfl ?_
  refine v_aload_n (pc' := 83) F dX5_init_82 rfl (j := 1) rfl rfl ?_
  have g63 := hfc _ _ (gnc (g_neN hu e3) gn0) g47
  refine v_getf (pc' := 86) (v := va_rf a) F k_X5_init_5 g63 4 (by decide) m_X5_init_f18 rfl dX5_init_83 rfl ?_
  refine w_putf (pc' := 89) F k_X5_init_5 tyX5_ok nmX5 g62 4 (by decide) m_X5_init_f18 rfl  (gnar _ _) (gfit _ _) (show 4 < 9 by decide) [.ref u, .int pu, .int (nI (dp + 1)), .ref q1, va_rf a, .null, .int (nI 0), .int (nI 0), .int (nI 0)] rfl dX5_init_86 rfl (fun h64 a65 f66 => ?_)
  refine v_aload_n (pc' := 90) F dX5_init_89 rfl (j := 0) rfl rfl ?_
  refine v_aload_n (pc' := 91) F dX5_init_90 rfl (j := 1) rfl rfl ?_
  have g67 := f66 _ _ (gnc hne gn0) g63
  refine v_getf (pc' := 94) (v := va_rf b) F k_X5_init_5 g67 5 (by decide) m_X5_init_f22 rfl dX5_init_91 rfl ?_
  refine w_putf (pc' := 97) F k_X5_init_5 tyX5_ok nmX5 a65 5 (by decide) m_X5_init_f22 rfl  (gnar _ _) (gfit _ _) (show 5 < 9 by decide) [.ref u, .int pu, .int (nI (dp + 1)), .ref q1, va_rf a, va_rf b, .int (nI 0), .int (nI 0), .int (nI 0)] rfl dX5_init_94 rfl (fun h68 a69 f70 => ?_)
  refine v_aload_n (pc' := 98) F dX5_init_97 rfl (j := 0) rfl rfl ?_
  refine v_aload_n (pc' := 99) F dX5_init_98 rfl (j := 1) rfl rfl ?_
  have g71 := f70 _ _ (gnc hne gn0) g67
  refine v_getf (pc' := 102) (v := .int (nI fl)) F k_X5_init_5 g71 6 (by decide) m_X5_init_f25 rfl dX5_init_99 rfl ?_
  refine w_putf (pc' := 105) F k_X5_init_5 tyX5_ok nmX5 a69 6 (by decide) m_X5_init_f25 rfl  rfl rfl (show 6 < 9 by decide) [.ref u, .int pu, .int (nI (dp + 1)), .ref q1, va_rf a, va_rf b, .int (nI fl), .int (nI 0), .int (nI 0)] rfl dX5_init_102 rfl (fun h72 a73 f74 => ?_)
  refine v_aload_n (pc' := 106) F dX5_init_105 rfl (j := 0) rfl rfl ?_
  refine v_aload_n (pc' := 107) F dX5_init_106 rfl (j := 1) rfl rfl ?_
  have g75 := f74 _ _ (gnc hne gn0) g71
  refine v_getf (pc' := 110) (v := .int (nI rl)) F k_X5_init_5 g75 7 (by decide) m_X5_init_f29 rfl dX5_init_107 rfl ?_
  refine w_putf (pc' := 113) F k_X5_init_5 tyX5_ok nmX5 a73 7 (by decide) m_X5_init_f29 rfl  rfl rfl (show 7 < 9 by decide) [.ref u, .int pu, .int (nI (dp + 1)), .ref q1, va_rf a, va_rf b, .int (nI fl), .int (nI rl), .int (nI 0)] rfl dX5_init_110 rfl (fun h76 a77 f78 => ?_)
  have fr80 : gfr [q1, v] h h76 := (gfr.t (gfr.mono0 f5) (gfr.t (gfr.mono hF1 (by intro q9 z9 m9; apply z9; simp only [List.mem_cons, List.not_mem_nil, or_false] at m9 ⊢; omega)) (gfr.t (gfr.mono f12 (by intro q9 z9 m9; apply z9; simp only [List.mem_cons, List.not_mem_nil, or_false] at m9 ⊢; omega)) (gfr.t (gfr.mono f15 (by intro q9 z9 m9; apply z9; simp only [List.mem_cons, List.not_mem_nil, or_false] at m9 ⊢; omega)) (gfr.t (gfr.mono f18 (by intro q9 z9 m9; apply z9; simp only [List.mem_cons, List.not_mem_nil, or_false] at m9 ⊢; omega)) (gfr.t (gfr.mono f21 (by intro q9 z9 m9; apply z9; simp only [List.mem_cons, List.not_mem_nil, or_false] at m9 ⊢; omega)) (gfr.t (gfr.mono f24 (by intro q9 z9 m9; apply z9; simp only [List.mem_cons, List.not_mem_nil, or_false] at m9 ⊢; omega)) (gfr.t (gfr.mono f27 (by intro q9 z9 m9; apply z9; simp only [List.mem_cons, List.not_mem_nil, or_false] at m9 ⊢; omega)) (gfr.t (gfr.mono f30 (by intro q9 z9 m9; apply z9; simp only [List.mem_cons, List.not_mem_nil, or_false] at m9 ⊢; omega)) (gfr.t (gfr.mono f33 (by intro q9 z9 m9; apply z9; simp only [List.mem_cons, List.not_mem_nil, or_false] at m9 ⊢; omega)) (gfr.t (gfr.mono f46 (by intro q9 z9 m9; apply z9; simp only [List.mem_cons, List.not_mem_nil, or_false] at m9 ⊢; omega)) (gfr.t (gfr.mono hfc (by intro q9 z9 m9; apply z9; simp only [List.mem_cons, List.not_mem_nil, or_false] at m9 ⊢; omega)) (gfr.t (gfr.mono f66 (by intro q9 z9 m9; apply z9; simp only [List.mem_cons, List.not_mem_nil, or_false] at m9 ⊢; omega)) (gfr.t (gfr.mono f70 (by intro q9 z9 m9; apply z9; simp only [List.mem_cons, List.not_mem_nil, or_false] at m9 ⊢; omega)) (gfr.t (gfr.mono f74 (by intro q9 z9 m9; apply z9; simp only [List.mem_cons, List.not_mem_nil, or_false] at m9 ⊢; omega)) (gfr.mono f78 (by intro q9 z9 m9; apply z9; simp only [List.mem_cons, List.not_mem_nil, or_false] at m9 ⊢; omega)))))))))))))))))
  have fr79 := gfr.drop e3 fr80
  have pl81 := gfr.pl fr79 (by intro a9 m9 fs9 z9; simp only [List.mem_cons, List.not_mem_nil, or_false] at m9; subst m9; (rw [hv] at z9; cases z9))
  have fr82 : gfr [v] h60 h76 := (gfr.t f66 (gfr.t f70 (gfr.t f74 f78)))
  have pl83 := gfr.pl fr82 (by intro a9 m9 fs9 z9; simp only [List.mem_cons, List.not_mem_nil, or_false] at m9; subst m9; (rw [g62] at z9; cases z9))
  exact v_vret F E (by omega) (by omega)  dX5_init_113 ⟨rfl, q1, ⟨a, b, a77, ha.keep pl81, hb.keep pl81, hTc.keep pl83 (fun e9 he9 => fr82 q1 e9 (gnc ((g_neN hv e3).symm) gn0) he9)⟩, fr79, e3⟩
theorem k_X5_length_5 : gCl wsX5_length 5 RX5 TX5 9 := ⟨by decide +kernel, rfl⟩
theorem m_X5_length_f25 : Cond.fieldLink RX5 25 "SteadyQueues$Version" "frontLength" "I" ∈ wsX5_length := by decide +kernel
theorem m_X5_length_f29 : Cond.fieldLink RX5 29 "SteadyQueues$Version" "rearLength" "I" ∈ wsX5_length := by decide +kernel
set_option maxHeartbeats 4000000 in
set_option maxRecDepth 100000 in
theorem c_X5_length (G : gG) (z0 : Nat) (l : Launch) {h : gH} {v t dp st : Nat} {par : Option Nat} {pu : Int32} {q : mQ} (hV : isVt h v t par pu dp q st) : gC G z0 l yX5_length wsX5_length 0 0 [.ref v] h (fun o h' => o = some (.int (nI (q.2.2.1 + q.2.2.2.1))) ∧ h' = h) 0 0 := by
  obtain ⟨f, r, fl, rl, T⟩ := q
  obtain ⟨a, b, hv, ha, hb, hT⟩ := id hV
  obtain ⟨tfs, htk⟩ := hT.kind
  refine gC_of (cc := cX5_length) (nL := 1) (ret := (some .int)) (by decide) rfl (Nat.le_of_ble_eq_true rfl) ?_
  intro X F E _
  change gF G z0 X cX5_length 1 RX5 wsX5_length (some .int) "length" 0 0 _ _ at F
  show gV G z0 X 0 0 h 0 [(0, .ref v)] []
  refine v_aload_n (pc' := 1) F dX5_length_0 rfl (j := 0) rfl rfl ?_
  refine v_getf (pc' := 4) (v := .int (nI fl)) F k_X5_length_5 hv 6 (by decide) m_X5_length_f25 rfl dX5_length_1 rfl ?_
  refine v_aload_n (pc' := 5) F dX5_length_4 rfl (j := 0) rfl rfl ?_
  refine v_getf (pc' := 8) (v := .int (nI rl)) F k_X5_length_5 hv 7 (by decide) m_X5_length_f29 rfl dX5_length_5 rfl ?_
  refine v_iadd (pc' := 9) (v := nI (fl + rl)) F dX5_length_8 (nI_add fl rl) rfl ?_
  exact v_iret F E (by omega) (by omega)  dX5_length_9 ⟨rfl, rfl⟩
theorem k_X5_putLast_1 : gCl wsX5_putLast 1 RX1 TX1 2 := ⟨by decide +kernel, rfl⟩
theorem m_X5_putLast_c49 : Cond.classLink RX5 49 RX1 ∈ wsX5_putLast := by decide +kernel
theorem m_X5_putLast_in1 : Cond.instantiable RX1 2 ∈ wsX5_putLast := by decide +kernel
theorem m_X5_putLast_ini1 : Cond.initialized RX1 ∈ wsX5_putLast := by decide +kernel
theorem k_X5_putLast_5 : gCl wsX5_putLast 5 RX5 TX5 9 := ⟨by decide +kernel, rfl⟩
theorem m_X5_putLast_f22 : Cond.fieldLink RX5 22 "SteadyQueues$Version" "rear" "LSteadyQueues$Cell;" ∈ wsX5_putLast := by decide +kernel
theorem m_X5_putLast_ml51 : Cond.methodLink RX5 51 yX1_init ∈ wsX5_putLast := by decide +kernel
theorem m_X5_putLast_imX1_init : Cond.instanceMethod yX1_init ∈ wsX5_putLast := by decide +kernel
theorem m_X5_putLast_f29 : Cond.fieldLink RX5 29 "SteadyQueues$Version" "rearLength" "I" ∈ wsX5_putLast := by decide +kernel
set_option maxHeartbeats 4000000 in
set_option maxRecDepth 100000 in
theorem c_X5_putLast (G : gG) (z0 : Nat) (l : Launch) {h : gH} {v t dp st : Nat} {par : Option Nat} {pu : Int32} {q : mQ} (x : Int32) (hV : isVt h v t par pu dp q st) : gC G z0 l yX5_putLast wsX5_putLast 2 42 [.ref v, .int x] h (fun o h' => o = none ∧ isVt h' v t par pu dp (qPut x q) st ∧ gfr [v] h h') 1 2 := by
  obtain ⟨f, r, fl, rl, T⟩ := q
  obtain ⟨a, b, hv, ha, hb, hT⟩ := id hV
  obtain ⟨tfs, htk⟩ := hT.kind
  refine gC_of (cc := cX5_putLast) (nL := 2) (ret := none) (by decide) rfl (Nat.le_of_ble_eq_true rfl) ?_
  intro X F E _
  change gF G z0 X cX5_putLast 2 RX5 wsX5_putLast none "putLast" 2 42 _ _ at F
  show gV G z0 X 0 0 h 0 [(0, .ref v), (1, .int x)] []
  refine v_aload_n (pc' := 1) F dX5_putLast_0 rfl (j := 0) rfl rfl ?_
  refine w_new (pc' := 4) F [.int (nI 0), .null] k_X5_putLast_1 tyX1_ok m_X5_putLast_c49 m_X5_putLast_in1 m_X5_putLast_ini1 (g_dv1 ) (by omega) (by omega) dX5_putLast_1 rfl (fun q1 h2 e3 a4 f5 => ?_)
  refine v_dup (pc' := 5) F dX5_putLast_4 rfl rfl ?_
  refine v_iload_n (pc' := 6) F dX5_putLast_5 rfl (j := 1) rfl rfl ?_
  refine v_aload_n (pc' := 7) F dX5_putLast_6 rfl (j := 0) rfl rfl ?_
  have g6 := f5 _ _ gn0 hv
  refine v_getf (pc' := 10) (v := va_rf b) F k_X5_putLast_5 g6 5 (by decide) m_X5_putLast_f22 rfl dX5_putLast_7 rfl ?_
  refine v_callI (pc' := 13) (mcc := 0) (msc := 0) (As := [.int x, va_rf b]) (st := [.ref q1, .ref v]) F (fun l => c_X1_init G z0 l x b a4) gX5_putLast_X1_init rfl m_X5_putLast_ini1 m_X5_putLast_ml51 m_X5_putLast_imX1_init rfl hd_X1_init (by decide) (by decide) rfl rfl (Nat.le_of_ble_eq_true rfl) (by omega) (by omega) dX5_putLast_10 rfl (fun v8 h7 hq => ?_)
  obtain ⟨rfl, cc1, ff1⟩ := hq
  have g9 := ff1 _ _ (gnc (g_neN hv e3) gn0) g6
  refine w_putf (pc' := 16) F k_X5_putLast_5 tyX5_ok nmX5 g9 5 (by decide) m_X5_putLast_f22 rfl  rfl rfl (show 5 < 9 by decide) [va_rf par, .int pu, .int (nI dp), .ref t, va_rf a, .ref q1, .int (nI fl), .int (nI rl), .int (nI st)] rfl dX5_putLast_13 rfl (fun h10 a11 f12 => ?_)
  refine v_aload_n (pc' := 17) F dX5_putLast_16 rfl (j := 0) rfl rfl ?_
  refine v_dup (pc' := 18) F dX5_putLast_17 rfl rfl ?_
  refine v_getf (pc' := 21) (v := .int (nI rl)) F k_X5_putLast_5 a11 7 (by decide) m_X5_putLast_f29 rfl dX5_putLast_18 rfl ?_
  refine v_iconst (pc' := 22) (v := nI 1) F dX5_putLast_21 (by decide) rfl ?_
  refine v_iadd (pc' := 23) (v := nI (rl + 1)) F dX5_putLast_22 (nI_add rl 1) rfl ?_
  refine w_putf (pc' := 26) F k_X5_putLast_5 tyX5_ok nmX5 a11 7 (by decide) m_X5_putLast_f29 rfl  rfl rfl (show 7 < 9 by decide) [va_rf par, .int pu, .int (nI dp), .ref t, va_rf a, .ref q1, .int (nI fl), .int (nI (rl + 1)), .int (nI st)] rfl dX5_putLast_23 rfl (fun h13 a14 f15 => ?_)
  have fr17 : gfr [q1, v] h h13 := (gfr.t (gfr.mono0 f5) (gfr.t (gfr.mono ff1 (by intro q9 z9 m9; apply z9; simp only [List.mem_cons, List.not_mem_nil, or_false] at m9 ⊢; omega)) (gfr.t (gfr.mono f12 (by intro q9 z9 m9; apply z9; simp only [List.mem_cons, List.not_mem_nil, or_false] at m9 ⊢; omega)) (gfr.mono f15 (by intro q9 z9 m9; apply z9; simp only [List.mem_cons, List.not_mem_nil, or_false] at m9 ⊢; omega)))))
  have fr16 := gfr.drop e3 fr17
  have pl18 := gfr.pl fr16 (by intro a9 m9 fs9 z9; simp only [List.mem_cons, List.not_mem_nil, or_false] at m9; subst m9; (rw [hv] at z9; cases z9))
  have g19 := f12 _ _ (gnc ((g_neN hv e3).symm) gn0) cc1
  have g20 := f15 _ _ (gnc ((g_neN hv e3).symm) gn0) g19
  exact v_vret F E (by omega) (by omega)  dX5_putLast_26 ⟨rfl, ⟨a, some q1, a14, ha.keep pl18, ⟨_, b, rfl, g20, hb.keep pl18⟩, hT.keep pl18 (fun e9 he9 => fr16 t e9 (gnc (g_neC htk hv (by decide)) gn0) he9)⟩, fr16⟩
theorem k_X5_takeFirst_5 : gCl wsX5_takeFirst 5 RX5 TX5 9 := ⟨by decide +kernel, rfl⟩
theorem m_X5_takeFirst_f18 : Cond.fieldLink RX5 18 "SteadyQueues$Version" "front" "LSteadyQueues$Cell;" ∈ wsX5_takeFirst := by decide +kernel
theorem m_X5_takeFirst_f25 : Cond.fieldLink RX5 25 "SteadyQueues$Version" "frontLength" "I" ∈ wsX5_takeFirst := by decide +kernel
theorem m_X5_takeFirst_f12 : Cond.fieldLink RX5 12 "SteadyQueues$Version" "turn" "LSteadyQueues$Turn;" ∈ wsX5_takeFirst := by decide +kernel
theorem hv_X4_loseFirst : yX4_loseFirst.cls = RX4 ∧ yX4_loseFirst.cls ≠ "java/lang/invoke/MethodHandle" ∧ yX4_loseFirst.cls ≠ "java/lang/invoke/VarHandle" ∧ (parseMethodDescriptor yX4_loseFirst.desc).map (fun d => d.parameters.length) = some 0 := by decide +kernel
set_option maxHeartbeats 4000000 in
set_option maxRecDepth 100000 in
theorem c_X5_takeFirst (G : gG) (z0 : Nat) (l : Launch) {h : gH} {v t dp st : Nat} {par : Option Nat} {pu : Int32} {q : mQ} (hV : isVt h v t par pu dp q st) (hl : 1 ≤ q.2.2.1) (hk0 : q.2.2.2.2.1 < 4) (ho0 : q.2.2.2.2.2.1 < 1000) (h1 : q.2.2.2.2.1 = 1 → 1 ≤ q.2.2.2.2.2.1) : gC G z0 l yX5_takeFirst wsX5_takeFirst 2 40 [.ref v] h (fun o h' => o = none ∧ isVt h' v t par pu dp (qTake q) st ∧ gfr [v, t] h h') 0 0 := by
  obtain ⟨f, r, fl, rl, T⟩ := q
  obtain ⟨a, b, hv, ha, hb, hT⟩ := id hV
  obtain ⟨tfs, htk⟩ := hT.kind
  simp only at hl hk0 ho0 h1
  refine gC_of (cc := cX5_takeFirst) (nL := 1) (ret := none) (by decide) rfl (Nat.le_of_ble_eq_true rfl) ?_
  intro X F E _
  change gF G z0 X cX5_takeFirst 1 RX5 wsX5_takeFirst none "takeFirst" 2 40 _ _ at F
  show gV G z0 X 0 0 h 0 [(0, .ref v)] []
  refine v_aload_n (pc' := 1) F dX5_takeFirst_0 rfl (j := 0) rfl rfl ?_
  refine v_aload_n (pc' := 2) F dX5_takeFirst_1 rfl (j := 0) rfl rfl ?_
  refine v_getf (pc' := 5) (v := va_rf a) F k_X5_takeFirst_5 hv 4 (by decide) m_X5_takeFirst_f18 rfl dX5_takeFirst_2 rfl ?_
  refine v_callS (pc' := 8) (rt := (some (.object "SteadyQueues$Cell"))) (mcc := 0) (msc := 0) (As := [va_rf a]) (st := [.ref v]) F (fun l => c_X1_behindFirst G z0 l ha) gX5_takeFirst_X1_behindFirst rfl hd_X1_behindFirst (by decide) (by decide) rfl rfl (Nat.le_of_ble_eq_true rfl) (by omega) (by omega) dX5_takeFirst_5 rfl (fun v1 h hq => ?_)
  obtain ⟨a1, rfl, ha1, rfl⟩ := hq
  refine w_putf (pc' := 11) F k_X5_takeFirst_5 tyX5_ok nmX5 hv 4 (by decide) m_X5_takeFirst_f18 rfl  (gnar _ _) (gfit _ _) (show 4 < 9 by decide) [va_rf par, .int pu, .int (nI dp), .ref t, va_rf a1, va_rf b, .int (nI fl), .int (nI rl), .int (nI st)] rfl dX5_takeFirst_8 rfl (fun h2 a3 f4 => ?_)
  refine v_aload_n (pc' := 12) F dX5_takeFirst_11 rfl (j := 0) rfl rfl ?_
  refine v_dup (pc' := 13) F dX5_takeFirst_12 rfl rfl ?_
  refine v_getf (pc' := 16) (v := .int (nI fl)) F k_X5_takeFirst_5 a3 6 (by decide) m_X5_takeFirst_f25 rfl dX5_takeFirst_13 rfl ?_
  refine v_iconst (pc' := 17) (v := nI 1) F dX5_takeFirst_16 (by decide) rfl ?_
  refine v_isub (pc' := 18) (v := nI (fl - 1)) F dX5_takeFirst_17 (g_subn (by omega) (by omega)) rfl ?_
  refine w_putf (pc' := 21) F k_X5_takeFirst_5 tyX5_ok nmX5 a3 6 (by decide) m_X5_takeFirst_f25 rfl  rfl rfl (show 6 < 9 by decide) [va_rf par, .int pu, .int (nI dp), .ref t, va_rf a1, va_rf b, .int (nI (fl - 1)), .int (nI rl), .int (nI st)] rfl dX5_takeFirst_18 rfl (fun h5 a6 f7 => ?_)
  refine v_aload_n (pc' := 22) F dX5_takeFirst_21 rfl (j := 0) rfl rfl ?_
  refine v_getf (pc' := 25) (v := .ref t) F k_X5_takeFirst_5 a6 3 (by decide) m_X5_takeFirst_f12 rfl dX5_takeFirst_22 rfl ?_
  have fr8 : gfr [v] h h5 := (gfr.t f4 f7)
  have pl9 := gfr.pl fr8 (by intro a9 m9 fs9 z9; simp only [List.mem_cons, List.not_mem_nil, or_false] at m9; subst m9; (rw [hv] at z9; cases z9))
  have hTn : isT h5 t T := hT.keep pl9 (fun e9 he9 => fr8 t e9 (gnc (g_neC htk hv (by decide)) gn0) he9)
  have g12 := f4 _ _ (gnc (g_neC htk hv (by decide)) gn0) htk
  have g13 := f7 _ _ (gnc (g_neC g12 a3 (by decide)) gn0) g12
  refine v_callV (pc' := 28) (rt := none) (mcc := 0) (msc := 0) (As := []) (st := []) F (fun l => c_X4_loseFirst G z0 l hTn hk0 ho0 h1) gX5_takeFirst_X4_loseFirst rfl hv_X4_loseFirst (by decide) (by decide) g13 rfl rfl rfl (Nat.le_of_ble_eq_true rfl) (by omega) (by omega) dX5_takeFirst_25 rfl (fun v11 h10 hq => ?_)
  obtain ⟨rfl, hTl, hfl⟩ := hq
  have fr14 : gfr [v, t] h h10 := (gfr.t (gfr.mono f4 (by intro q9 z9 m9; apply z9; simp only [List.mem_cons, List.not_mem_nil, or_false] at m9 ⊢; omega)) (gfr.t (gfr.mono f7 (by intro q9 z9 m9; apply z9; simp only [List.mem_cons, List.not_mem_nil, or_false] at m9 ⊢; omega)) (gfr.mono hfl (by intro q9 z9 m9; apply z9; simp only [List.mem_cons, List.not_mem_nil, or_false] at m9 ⊢; omega))))
  have pl15 := gfr.pl fr14 (by intro a9 m9 fs9 z9; simp only [List.mem_cons, List.not_mem_nil, or_false] at m9; rcases m9 with rfl | rfl <;> first | (rw [hv] at z9; cases z9) | (rw [htk] at z9; cases z9))
  have g16 := hfl _ _ (gnc (g_neC a6 g13 (by decide)) gn0) a6
  exact v_vret F E (by omega) (by omega)  dX5_takeFirst_28 ⟨rfl, ⟨a1, b, g16, ha1.keep pl15, hb.keep pl15, hTl⟩, fr14⟩
