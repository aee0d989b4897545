theorem gC_weak {G : gG} {z0 : Nat} {l : Launch} {y : MethodName} {ws : List Cond} {fr lo : Nat} {vs : List Value} {h : gH} {post post2 : Option Value → gH → Prop} {mc ms : Nat} (H : gC G z0 l y ws fr lo vs h post mc ms) (k : ∀ (v : Option Value) (h' : gH), post v h' → post2 v h') : gC G z0 l y ws fr lo vs h post2 mc ms := fun p e a1 a2 a3 s m args below b1 b2 b3 b4 => by
  obtain ⟨n, o, w1, w2, w3, ⟨⟨v, h', e1, e2, e3⟩, w4⟩, w5⟩ := H p e a1 a2 a3 s m args below b1 b2 b3 b4
  exact ⟨n, o, w1, w2, w3, ⟨⟨v, h', e1, k v h' e2, e3⟩, w4⟩, w5⟩
/-! THE REFERENCE: what it tells of versions -/
/-- the parent, by its index -/
def asD (D : Dt) (i : Nat) : List Nat := if i = 0 then [] else [D.2.2.2.1 i]
def paD (D : Dt) : Nat → Option Nat := fun i => (asD D i).head?
def chD (D : Dt) (v : Nat) : Nat := gsum (fun i => if paD D i = some v then 1 else 0) D.1
theorem par_iff {D : Dt} (w9 : wfD D) {o v : Nat} (ho : o < D.1) (hv : v < 64) : parI D o = nI v ↔ paD D o = some v := by
  unfold parI paD asD
  by_cases e : o = 0
  · rw [if_pos e, if_pos e]
    exact ⟨fun z => absurd z.symm (nI_m1 (by omega)), fun z => by cases z⟩
  · rw [if_neg e, if_neg e]
    have h1 := (w9.2.2.2.2.2 o (by omega) ho).1
    have h2 := w9.2.1
    constructor
    · intro z
      rw [(nI_eq (by omega) (by omega)).mp z]
      rfl
    · intro z
      rw [Option.some.inj z]
theorem gsum_b {f : Nat → Nat} (hf : ∀ i, f i ≤ 1) : ∀ n, gsum f n ≤ n
  | 0 => Nat.le_refl _
  | n + 1 => by
    have := gsum_b hf n
    have := hf n
    rw [gsum_s]
    omega
theorem paD_fidx {D : Dt} (w9 : wfD D) {v : Nat} (hv : v < D.1) : fidx id (paD D v) D.1 0 = parI D v := by
  unfold parI paD asD
  by_cases e : v = 0
  · rw [if_pos e, if_pos e]
    exact fidx_none _ _ _
  · rw [if_neg e, if_neg e]
    have h1 := (w9.2.2.2.2.2 v (by omega) hv).1
    exact fidx_at (ad := id) (k := D.2.2.2.1 v) D.1 0 (Nat.zero_le _) (by omega) (fun j _ h3 => by show j ≠ D.2.2.2.1 v; omega)
theorem s_X7_laysP (G : gG) (z0 : Nat) (l : Launch) {h : gH} {m rows asd vals many way told oth lst text now : Nat} {th und fed len spot fa fat num frm may : Int32} {R : Nat → Int32} {D : Dt} {v : Nat} (hMS : mS G h m rows asd vals many way told oth lst text th now und fed len spot fa fat num frm may R) (hnow : now < 9) (w9 : wfD D) (hS : slP R (330 * now) D) (hv : v < D.1) : gC G z0 l yX7_lays wsX7_lays 4 86 [.ref m, .int (nI v)] h (fun o h' => o = none ∧ mL G h' m rows asd vals many way told oth lst text th now und fed len spot fa fat num frm may R (qOf (D.2.2.2.2 v)) ∧ gfr [m, vals, many, way, told, oth, lst] h h') 0 0 := by
  obtain ⟨fl, rl, kd, ok, st, wm, hm, hrows, ⟨V, hvals⟩, ⟨M, hmany⟩, ⟨W, hway⟩, ⟨f, htold⟩, ⟨g, hoth⟩, ⟨ll, hlst⟩, htw, how, hto⟩ := hMS
  refine gC_weak (c_X7_lays G z0 l hm hrows hnow hway hvals hmany w9 hS hv) (fun o h' hq => ?_)
  obtain ⟨rfl, hmB, WB, hwB, -, hqB, frB⟩ := hq
  have hx := hqB
  obtain ⟨VB, MB, lsB, hvB, hyB, -, -⟩ := hx
  have htB := frB _ _ (gnc (Ne.symm (g_neA hm htold)) (gnc htw (gnc (g_neL htold hvals (by decide)) (gnc (g_neL htold hmany (by decide)) gn0)))) htold
  have hoB := frB _ _ (gnc (Ne.symm (g_neA hm hoth)) (gnc how (gnc (g_neL hoth hvals (by decide)) (gnc (g_neL hoth hmany (by decide)) gn0)))) hoth
  have hlB := frB _ _ (gnc (Ne.symm (g_neA hm hlst)) (gnc (g_neL hlst hway (by decide)) (gnc (g_neL hlst hvals (by decide)) (gnc (g_neL hlst hmany (by decide)) gn0)))) hlst
  have hrB := frB _ _ (gnc (Ne.symm (g_neA hm hrows)) (gnc (g_neL hrows hway (by decide)) (gnc (g_neL hrows hvals (by decide)) (gnc (g_neL hrows hmany (by decide)) gn0)))) hrows
  exact ⟨rfl, ⟨_, hmB, hrB, hqB, ⟨_, hwB⟩, ⟨_, htB⟩, ⟨_, hoB⟩, ⟨_, hlB⟩, htw, how, hto⟩, gfr.mono frB (by intro q9 z9 m9; apply z9; simp only [List.mem_cons, List.not_mem_nil, or_false] at m9 ⊢; omega)⟩
theorem s_X7_lays (G : gG) (z0 : Nat) (l : Launch) {h : gH} {m rows asd vals many way told oth lst text now : Nat} {th und fed len spot fa fat num frm may : Int32} {R : Nat → Int32} {D : Dt} {v : Nat} (hMS : mS G h m rows asd vals many way told oth lst text th now und fed len spot fa fat num frm may R) (hnow : now < 9) (w9 : wfD D) (hS : slD R (330 * now) D) (hv : v < D.1) : gC G z0 l yX7_lays wsX7_lays 4 86 [.ref m, .int (nI v)] h (fun o h' => o = none ∧ mL G h' m rows asd vals many way told oth lst text th now und fed len spot fa fat num frm may R (qOf (D.2.2.2.2 v)) ∧ gfr [m, vals, many, way, told, oth, lst] h h') 0 0 := s_X7_laysP G z0 l hMS hnow w9 hS.p hv
theorem s_X7_length (G : gG) (z0 : Nat) (l : Launch) {h : gH} {m rows asd vals many way told oth lst text now : Nat} {th und fed len spot fa fat num frm may : Int32} {R : Nat → Int32} {D : Dt} {v : Nat} (hMS : mS G h m rows asd vals many way told oth lst text th now und fed len spot fa fat num frm may R) (hnow : now < 9) (w9 : wfD D) (hS : slD R (330 * now) D) (hv : v < D.1) : gC G z0 l yX7_length wsX7_length 4 91 [.ref m, .int (nI v)] h (fun o h' => o = some (.int (nI (wVals (D.2.2.2.2 v)).length)) ∧ mS G h' m rows asd vals many way told oth lst text th now und fed len spot fa fat num frm may R ∧ (∃ f', h' told = some (oI G 64 f') ∧ fHas f' 0 (wVals (D.2.2.2.2 v))) ∧ gfr [m, vals, many, way, told, oth, lst] h h') 0 0 := by
  obtain ⟨fl, rl, kd, ok, st, wm, hm, hrows, ⟨V, hvals⟩, ⟨M, hmany⟩, ⟨W, hway⟩, ⟨f, htold⟩, ⟨g, hoth⟩, ⟨ll, hlst⟩, htw, how, hto⟩ := hMS
  refine gC_weak (c_X7_length G z0 l hm hrows hnow hway htold htw w9 hS hv) (fun o h' hq => ?_)
  obtain ⟨rfl, hmB, fB, htB, hfB, WB, hwB, -, frB⟩ := hq
  have hvB := frB _ _ (gnc (Ne.symm (g_neA hm hvals)) (gnc (g_neL hvals hway (by decide)) (gnc (g_neL hvals htold (by decide)) gn0))) hvals
  have hyB := frB _ _ (gnc (Ne.symm (g_neA hm hmany)) (gnc (g_neL hmany hway (by decide)) (gnc (g_neL hmany htold (by decide)) gn0))) hmany
  have hlB := frB _ _ (gnc (Ne.symm (g_neA hm hlst)) (gnc (g_neL hlst hway (by decide)) (gnc (g_neL hlst htold (by decide)) gn0))) hlst
  have hrB := frB _ _ (gnc (Ne.symm (g_neA hm hrows)) (gnc (g_neL hrows hway (by decide)) (gnc (g_neL hrows htold (by decide)) gn0))) hrows
  have hoB := frB _ _ (gnc (Ne.symm (g_neA hm hoth)) (gnc how (gnc hto.symm gn0))) hoth
  exact ⟨rfl, ⟨_, _, _, _, _, _, hmB, hrB, ⟨_, hvB⟩, ⟨_, hyB⟩, ⟨_, hwB⟩, ⟨_, htB⟩, ⟨_, hoB⟩, ⟨_, hlB⟩, htw, how, hto⟩, ⟨fB, htB, hfB⟩, gfr.mono frB (by intro q9 z9 m9; apply z9; simp only [List.mem_cons, List.not_mem_nil, or_false] at m9 ⊢; omega)⟩
set_option maxHeartbeats 4000000 in
set_option maxRecDepth 100000 in
theorem lp_X7_children {G : gG} {z0 : Nat} {X : gX} {l : Launch} {post : Option Value → gH → Prop} {mc ms cells slots j k v : Nat} {h : gH} {m rows asd now vals many way told oth lst text : Nat} {th und fl rl kd ok st wm fed len spot fa fat num frm may : Int32} {R : Nat → Int32} {D : Dt} (F : gF G z0 X cX7_children 4 RX7 wsX7_children (some .int) "children" 2 43 mc ms) (E : gE G z0 X post mc ms) (hcc : cells ≤ mc) (hss : slots ≤ ms) (hm : h m = some (.inr (7, [.int th, .ref rows, .ref asd, .int (nI now), .int und, .ref vals, .ref many, .int fl, .int rl, .int kd, .int ok, .int st, .ref way, .int wm, .ref told, .ref oth, .ref lst, .ref text, .int fed, .int len, .int spot, .int fa, .int fat, .int num, .int frm, .int may]))) (hrows : h rows = some (oI G 2970 R)) (hnow : now < 9) (w9 : wfD D) (hS : slD R (330 * now) D) (hv64 : v < 64) (hkj : k + j = D.1) (hp : post (some (.int (nI (chD D v)))) h) : gV G z0 X cells slots h 4 [(3, .int (nI k)), (2, .int (nI (gsum (fun i => if paD D i = some v then 1 else 0) k))), (1, .int (nI v)), (0, .ref m)] [] := by
  have hn64 := w9.2.1
  induction j generalizing k with
  | zero =>
    obtain rfl : k = D.1 := by omega
    refine v_iload_n (pc' := 5) F dX7_children_4 rfl (j := 0) rfl rfl ?_
    refine v_aload_n (pc' := 6) F dX7_children_5 rfl (j := 3) rfl rfl ?_
    refine v_callV (pc' := 9) (rt := (some .int)) (mcc := 0) (msc := 0) (As := []) (st := [.int (nI D.1)]) F (fun l => c_X7_versions G z0 l hm hrows hnow hS.1) gX7_children_X7_versions rfl hv_X7_versions (by decide) (by decide) hm rfl rfl rfl (Nat.le_of_ble_eq_true rfl) (by omega) (by omega) dX7_children_6 rfl (fun v1 h hqv => ?_)
    obtain ⟨rfl, rfl⟩ := hqv
    refine w_icmp_ge (tgt := 36) (pc' := 12) F (by omega) (by omega) dX7_children_9 (by decide) rfl (fun _ => ?_) (fun c0 => absurd c0 (by omega))
    refine v_iload_n (pc' := 37) F dX7_children_36 rfl (j := 1) rfl rfl ?_
    exact v_iret F E (by omega) (by omega)  dX7_children_37 hp
  | succ j ih =>
    have hcb : gsum (fun i => if paD D i = some v then 1 else 0) k ≤ k := gsum_b (fun i => by split <;> omega) k
    have hpk := (hS.2.2.2 k (by omega)).1
    refine v_iload_n (pc' := 5) F dX7_children_4 rfl (j := 0) rfl rfl ?_
    refine v_aload_n (pc' := 6) F dX7_children_5 rfl (j := 3) rfl rfl ?_
    refine v_callV (pc' := 9) (rt := (some .int)) (mcc := 0) (msc := 0) (As := []) (st := [.int (nI k)]) F (fun l => c_X7_versions G z0 l hm hrows hnow hS.1) gX7_children_X7_versions rfl hv_X7_versions (by decide) (by decide) hm rfl rfl rfl (Nat.le_of_ble_eq_true rfl) (by omega) (by omega) dX7_children_6 rfl (fun v1 h hqv => ?_)
    obtain ⟨rfl, rfl⟩ := hqv
    refine w_icmp_ge (tgt := 36) (pc' := 12) F (by omega) (by omega) dX7_children_9 (by decide) rfl (fun c0 => absurd c0 (by omega)) (fun _ => ?_)
    refine v_iload_n (pc' := 13) F dX7_children_12 rfl (j := 1) rfl rfl ?_
    refine v_aload_n (pc' := 14) F dX7_children_13 rfl (j := 3) rfl rfl ?_
    refine v_iload_n (pc' := 15) F dX7_children_14 rfl (j := 0) rfl rfl ?_
    refine v_iconst (pc' := 16) (v := nI 0) F dX7_children_15 (by decide) rfl ?_
    refine v_callV (pc' := 19) (rt := (some .int)) (mcc := 0) (msc := 0) (As := [.int (nI k), .int (nI 0)]) (st := [.int (nI (gsum (fun i => if paD D i = some v then 1 else 0) k))]) F (fun l => c_X7_of G z0 l (v := k) (w := 0) hm hrows hnow (by omega) (by omega)) gX7_children_X7_of rfl hv_X7_of (by decide) (by decide) hm rfl rfl rfl (Nat.le_of_ble_eq_true rfl) (by omega) (by omega) dX7_children_16 rfl (fun v2 h hqo => ?_)
    rw [hpk] at hqo; obtain ⟨rfl, rfl⟩ := hqo
    refine v_iload_n (pc' := 20) F dX7_children_19 rfl (j := 2) rfl rfl ?_
    refine v_icmp_ne (tgt := 27) (pc' := 23) F dX7_children_20 (by decide) rfl (fun c0 => ?_) (fun c0 => ?_)
    · have e1 : gsum (fun i => if paD D i = some v then 1 else 0) (k + 1) = gsum (fun i => if paD D i = some v then 1 else 0) k := by rw [gsum_s, if_neg (fun z => c0 ((par_iff w9 (by omega) hv64).mpr z))]; rfl
      refine v_iconst (pc' := 28) (v := nI 0) F dX7_children_27 (by decide) rfl ?_
      refine v_iadd (pc' := 29) (v := nI (gsum (fun i => if paD D i = some v then 1 else 0) k)) F dX7_children_28 (g_eqn (nI_add (gsum (fun i => if paD D i = some v then 1 else 0) k) 0) (by omega)) rfl ?_
      refine v_istore_n (pc' := 30) (i := 2) (L' := [(2, .int (nI (gsum (fun i => if paD D i = some v then 1 else 0) k))), (3, .int (nI k)), (1, .int (nI v)), (0, .ref m)]) F dX7_children_29 rfl (by decide) rfl rfl ?_
      refine v_iinc (pc' := 33) (j := 1) (x := nI k) (v := nI (k + 1)) (L' := [(3, .int (nI (k + 1))), (2, .int (nI (gsum (fun i => if paD D i = some v then 1 else 0) k))), (1, .int (nI v)), (0, .ref m)]) F dX7_children_30 rfl (nI_add k 1) (by decide) rfl rfl ?_
      refine v_goto (tgt := 4) F dX7_children_33 (by decide) ?_
      refine v_sub (L' := [(3, .int (nI (k + 1))), (2, .int (nI (gsum (fun i => if paD D i = some v then 1 else 0) k))), (1, .int (nI v)), (0, .ref m)]) [0, 1, 2, 3] rfl ?_
      have := ih (k := k + 1) (by omega)
      rw [e1] at this
      exact this
    · have e1 : gsum (fun i => if paD D i = some v then 1 else 0) (k + 1) = gsum (fun i => if paD D i = some v then 1 else 0) k + 1 := by rw [gsum_s, if_pos ((par_iff w9 (by omega) hv64).mp c0)]
      refine v_iconst (pc' := 24) (v := nI 1) F dX7_children_23 (by decide) rfl ?_
      refine v_goto (tgt := 28) F dX7_children_24 (by decide) ?_
      refine v_iadd (pc' := 29) (v := nI (gsum (fun i => if paD D i = some v then 1 else 0) k + 1)) F dX7_children_28 (nI_add (gsum (fun i => if paD D i = some v then 1 else 0) k) 1) rfl ?_
      refine v_istore_n (pc' := 30) (i := 2) (L' := [(2, .int (nI (gsum (fun i => if paD D i = some v then 1 else 0) k + 1))), (3, .int (nI k)), (1, .int (nI v)), (0, .ref m)]) F dX7_children_29 rfl (by decide) rfl rfl ?_
      refine v_iinc (pc' := 33) (j := 1) (x := nI k) (v := nI (k + 1)) (L' := [(3, .int (nI (k + 1))), (2, .int (nI (gsum (fun i => if paD D i = some v then 1 else 0) k + 1))), (1, .int (nI v)), (0, .ref m)]) F dX7_children_30 rfl (nI_add k 1) (by decide) rfl rfl ?_
      refine v_goto (tgt := 4) F dX7_children_33 (by decide) ?_
      refine v_sub (L' := [(3, .int (nI (k + 1))), (2, .int (nI (gsum (fun i => if paD D i = some v then 1 else 0) k + 1))), (1, .int (nI v)), (0, .ref m)]) [0, 1, 2, 3] rfl ?_
      have := ih (k := k + 1) (by omega)
      rw [e1] at this
      exact this
set_option maxHeartbeats 4000000 in
set_option maxRecDepth 100000 in
theorem c_X7_children (G : gG) (z0 : Nat) (l : Launch) {h : gH} {m rows asd now vals many way told oth lst text : Nat} {th und fl rl kd ok st wm fed len spot fa fat num frm may : Int32} {R : Nat → Int32} {D : Dt} {v : Nat} (hm : h m = some (.inr (7, [.int th, .ref rows, .ref asd, .int (nI now), .int und, .ref vals, .ref many, .int fl, .int rl, .int kd, .int ok, .int st, .ref way, .int wm, .ref told, .ref oth, .ref lst, .ref text, .int fed, .int len, .int spot, .int fa, .int fat, .int num, .int frm, .int may]))) (hrows : h rows = some (oI G 2970 R)) (hnow : now < 9) (w9 : wfD D) (hS : slD R (330 * now) D) (hv64 : v < 64) : gC G z0 l yX7_children wsX7_children 2 43 [.ref m, .int (nI v)] h (fun o h' => o = some (.int (nI (chD D v))) ∧ h' = h) 0 0 := by
  refine gC_of (cc := cX7_children) (nL := 4) (ret := (some .int)) (by decide) rfl (Nat.le_of_ble_eq_true rfl) ?_
  intro X F E _
  change gF G z0 X cX7_children 4 RX7 wsX7_children (some .int) "children" 2 43 _ _ at F
  show gV G z0 X 0 0 h 0 [(0, .ref m), (1, .int (nI v))] []
  refine v_iconst (pc' := 1) (v := nI 0) F dX7_children_0 (by decide) rfl ?_
  refine v_istore_n (pc' := 2) (i := 2) (L' := [(2, .int (nI 0)), (0, .ref m), (1, .int (nI v))]) F dX7_children_1 rfl (by decide) rfl rfl ?_
  refine v_iconst (pc' := 3) (v := nI 0) F dX7_children_2 (by decide) rfl ?_
  refine v_istore_n (pc' := 4) (i := 3) (L' := [(3, .int (nI 0)), (2, .int (nI 0)), (0, .ref m), (1, .int (nI v))]) F dX7_children_3 rfl (by decide) rfl rfl ?_
  refine v_sub (L' := [(3, .int (nI 0)), (2, .int (nI 0)), (1, .int (nI v)), (0, .ref m)]) [0, 1, 3, 2] rfl ?_
  exact lp_X7_children (l := l) (k := 0) (j := D.1) F E (by omega) (by omega) hm hrows hnow w9 hS hv64 (by omega) ⟨rfl, rfl⟩
