/-! calls -/
theorem wAll_good {w : Cond} (h : w ∈ wAll) : (w.onTables && w.keeps) = true ∨ ∃ ty, w = .arrayClass ty := good_of_word (List.mem_filter.mp h).2
theorem good_ws {M : Mt} (hc : Cond.code M.1 M.2.1 M.2.2.1 M.2.2.2 ∈ wAll) : GoodIn wAll (wsM M) := fun w hw => (List.mem_cons.mp hw).elim (fun e => by rw [e]; exact ⟨hc, wAll_good hc⟩) (fun h => ⟨h, wAll_good h⟩)
theorem pcG_blind (G : Gt) (as : List Value) (h : Hp) : FrameBlind (pcG G as h) := fun a U g mk q =>
  ⟨q.1, ⟨q.2.1.1, va_K.moved (u := U) (U := U.calling g mk a) (Vm.Alike.refl U.vm) q.2.1.2.1, zf_on q.2.1.2.2 (Vm.Alike.refl U.vm) (fun _ _ _ => rfl)⟩, q.2.2.1, nw_same (s := U) (U := U.calling g mk a) rfl q.2.2.2⟩
def arOk (M : Mt) (n : Nat) : Prop := M.1.cls ≠ "java/lang/invoke/MethodHandle" ∧ M.1.cls ≠ "java/lang/invoke/VarHandle" ∧ (parseMethodDescriptor M.1.desc).map (fun d => d.parameters.length) = some n
def LBt (M : Mt) (n : Nat) : Prop := Cond.initialized M.1.cls ∈ wAll ∧ Cond.code M.1 M.2.1 M.2.2.1 M.2.2.2 ∈ wAll ∧ arOk M n ∧ M.2.2.1 ≤ 45
def LVt (own : String) (ix : Nat) (M : Mt) (n : Nat) : Prop := Cond.methodLink own ix M.1 ∈ wAll ∧ Cond.instanceMethod M.1 ∈ wAll ∧ Cond.selects M.1.cls M.1 M.1 ∈ wAll ∧ LBt M n
def LSt (own : String) (ix : Nat) (M : Mt) (n : Nat) : Prop := (Cond.methodLink own ix M.1 ∈ wAll ∨ ∃ host, Cond.methodLinkNest own ix M.1 host ∈ nwl) ∧ Cond.static M.1 ∈ wAll ∧ LBt M n
section WPC
variable {G : Gt} {d : Nat} {M M' : Mt} {Q : Option Value → Hp → Prop} {pc : Nat} {L : List (Option Value)} {S : List Value} {h : Hp}
theorem vx_call {p : Program} {l : Launch} {e : Env} {R : Room} {s : State} {m : MethodId} {args a : Array Value} {below : List Frame} {meth : Method} {c : Code} {H : Heap} {locs : List Loc} {Qm : State → Prop} {ls : Array Slot} {st0 rest : List Value} {Q' : Option Value → Hp → Prop} (hr : va_Run p l e R s m args below meth c H locs 0 0 0 0 (F0 m pc ls st0) rest (qcG G Q' a) (gA G)) (hS : va_S (gA G) s.heap H locs)
    (kk : ∀ (r : Option Value) (h' : Hp) (H1 : Heap) (locs1 : List Loc), Q' r h' → va_P (gD G) vwCl (wld G h') H1 → va_S (gA G) s.heap H1 locs1 → W p l e R s m args below meth c H1 locs1 0 0 Qm (F0 m (pc + 3) ls (r.toList ++ rest))) : W p l e R s m args below meth c H locs 0 0 Qm (F0 m pc ls st0) := by
  intro T hT X
  obtain ⟨v, st₀, t, T', L, h0, X', hL, e1, e2, ⟨⟨r, h', hv, hq, hw⟩, hz, hk⟩, st⟩ := hr T hT X
  cases hv
  rw [h0] at hz hk
  obtain ⟨t2, a1, b1⟩ := kk v h' T'.heap (locs ++ L) hq (by rw [e1]; exact hw.1)
    ⟨Nat.le_trans hS.1 (by rw [e1]; exact hz), fun q h1 h2 => by rw [e1, hk q (Nat.lt_of_lt_of_le h1 hS.1) h2]; exact hS.2.1 q h1 h2, fun q hq => by
      rcases List.mem_append.mp hq with h | h
      · exact hS.2.2 q h
      · exact hL q h⟩ T' rfl X'
  exact ⟨t2, st t2 a1, b1⟩
theorem wl_at {s U : State} {H : Heap} {locs : List Loc} {p : Program} {m : MethodId} {args : Array Value} {meth : Method} {c : Code} (C : CX G M p s m args meth c) (hP : va_P (gD G) vwCl (wld G h) H) (hS : va_S (gA G) s.heap H locs) (hU : U.heap = H) (hW : s.WarmedH U.vm) : wl G h U U.heap ∧ inj G ∧ nw U := ⟨wl_end C hP hS hU hW, C.2.2.2.2.2.2.2.2.2.1, nw_warm hW C.2.2.2.2.2.2.2.2.2.2⟩
theorem rm_ok (d : Nat) {n : Nat} (h : n ≤ 45) : (rmD d).frames + 1 ≤ (rmD (d + 1)).frames ∧ 8 + (n + 11) + (rmD d).locals ≤ (rmD (d + 1)).locals := ⟨Nat.le_refl _, by show 8 + (n + 11) + 64 * d ≤ 64 * (d + 1); omega⟩
theorem cat_map (G : Gt) (S : List Value) : ((S.map (cv G)).map fun v => v.category).sum = (S.map fun v => v.category).sum := by
  rw [List.map_map]; congr 1; exact List.map_congr_left (fun v _ => cv_cat G v)
/-- what the callee's end must give: no reference comes back, and the walk goes on -/
def goOn (G : Gt) (d : Nat) (M : Mt) (Q : Option Value → Hp → Prop) (pc : Nat) (L : List (Option Value)) (S : List Value) (Q' : Option Value → Hp → Prop) : Prop := ∀ r h', Q' r h' → r.toList.map (cv G) = r.toList ∧ WP G d M Q pc L (r.toList ++ S) h'
theorem wp_cV {ix n b ci : Nat} {fl : List (Option Nat)} {As : List Value} {Q' : Option Value → Hp → Prop} (hl : LVt M.1.cls ix M' n) (hd : decode M.2.1 pc = .ok (.invokevirtual ix, 3)) (hsh : shp[b]? = some (0, ci, fl)) (hcl : (vwCl[ci]?).map (fun q => q.1) = some M'.1.cls) (hn : As.length = n) (hr : Nat.ble ((S.map fun v => v.category).sum) 8 = true)
    (hc : Call G d M' (.ref b :: As) h Q') (hg : goOn G (d + 1) M Q (pc + 3) L S Q') : WP G (d + 1) M Q pc L (As.reverse ++ .ref b :: S) h := by
  intro p e s m args below meth c H locs ls C hP hS hlr
  obtain ⟨hx, hb, hret, hml, hown, hts, hlocks, hK, hz, hi, hnw⟩ := id C
  obtain ⟨hlk, him, hse, hini, hcd, hd2, hmx⟩ := hl
  have hgt := wld_get (G := G) (h := h) hsh
  rw [ce_obj] at hgt
  obtain ⟨q, hq, hq1⟩ : ∃ q, vwCl[ci]? = some q ∧ q.1 = M'.1.cls := by
    cases hv : vwCl[ci]? with
    | none => rw [hv] at hcl; cases hcl
    | some q => rw [hv] at hcl; exact ⟨q, rfl, Option.some.inj hcl⟩
  have hrec := va_recv hK hP hq hgt
  rw [hq1] at hrec
  have hst : (As.reverse ++ .ref b :: S).map (cv G) = (As.map (cv G)).reverse ++ .ref (ga G b) :: S.map (cv G) := by
    rw [List.map_append, List.map_reverse, List.map_cons]
    show _ ++ Value.ref (gr G b) :: _ = _
    rw [gr_lt G (shp_lt hsh)]
  have e0 : (Value.ref (ga G b) :: As.map (cv G)) = (Value.ref b :: As).map (cv G) := by
    rw [List.map_cons]; show _ = Value.ref (gr G b) :: _; rw [gr_lt G (shp_lt hsh)]
  rw [hst]
  refine vx_call (va_runV (C := M'.1.cls) (As := As.map (cv G)) (rest := S.map (cv G)) ⟨hx, hb, hml, hown, hts⟩ hc
    ⟨callB_of n hts (good_ws hcd) rfl rfl rfl (hts _ hini) (hts _ hlk) hd2 (rm_ok d hmx), hts _ him, hts _ hse⟩
    ⟨pcG_blind G _ h, hrec, fun U hU hW => ⟨by rw [e0], wl_at C hP hS hU hW⟩⟩ rfl (by rw [List.length_map]; exact hn) hlr.1 rfl (by rw [cat_map]; show 2 * 0 + _ ≤ 8; have := Nat.le_of_ble_eq_true hr; omega) hd ⟨Nat.le_refl _, Nat.le_refl _⟩) hS (fun r h' H1 locs1 hq' hP1 hS1 => ?_)
  obtain ⟨e1, k1⟩ := hg r h' hq'
  have := k1 p e s m args below meth c H1 locs1 ls C hP1 hS1 hlr
  rw [List.map_append, e1] at this
  exact this
theorem wp_cS {ix n : Nat} {As : List Value} {Q' : Option Value → Hp → Prop} (hl : LSt M.1.cls ix M' n) (hd : decode M.2.1 pc = .ok (.invokestatic ix, 3)) (hn : As.length = n) (hr : Nat.ble ((S.map fun v => v.category).sum) 8 = true)
    (hc : Call G d M' As h Q') (hg : goOn G (d + 1) M Q (pc + 3) L S Q') : WP G (d + 1) M Q pc L (As.reverse ++ S) h := by
  intro p e s m args below meth c H locs ls C hP hS hlr
  obtain ⟨hx, hb, hret, hml, hown, hts, hlocks, hK, hz, hi, hnw⟩ := id C
  obtain ⟨hlk, him, hini, hcd, hd2, hmx⟩ := hl
  have hst : (As.reverse ++ S).map (cv G) = (As.map (cv G)).reverse ++ S.map (cv G) := by rw [List.map_append, List.map_reverse]
  rw [hst]
  have hroom : 2 * (F0 m pc ls ((As.map (cv G)).reverse ++ S.map (cv G))).monitorRoom + ((S.map (cv G)).map fun v => v.category).sum ≤ 8 := by rw [cat_map]; show 2 * 0 + _ ≤ 8; have := Nat.le_of_ble_eq_true hr; omega
  have hpre : PreS s H (pcG G As h) (As.map (cv G)) := ⟨pcG_blind G _ h, fun U hU hW => ⟨rfl, wl_at C hP hS hU hW⟩⟩
  have fin : ∀ (r : Option Value) (h' : Hp) (H1 : Heap) (locs1 : List Loc), Q' r h' → va_P (gD G) vwCl (wld G h') H1 → va_S (gA G) s.heap H1 locs1 → W p (gL G) e (rmD (d + 1)) s m args below meth c H1 locs1 0 0 (MQ below (qcG G Q) args s 0 0 (gA G)) (F0 m (pc + 3) ls (r.toList ++ S.map (cv G))) := by
    intro r h' H1 locs1 hq' hP1 hS1
    obtain ⟨e1, k1⟩ := hg r h' hq'
    have := k1 p e s m args below meth c H1 locs1 ls C hP1 hS1 hlr
    rw [List.map_append, e1] at this
    exact this
  rcases hlk with hlk | ⟨host, hlk⟩
  · exact vx_call (va_runS (As := As.map (cv G)) (rest := S.map (cv G)) ⟨hx, hb, hml, hown, hts⟩ hc
      ⟨callB_of n hts (good_ws hcd) rfl rfl rfl (hts _ hini) (hts _ hlk) hd2 (rm_ok d hmx), hts _ him⟩
      hpre rfl (by rw [List.length_map]; exact hn) hlr.1 rfl hroom hd ⟨Nat.le_refl _, Nat.le_refl _⟩) hS fin
  · exact vx_call (va_runSN (As := As.map (cv G)) (rest := S.map (cv G)) ⟨hx, hb, hml, hown, hts⟩ hc
      ⟨va_cnB n hts (good_ws hcd) rfl rfl rfl (hnw _ hlk) (hts _ hini) hd2 (rm_ok d hmx), hts _ him, trivial⟩
      hpre rfl (by rw [List.length_map]; exact hn) hlr.1 rfl hroom hd ⟨Nat.le_refl _, Nat.le_refl _⟩) hS fin
theorem go_i : goOn G d M Q pc L S (pI fun v h' => WP G d M Q pc L (.int v :: S) h') := fun r h' q => by
  obtain ⟨v, rfl, k⟩ := q
  exact ⟨rfl, k⟩
theorem go_j : goOn G d M Q pc L S (pJ fun v h' => WP G d M Q pc L (.long v :: S) h') := fun r h' q => by
  obtain ⟨v, rfl, k⟩ := q
  exact ⟨rfl, k⟩
theorem go_v : goOn G d M Q pc L S (pV fun h' => WP G d M Q pc L S h') := fun r h' q => by
  obtain ⟨rfl, k⟩ := q
  exact ⟨rfl, k⟩
theorem wp_cV0i {ix b ci : Nat} {fl : List (Option Nat)} (hl : LVt M.1.cls ix M' 0) (hd : decode M.2.1 pc = .ok (.invokevirtual ix, 3)) (hsh : shp[b]? = some (0, ci, fl)) (hcl : (vwCl[ci]?).map (fun q => q.1) = some M'.1.cls) (hr : Nat.ble ((S.map fun v => v.category).sum) 8 = true) (hc : Call G d M' (.ref b :: []) h (pI fun v h1 => WP G (d + 1) M Q (pc + 3) L (.int v :: S) h1)) : WP G (d + 1) M Q pc L (.ref b :: S) h := wp_cV (As := []) hl hd hsh hcl rfl hr hc go_i
theorem wp_cS0i {ix : Nat} (hl : LSt M.1.cls ix M' 0) (hd : decode M.2.1 pc = .ok (.invokestatic ix, 3)) (hr : Nat.ble ((S.map fun v => v.category).sum) 8 = true) (hc : Call G d M' [] h (pI fun v h1 => WP G (d + 1) M Q (pc + 3) L (.int v :: S) h1)) : WP G (d + 1) M Q pc L (S) h := wp_cS (As := []) hl hd rfl hr hc go_i
theorem wp_cV0j {ix b ci : Nat} {fl : List (Option Nat)} (hl : LVt M.1.cls ix M' 0) (hd : decode M.2.1 pc = .ok (.invokevirtual ix, 3)) (hsh : shp[b]? = some (0, ci, fl)) (hcl : (vwCl[ci]?).map (fun q => q.1) = some M'.1.cls) (hr : Nat.ble ((S.map fun v => v.category).sum) 8 = true) (hc : Call G d M' (.ref b :: []) h (pJ fun v h1 => WP G (d + 1) M Q (pc + 3) L (.long v :: S) h1)) : WP G (d + 1) M Q pc L (.ref b :: S) h := wp_cV (As := []) hl hd hsh hcl rfl hr hc go_j
theorem wp_cS0j {ix : Nat} (hl : LSt M.1.cls ix M' 0) (hd : decode M.2.1 pc = .ok (.invokestatic ix, 3)) (hr : Nat.ble ((S.map fun v => v.category).sum) 8 = true) (hc : Call G d M' [] h (pJ fun v h1 => WP G (d + 1) M Q (pc + 3) L (.long v :: S) h1)) : WP G (d + 1) M Q pc L (S) h := wp_cS (As := []) hl hd rfl hr hc go_j
theorem wp_cV0v {ix b ci : Nat} {fl : List (Option Nat)} (hl : LVt M.1.cls ix M' 0) (hd : decode M.2.1 pc = .ok (.invokevirtual ix, 3)) (hsh : shp[b]? = some (0, ci, fl)) (hcl : (vwCl[ci]?).map (fun q => q.1) = some M'.1.cls) (hr : Nat.ble ((S.map fun v => v.category).sum) 8 = true) (hc : Call G d M' (.ref b :: []) h (pV fun h1 => WP G (d + 1) M Q (pc + 3) L S h1)) : WP G (d + 1) M Q pc L (.ref b :: S) h := wp_cV (As := []) hl hd hsh hcl rfl hr hc go_v
theorem wp_cS0v {ix : Nat} (hl : LSt M.1.cls ix M' 0) (hd : decode M.2.1 pc = .ok (.invokestatic ix, 3)) (hr : Nat.ble ((S.map fun v => v.category).sum) 8 = true) (hc : Call G d M' [] h (pV fun h1 => WP G (d + 1) M Q (pc + 3) L S h1)) : WP G (d + 1) M Q pc L (S) h := wp_cS (As := []) hl hd rfl hr hc go_v
theorem wp_cV1i {ix b ci : Nat} {fl : List (Option Nat)} {x1 : Value} (hl : LVt M.1.cls ix M' 1) (hd : decode M.2.1 pc = .ok (.invokevirtual ix, 3)) (hsh : shp[b]? = some (0, ci, fl)) (hcl : (vwCl[ci]?).map (fun q => q.1) = some M'.1.cls) (hr : Nat.ble ((S.map fun v => v.category).sum) 8 = true) (hc : Call G d M' (.ref b :: [x1]) h (pI fun v h1 => WP G (d + 1) M Q (pc + 3) L (.int v :: S) h1)) : WP G (d + 1) M Q pc L (x1 :: .ref b :: S) h := wp_cV (As := [x1]) hl hd hsh hcl rfl hr hc go_i
theorem wp_cS1i {ix : Nat} {x1 : Value} (hl : LSt M.1.cls ix M' 1) (hd : decode M.2.1 pc = .ok (.invokestatic ix, 3)) (hr : Nat.ble ((S.map fun v => v.category).sum) 8 = true) (hc : Call G d M' [x1] h (pI fun v h1 => WP G (d + 1) M Q (pc + 3) L (.int v :: S) h1)) : WP G (d + 1) M Q pc L (x1 :: S) h := wp_cS (As := [x1]) hl hd rfl hr hc go_i
theorem wp_cV1j {ix b ci : Nat} {fl : List (Option Nat)} {x1 : Value} (hl : LVt M.1.cls ix M' 1) (hd : decode M.2.1 pc = .ok (.invokevirtual ix, 3)) (hsh : shp[b]? = some (0, ci, fl)) (hcl : (vwCl[ci]?).map (fun q => q.1) = some M'.1.cls) (hr : Nat.ble ((S.map fun v => v.category).sum) 8 = true) (hc : Call G d M' (.ref b :: [x1]) h (pJ fun v h1 => WP G (d + 1) M Q (pc + 3) L (.long v :: S) h1)) : WP G (d + 1) M Q pc L (x1 :: .ref b :: S) h := wp_cV (As := [x1]) hl hd hsh hcl rfl hr hc go_j
theorem wp_cS1j {ix : Nat} {x1 : Value} (hl : LSt M.1.cls ix M' 1) (hd : decode M.2.1 pc = .ok (.invokestatic ix, 3)) (hr : Nat.ble ((S.map fun v => v.category).sum) 8 = true) (hc : Call G d M' [x1] h (pJ fun v h1 => WP G (d + 1) M Q (pc + 3) L (.long v :: S) h1)) : WP G (d + 1) M Q pc L (x1 :: S) h := wp_cS (As := [x1]) hl hd rfl hr hc go_j
theorem wp_cV1v {ix b ci : Nat} {fl : List (Option Nat)} {x1 : Value} (hl : LVt M.1.cls ix M' 1) (hd : decode M.2.1 pc = .ok (.invokevirtual ix, 3)) (hsh : shp[b]? = some (0, ci, fl)) (hcl : (vwCl[ci]?).map (fun q => q.1) = some M'.1.cls) (hr : Nat.ble ((S.map fun v => v.category).sum) 8 = true) (hc : Call G d M' (.ref b :: [x1]) h (pV fun h1 => WP G (d + 1) M Q (pc + 3) L S h1)) : WP G (d + 1) M Q pc L (x1 :: .ref b :: S) h := wp_cV (As := [x1]) hl hd hsh hcl rfl hr hc go_v
theorem wp_cS1v {ix : Nat} {x1 : Value} (hl : LSt M.1.cls ix M' 1) (hd : decode M.2.1 pc = .ok (.invokestatic ix, 3)) (hr : Nat.ble ((S.map fun v => v.category).sum) 8 = true) (hc : Call G d M' [x1] h (pV fun h1 => WP G (d + 1) M Q (pc + 3) L S h1)) : WP G (d + 1) M Q pc L (x1 :: S) h := wp_cS (As := [x1]) hl hd rfl hr hc go_v
theorem wp_cV2i {ix b ci : Nat} {fl : List (Option Nat)} {x1 x2 : Value} (hl : LVt M.1.cls ix M' 2) (hd : decode M.2.1 pc = .ok (.invokevirtual ix, 3)) (hsh : shp[b]? = some (0, ci, fl)) (hcl : (vwCl[ci]?).map (fun q => q.1) = some M'.1.cls) (hr : Nat.ble ((S.map fun v => v.category).sum) 8 = true) (hc : Call G d M' (.ref b :: [x1, x2]) h (pI fun v h1 => WP G (d + 1) M Q (pc + 3) L (.int v :: S) h1)) : WP G (d + 1) M Q pc L (x2 :: x1 :: .ref b :: S) h := wp_cV (As := [x1, x2]) hl hd hsh hcl rfl hr hc go_i
theorem wp_cS2i {ix : Nat} {x1 x2 : Value} (hl : LSt M.1.cls ix M' 2) (hd : decode M.2.1 pc = .ok (.invokestatic ix, 3)) (hr : Nat.ble ((S.map fun v => v.category).sum) 8 = true) (hc : Call G d M' [x1, x2] h (pI fun v h1 => WP G (d + 1) M Q (pc + 3) L (.int v :: S) h1)) : WP G (d + 1) M Q pc L (x2 :: x1 :: S) h := wp_cS (As := [x1, x2]) hl hd rfl hr hc go_i
theorem wp_cV2j {ix b ci : Nat} {fl : List (Option Nat)} {x1 x2 : Value} (hl : LVt M.1.cls ix M' 2) (hd : decode M.2.1 pc = .ok (.invokevirtual ix, 3)) (hsh : shp[b]? = some (0, ci, fl)) (hcl : (vwCl[ci]?).map (fun q => q.1) = some M'.1.cls) (hr : Nat.ble ((S.map fun v => v.category).sum) 8 = true) (hc : Call G d M' (.ref b :: [x1, x2]) h (pJ fun v h1 => WP G (d + 1) M Q (pc + 3) L (.long v :: S) h1)) : WP G (d + 1) M Q pc L (x2 :: x1 :: .ref b :: S) h := wp_cV (As := [x1, x2]) hl hd hsh hcl rfl hr hc go_j
theorem wp_cS2j {ix : Nat} {x1 x2 : Value} (hl : LSt M.1.cls ix M' 2) (hd : decode M.2.1 pc = .ok (.invokestatic ix, 3)) (hr : Nat.ble ((S.map fun v => v.category).sum) 8 = true) (hc : Call G d M' [x1, x2] h (pJ fun v h1 => WP G (d + 1) M Q (pc + 3) L (.long v :: S) h1)) : WP G (d + 1) M Q pc L (x2 :: x1 :: S) h := wp_cS (As := [x1, x2]) hl hd rfl hr hc go_j
theorem wp_cV2v {ix b ci : Nat} {fl : List (Option Nat)} {x1 x2 : Value} (hl : LVt M.1.cls ix M' 2) (hd : decode M.2.1 pc = .ok (.invokevirtual ix, 3)) (hsh : shp[b]? = some (0, ci, fl)) (hcl : (vwCl[ci]?).map (fun q => q.1) = some M'.1.cls) (hr : Nat.ble ((S.map fun v => v.category).sum) 8 = true) (hc : Call G d M' (.ref b :: [x1, x2]) h (pV fun h1 => WP G (d + 1) M Q (pc + 3) L S h1)) : WP G (d + 1) M Q pc L (x2 :: x1 :: .ref b :: S) h := wp_cV (As := [x1, x2]) hl hd hsh hcl rfl hr hc go_v
theorem wp_cS2v {ix : Nat} {x1 x2 : Value} (hl : LSt M.1.cls ix M' 2) (hd : decode M.2.1 pc = .ok (.invokestatic ix, 3)) (hr : Nat.ble ((S.map fun v => v.category).sum) 8 = true) (hc : Call G d M' [x1, x2] h (pV fun h1 => WP G (d + 1) M Q (pc + 3) L S h1)) : WP G (d + 1) M Q pc L (x2 :: x1 :: S) h := wp_cS (As := [x1, x2]) hl hd rfl hr hc go_v
theorem wp_cV3i {ix b ci : Nat} {fl : List (Option Nat)} {x1 x2 x3 : Value} (hl : LVt M.1.cls ix M' 3) (hd : decode M.2.1 pc = .ok (.invokevirtual ix, 3)) (hsh : shp[b]? = some (0, ci, fl)) (hcl : (vwCl[ci]?).map (fun q => q.1) = some M'.1.cls) (hr : Nat.ble ((S.map fun v => v.category).sum) 8 = true) (hc : Call G d M' (.ref b :: [x1, x2, x3]) h (pI fun v h1 => WP G (d + 1) M Q (pc + 3) L (.int v :: S) h1)) : WP G (d + 1) M Q pc L (x3 :: x2 :: x1 :: .ref b :: S) h := wp_cV (As := [x1, x2, x3]) hl hd hsh hcl rfl hr hc go_i
theorem wp_cS3i {ix : Nat} {x1 x2 x3 : Value} (hl : LSt M.1.cls ix M' 3) (hd : decode M.2.1 pc = .ok (.invokestatic ix, 3)) (hr : Nat.ble ((S.map fun v => v.category).sum) 8 = true) (hc : Call G d M' [x1, x2, x3] h (pI fun v h1 => WP G (d + 1) M Q (pc + 3) L (.int v :: S) h1)) : WP G (d + 1) M Q pc L (x3 :: x2 :: x1 :: S) h := wp_cS (As := [x1, x2, x3]) hl hd rfl hr hc go_i
theorem wp_cV3j {ix b ci : Nat} {fl : List (Option Nat)} {x1 x2 x3 : Value} (hl : LVt M.1.cls ix M' 3) (hd : decode M.2.1 pc = .ok (.invokevirtual ix, 3)) (hsh : shp[b]? = some (0, ci, fl)) (hcl : (vwCl[ci]?).map (fun q => q.1) = some M'.1.cls) (hr : Nat.ble ((S.map fun v => v.category).sum) 8 = true) (hc : Call G d M' (.ref b :: [x1, x2, x3]) h (pJ fun v h1 => WP G (d + 1) M Q (pc + 3) L (.long v :: S) h1)) : WP G (d + 1) M Q pc L (x3 :: x2 :: x1 :: .ref b :: S) h := wp_cV (As := [x1, x2, x3]) hl hd hsh hcl rfl hr hc go_j
theorem wp_cS3j {ix : Nat} {x1 x2 x3 : Value} (hl : LSt M.1.cls ix M' 3) (hd : decode M.2.1 pc = .ok (.invokestatic ix, 3)) (hr : Nat.ble ((S.map fun v => v.category).sum) 8 = true) (hc : Call G d M' [x1, x2, x3] h (pJ fun v h1 => WP G (d + 1) M Q (pc + 3) L (.long v :: S) h1)) : WP G (d + 1) M Q pc L (x3 :: x2 :: x1 :: S) h := wp_cS (As := [x1, x2, x3]) hl hd rfl hr hc go_j
theorem wp_cV3v {ix b ci : Nat} {fl : List (Option Nat)} {x1 x2 x3 : Value} (hl : LVt M.1.cls ix M' 3) (hd : decode M.2.1 pc = .ok (.invokevirtual ix, 3)) (hsh : shp[b]? = some (0, ci, fl)) (hcl : (vwCl[ci]?).map (fun q => q.1) = some M'.1.cls) (hr : Nat.ble ((S.map fun v => v.category).sum) 8 = true) (hc : Call G d M' (.ref b :: [x1, x2, x3]) h (pV fun h1 => WP G (d + 1) M Q (pc + 3) L S h1)) : WP G (d + 1) M Q pc L (x3 :: x2 :: x1 :: .ref b :: S) h := wp_cV (As := [x1, x2, x3]) hl hd hsh hcl rfl hr hc go_v
theorem wp_cS3v {ix : Nat} {x1 x2 x3 : Value} (hl : LSt M.1.cls ix M' 3) (hd : decode M.2.1 pc = .ok (.invokestatic ix, 3)) (hr : Nat.ble ((S.map fun v => v.category).sum) 8 = true) (hc : Call G d M' [x1, x2, x3] h (pV fun h1 => WP G (d + 1) M Q (pc + 3) L S h1)) : WP G (d + 1) M Q pc L (x3 :: x2 :: x1 :: S) h := wp_cS (As := [x1, x2, x3]) hl hd rfl hr hc go_v
theorem wp_cV4i {ix b ci : Nat} {fl : List (Option Nat)} {x1 x2 x3 x4 : Value} (hl : LVt M.1.cls ix M' 4) (hd : decode M.2.1 pc = .ok (.invokevirtual ix, 3)) (hsh : shp[b]? = some (0, ci, fl)) (hcl : (vwCl[ci]?).map (fun q => q.1) = some M'.1.cls) (hr : Nat.ble ((S.map fun v => v.category).sum) 8 = true) (hc : Call G d M' (.ref b :: [x1, x2, x3, x4]) h (pI fun v h1 => WP G (d + 1) M Q (pc + 3) L (.int v :: S) h1)) : WP G (d + 1) M Q pc L (x4 :: x3 :: x2 :: x1 :: .ref b :: S) h := wp_cV (As := [x1, x2, x3, x4]) hl hd hsh hcl rfl hr hc go_i
theorem wp_cS4i {ix : Nat} {x1 x2 x3 x4 : Value} (hl : LSt M.1.cls ix M' 4) (hd : decode M.2.1 pc = .ok (.invokestatic ix, 3)) (hr : Nat.ble ((S.map fun v => v.category).sum) 8 = true) (hc : Call G d M' [x1, x2, x3, x4] h (pI fun v h1 => WP G (d + 1) M Q (pc + 3) L (.int v :: S) h1)) : WP G (d + 1) M Q pc L (x4 :: x3 :: x2 :: x1 :: S) h := wp_cS (As := [x1, x2, x3, x4]) hl hd rfl hr hc go_i
theorem wp_cV4j {ix b ci : Nat} {fl : List (Option Nat)} {x1 x2 x3 x4 : Value} (hl : LVt M.1.cls ix M' 4) (hd : decode M.2.1 pc = .ok (.invokevirtual ix, 3)) (hsh : shp[b]? = some (0, ci, fl)) (hcl : (vwCl[ci]?).map (fun q => q.1) = some M'.1.cls) (hr : Nat.ble ((S.map fun v => v.category).sum) 8 = true) (hc : Call G d M' (.ref b :: [x1, x2, x3, x4]) h (pJ fun v h1 => WP G (d + 1) M Q (pc + 3) L (.long v :: S) h1)) : WP G (d + 1) M Q pc L (x4 :: x3 :: x2 :: x1 :: .ref b :: S) h := wp_cV (As := [x1, x2, x3, x4]) hl hd hsh hcl rfl hr hc go_j
theorem wp_cS4j {ix : Nat} {x1 x2 x3 x4 : Value} (hl : LSt M.1.cls ix M' 4) (hd : decode M.2.1 pc = .ok (.invokestatic ix, 3)) (hr : Nat.ble ((S.map fun v => v.category).sum) 8 = true) (hc : Call G d M' [x1, x2, x3, x4] h (pJ fun v h1 => WP G (d + 1) M Q (pc + 3) L (.long v :: S) h1)) : WP G (d + 1) M Q pc L (x4 :: x3 :: x2 :: x1 :: S) h := wp_cS (As := [x1, x2, x3, x4]) hl hd rfl hr hc go_j
theorem wp_cV4v {ix b ci : Nat} {fl : List (Option Nat)} {x1 x2 x3 x4 : Value} (hl : LVt M.1.cls ix M' 4) (hd : decode M.2.1 pc = .ok (.invokevirtual ix, 3)) (hsh : shp[b]? = some (0, ci, fl)) (hcl : (vwCl[ci]?).map (fun q => q.1) = some M'.1.cls) (hr : Nat.ble ((S.map fun v => v.category).sum) 8 = true) (hc : Call G d M' (.ref b :: [x1, x2, x3, x4]) h (pV fun h1 => WP G (d + 1) M Q (pc + 3) L S h1)) : WP G (d + 1) M Q pc L (x4 :: x3 :: x2 :: x1 :: .ref b :: S) h := wp_cV (As := [x1, x2, x3, x4]) hl hd hsh hcl rfl hr hc go_v
theorem wp_cS4v {ix : Nat} {x1 x2 x3 x4 : Value} (hl : LSt M.1.cls ix M' 4) (hd : decode M.2.1 pc = .ok (.invokestatic ix, 3)) (hr : Nat.ble ((S.map fun v => v.category).sum) 8 = true) (hc : Call G d M' [x1, x2, x3, x4] h (pV fun h1 => WP G (d + 1) M Q (pc + 3) L S h1)) : WP G (d + 1) M Q pc L (x4 :: x3 :: x2 :: x1 :: S) h := wp_cS (As := [x1, x2, x3, x4]) hl hd rfl hr hc go_v
theorem wp_cV5i {ix b ci : Nat} {fl : List (Option Nat)} {x1 x2 x3 x4 x5 : Value} (hl : LVt M.1.cls ix M' 5) (hd : decode M.2.1 pc = .ok (.invokevirtual ix, 3)) (hsh : shp[b]? = some (0, ci, fl)) (hcl : (vwCl[ci]?).map (fun q => q.1) = some M'.1.cls) (hr : Nat.ble ((S.map fun v => v.category).sum) 8 = true) (hc : Call G d M' (.ref b :: [x1, x2, x3, x4, x5]) h (pI fun v h1 => WP G (d + 1) M Q (pc + 3) L (.int v :: S) h1)) : WP G (d + 1) M Q pc L (x5 :: x4 :: x3 :: x2 :: x1 :: .ref b :: S) h := wp_cV (As := [x1, x2, x3, x4, x5]) hl hd hsh hcl rfl hr hc go_i
theorem wp_cS5i {ix : Nat} {x1 x2 x3 x4 x5 : Value} (hl : LSt M.1.cls ix M' 5) (hd : decode M.2.1 pc = .ok (.invokestatic ix, 3)) (hr : Nat.ble ((S.map fun v => v.category).sum) 8 = true) (hc : Call G d M' [x1, x2, x3, x4, x5] h (pI fun v h1 => WP G (d + 1) M Q (pc + 3) L (.int v :: S) h1)) : WP G (d + 1) M Q pc L (x5 :: x4 :: x3 :: x2 :: x1 :: S) h := wp_cS (As := [x1, x2, x3, x4, x5]) hl hd rfl hr hc go_i
theorem wp_cV5j {ix b ci : Nat} {fl : List (Option Nat)} {x1 x2 x3 x4 x5 : Value} (hl : LVt M.1.cls ix M' 5) (hd : decode M.2.1 pc = .ok (.invokevirtual ix, 3)) (hsh : shp[b]? = some (0, ci, fl)) (hcl : (vwCl[ci]?).map (fun q => q.1) = some M'.1.cls) (hr : Nat.ble ((S.map fun v => v.category).sum) 8 = true) (hc : Call G d M' (.ref b :: [x1, x2, x3, x4, x5]) h (pJ fun v h1 => WP G (d + 1) M Q (pc + 3) L (.long v :: S) h1)) : WP G (d + 1) M Q pc L (x5 :: x4 :: x3 :: x2 :: x1 :: .ref b :: S) h := wp_cV (As := [x1, x2, x3, x4, x5]) hl hd hsh hcl rfl hr hc go_j
theorem wp_cS5j {ix : Nat} {x1 x2 x3 x4 x5 : Value} (hl : LSt M.1.cls ix M' 5) (hd : decode M.2.1 pc = .ok (.invokestatic ix, 3)) (hr : Nat.ble ((S.map fun v => v.category).sum) 8 = true) (hc : Call G d M' [x1, x2, x3, x4, x5] h (pJ fun v h1 => WP G (d + 1) M Q (pc + 3) L (.long v :: S) h1)) : WP G (d + 1) M Q pc L (x5 :: x4 :: x3 :: x2 :: x1 :: S) h := wp_cS (As := [x1, x2, x3, x4, x5]) hl hd rfl hr hc go_j
theorem wp_cV5v {ix b ci : Nat} {fl : List (Option Nat)} {x1 x2 x3 x4 x5 : Value} (hl : LVt M.1.cls ix M' 5) (hd : decode M.2.1 pc = .ok (.invokevirtual ix, 3)) (hsh : shp[b]? = some (0, ci, fl)) (hcl : (vwCl[ci]?).map (fun q => q.1) = some M'.1.cls) (hr : Nat.ble ((S.map fun v => v.category).sum) 8 = true) (hc : Call G d M' (.ref b :: [x1, x2, x3, x4, x5]) h (pV fun h1 => WP G (d + 1) M Q (pc + 3) L S h1)) : WP G (d + 1) M Q pc L (x5 :: x4 :: x3 :: x2 :: x1 :: .ref b :: S) h := wp_cV (As := [x1, x2, x3, x4, x5]) hl hd hsh hcl rfl hr hc go_v
theorem wp_cS5v {ix : Nat} {x1 x2 x3 x4 x5 : Value} (hl : LSt M.1.cls ix M' 5) (hd : decode M.2.1 pc = .ok (.invokestatic ix, 3)) (hr : Nat.ble ((S.map fun v => v.category).sum) 8 = true) (hc : Call G d M' [x1, x2, x3, x4, x5] h (pV fun h1 => WP G (d + 1) M Q (pc + 3) L S h1)) : WP G (d + 1) M Q pc L (x5 :: x4 :: x3 :: x2 :: x1 :: S) h := wp_cS (As := [x1, x2, x3, x4, x5]) hl hd rfl hr hc go_v
theorem wp_cV6i {ix b ci : Nat} {fl : List (Option Nat)} {x1 x2 x3 x4 x5 x6 : Value} (hl : LVt M.1.cls ix M' 6) (hd : decode M.2.1 pc = .ok (.invokevirtual ix, 3)) (hsh : shp[b]? = some (0, ci, fl)) (hcl : (vwCl[ci]?).map (fun q => q.1) = some M'.1.cls) (hr : Nat.ble ((S.map fun v => v.category).sum) 8 = true) (hc : Call G d M' (.ref b :: [x1, x2, x3, x4, x5, x6]) h (pI fun v h1 => WP G (d + 1) M Q (pc + 3) L (.int v :: S) h1)) : WP G (d + 1) M Q pc L (x6 :: x5 :: x4 :: x3 :: x2 :: x1 :: .ref b :: S) h := wp_cV (As := [x1, x2, x3, x4, x5, x6]) hl hd hsh hcl rfl hr hc go_i
theorem wp_cS6i {ix : Nat} {x1 x2 x3 x4 x5 x6 : Value} (hl : LSt M.1.cls ix M' 6) (hd : decode M.2.1 pc = .ok (.invokestatic ix, 3)) (hr : Nat.ble ((S.map fun v => v.category).sum) 8 = true) (hc : Call G d M' [x1, x2, x3, x4, x5, x6] h (pI fun v h1 => WP G (d + 1) M Q (pc + 3) L (.int v :: S) h1)) : WP G (d + 1) M Q pc L (x6 :: x5 :: x4 :: x3 :: x2 :: x1 :: S) h := wp_cS (As := [x1, x2, x3, x4, x5, x6]) hl hd rfl hr hc go_i
theorem wp_cV6j {ix b ci : Nat} {fl : List (Option Nat)} {x1 x2 x3 x4 x5 x6 : Value} (hl : LVt M.1.cls ix M' 6) (hd : decode M.2.1 pc = .ok (.invokevirtual ix, 3)) (hsh : shp[b]? = some (0, ci, fl)) (hcl : (vwCl[ci]?).map (fun q => q.1) = some M'.1.cls) (hr : Nat.ble ((S.map fun v => v.category).sum) 8 = true) (hc : Call G d M' (.ref b :: [x1, x2, x3, x4, x5, x6]) h (pJ fun v h1 => WP G (d + 1) M Q (pc + 3) L (.long v :: S) h1)) : WP G (d + 1) M Q pc L (x6 :: x5 :: x4 :: x3 :: x2 :: x1 :: .ref b :: S) h := wp_cV (As := [x1, x2, x3, x4, x5, x6]) hl hd hsh hcl rfl hr hc go_j
theorem wp_cS6j {ix : Nat} {x1 x2 x3 x4 x5 x6 : Value} (hl : LSt M.1.cls ix M' 6) (hd : decode M.2.1 pc = .ok (.invokestatic ix, 3)) (hr : Nat.ble ((S.map fun v => v.category).sum) 8 = true) (hc : Call G d M' [x1, x2, x3, x4, x5, x6] h (pJ fun v h1 => WP G (d + 1) M Q (pc + 3) L (.long v :: S) h1)) : WP G (d + 1) M Q pc L (x6 :: x5 :: x4 :: x3 :: x2 :: x1 :: S) h := wp_cS (As := [x1, x2, x3, x4, x5, x6]) hl hd rfl hr hc go_j
theorem wp_cV6v {ix b ci : Nat} {fl : List (Option Nat)} {x1 x2 x3 x4 x5 x6 : Value} (hl : LVt M.1.cls ix M' 6) (hd : decode M.2.1 pc = .ok (.invokevirtual ix, 3)) (hsh : shp[b]? = some (0, ci, fl)) (hcl : (vwCl[ci]?).map (fun q => q.1) = some M'.1.cls) (hr : Nat.ble ((S.map fun v => v.category).sum) 8 = true) (hc : Call G d M' (.ref b :: [x1, x2, x3, x4, x5, x6]) h (pV fun h1 => WP G (d + 1) M Q (pc + 3) L S h1)) : WP G (d + 1) M Q pc L (x6 :: x5 :: x4 :: x3 :: x2 :: x1 :: .ref b :: S) h := wp_cV (As := [x1, x2, x3, x4, x5, x6]) hl hd hsh hcl rfl hr hc go_v
theorem wp_cS6v {ix : Nat} {x1 x2 x3 x4 x5 x6 : Value} (hl : LSt M.1.cls ix M' 6) (hd : decode M.2.1 pc = .ok (.invokestatic ix, 3)) (hr : Nat.ble ((S.map fun v => v.category).sum) 8 = true) (hc : Call G d M' [x1, x2, x3, x4, x5, x6] h (pV fun h1 => WP G (d + 1) M Q (pc + 3) L S h1)) : WP G (d + 1) M Q pc L (x6 :: x5 :: x4 :: x3 :: x2 :: x1 :: S) h := wp_cS (As := [x1, x2, x3, x4, x5, x6]) hl hd rfl hr hc go_v
/-! the JDK's own -/
theorem wp_max {ix : Nat} {x y : Int32} (hw : Cond.methodLink M.1.cls ix Lib.Math.max.name ∈ wAll ∧ Cond.static Lib.Math.max.name ∈ wAll ∧ Cond.initialized "java/lang/Math" ∈ wAll ∧ Cond.code Lib.Math.max.name Lib.Math.max.code 2 (some .int) ∈ wAll) (hd : decode M.2.1 pc = .ok (.invokestatic ix, 3)) (hr : Nat.ble ((S.map fun v => v.category).sum) 8 = true) (k : WP G (d + 1) M Q (pc + 3) L (.int (if x < y then y else x) :: S) h) : WP G (d + 1) M Q pc L (.int y :: .int x :: S) h := by
  intro p e s m args below meth c H locs ls C hP hS hl
  obtain ⟨hx, hb, hret, hml, hown, hts, hlocks, hK, hz, hi, hnw⟩ := id C
  exact va_mmax hx hb (hml.trans hl.1.symm) hown (hts _ hw.1) (hts _ hw.2.1) (hts _ hw.2.2.1) (hts _ hw.2.2.2) (by show 1 ≤ d + 1; omega) (by rw [cat_map]; have := Nat.le_of_ble_eq_true hr; show _ ≤ 64 * (d + 1); omega) (Nat.le_refl _) (Nat.le_refl _) hd (k p e s m args below meth c H locs ls C hP hS hl)
theorem wp_min {ix : Nat} {x y : Int32} (hw : Cond.methodLink M.1.cls ix Lib.Math.min.name ∈ wAll ∧ Cond.static Lib.Math.min.name ∈ wAll ∧ Cond.initialized "java/lang/Math" ∈ wAll ∧ Cond.code Lib.Math.min.name Lib.Math.min.code 2 (some .int) ∈ wAll) (hd : decode M.2.1 pc = .ok (.invokestatic ix, 3)) (hr : Nat.ble ((S.map fun v => v.category).sum) 8 = true) (k : WP G (d + 1) M Q (pc + 3) L (.int (if y < x then y else x) :: S) h) : WP G (d + 1) M Q pc L (.int y :: .int x :: S) h := by
  intro p e s m args below meth c H locs ls C hP hS hl
  obtain ⟨hx, hb, hret, hml, hown, hts, hlocks, hK, hz, hi, hnw⟩ := id C
  exact va_mmin hx hb (hml.trans hl.1.symm) hown (hts _ hw.1) (hts _ hw.2.1) (hts _ hw.2.2.1) (hts _ hw.2.2.2) (by show 1 ≤ d + 1; omega) (by rw [cat_map]; have := Nat.le_of_ble_eq_true hr; show _ ≤ 64 * (d + 1); omega) (Nat.le_refl _) (Nat.le_refl _) hd (k p e s m args below meth c H locs ls C hP hS hl)
def hcp (h : Hp) (a sp b dp n : Nat) : Hp := fun q => if q = b then va_cpy (h a) (h b) sp dp n else h q
theorem wp_copy {ix a b na nb : Nat} {fa fb : List (Option Nat)} {sp dp n : Int32} (hw : Cond.methodLink M.1.cls ix arraycopyName ∈ wAll ∧ Cond.native arraycopyName ∈ wAll ∧ Cond.static arraycopyName ∈ wAll ∧ Cond.initialized "java/lang/System" ∈ wAll) (hd : decode M.2.1 pc = .ok (.invokestatic ix, 3)) (ha : shp[a]? = some (1, na, fa)) (hb : shp[b]? = some (1, nb, fb)) (h1 : ¬ sp < 0) (h2 : ¬ dp < 0) (h3 : ¬ n < 0) (h4 : sp.toNatClampNeg + n.toNatClampNeg ≤ na) (h5 : dp.toNatClampNeg + n.toNatClampNeg ≤ nb) (hr : Nat.ble ((S.map fun v => v.category).sum) 8 = true)
    (k : WP G (d + 1) M Q (pc + 3) L S (hcp h a sp.toNatClampNeg b dp.toNatClampNeg n.toNatClampNeg)) : WP G (d + 1) M Q pc L (.int n :: .int dp :: .ref b :: .int sp :: .ref a :: S) h := by
  intro p e s m args below meth c H locs ls C hP hS hl
  obtain ⟨hx, hbt, hret, hml, hown, hts, hlocks, hK, hz, hi, hnw⟩ := id C
  have g1 := wld_get (G := G) (h := h) ha
  have g2 := wld_get (G := G) (h := h) hb
  rw [ce_int] at g1 g2
  show W _ _ _ _ _ _ _ _ _ _ _ _ _ _ _ (F0 m pc ls (.int n :: .int dp :: .ref (gr G b) :: .int sp :: .ref (gr G a) :: S.map (cv G)))
  rw [gr_lt G (shp_lt ha), gr_lt G (shp_lt hb)]
  have hroom : ((S.map (cv G)).map fun v => v.category).sum + (nativeFrameWords "java/lang/System" "arraycopy" 5 + 11) ≤ (rmD (d + 1)).locals := by
    have e9 : nativeFrameWords "java/lang/System" "arraycopy" 5 + 11 ≤ 50 := by decide +kernel
    have := Nat.le_of_ble_eq_true hr
    rw [cat_map]
    show _ ≤ 64 * (d + 1)
    omega
  refine va_copyi (R := rmD (d + 1)) hx hbt (hml.trans hl.1.symm) hown (hts _ hw.1) (hts _ hw.2.1) (hts _ hw.2.2.1) (hts _ hw.2.2.2) hK hP (wld_D hi h) hS a b 0 0 g1 g2 rfl rfl rfl h1 h2 h3 h4 h5 (fun _ _ => rfl) (by show 1 ≤ d + 1; omega) hroom hd (fun H1 locs1 hP1 _ hS1 => ?_)
  rw [wld_set (h' := hcp h a sp.toNatClampNeg b dp.toNatClampNeg n.toNatClampNeg) hb (fun i q => if_neg q) (by rw [show hcp h a sp.toNatClampNeg b dp.toNatClampNeg n.toNatClampNeg b = _ from if_pos rfl, ce_int])] at hP1
  exact k p e s m args below meth c H1 locs1 ls C hP1 hS1 hl
end WPC
