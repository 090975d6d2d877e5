/-! the law's own method -/
abbrev Lc : Type := Program × Env × State × MethodId × List Frame × Method × Code
def aL (s : State) : Nat → Prop := fun q => s.heap.size ≤ q
def LW (Y : Lc) (G : Gt) (pc : Nat) (L : List (Option Value)) (S : List Value) (h : Hp) : Prop :=
  ∀ (H : Heap) (locs : List Loc) (ls : Array Slot), va_P (gD G) vwCl (wld G h) H → va_S (aL Y.2.2.1) Y.2.2.1.heap H locs → lvr G ls 4 L →
    W Y.1 (gL G) Y.2.1 room_1 Y.2.2.1 Y.2.2.2.1 #[Value.ref (ga G 113)] Y.2.2.2.2.1 Y.2.2.2.2.2.1 Y.2.2.2.2.2.2 H locs 600000 7302250 (lw_Z Y.2.2.2.2.1 #[Value.ref (ga G 113)] Y.2.2.1) (F0 Y.2.2.2.1 pc ls (S.map (cv G)))
def CY (Y : Lc) (G : Gt) (Lx : Nat) (xs : Nat → Int32) : Prop :=
  Y.1.tables.exec = Jvm.exec ∧ Y.2.2.2.2.2.2.code = cL_law ∧ Y.2.2.2.2.2.1.sig.returnType = ret ∧ Y.2.2.2.2.2.2.maxLocals = 4 ∧ Y.2.2.1.vm.findClass RL = some Y.2.2.2.1.cls ∧ (∀ w ∈ wAll, w.before #[Value.ref (ga G 113)] Y.2.2.1 = true) ∧ Y.2.2.2.2.2.1.locks = false ∧ va_K (gD G) vwCl (tysG G) Y.2.2.1 ∧ zf G Y.2.2.1 Y.2.2.1.heap ∧ inj G ∧ nw Y.2.2.1 ∧ (∀ k, k < 112 → Y.2.2.1.heap.size ≤ ga G k) ∧ va_X (ga G 113) Lx xs Y.2.2.1 Y.2.2.1.heap ∧ ga G 113 < Y.2.2.1.heap.size
section LROWS
variable {Y : Lc} {G : Gt} {d : Nat} {M' : Mt} {Lx : Nat} {xs : Nat → Int32} {pc : Nat} {L : List (Option Value)} {S : List Value} {h : Hp}
theorem lw_iconst {n : Int} {v : Int32} (C : CY Y G Lx xs) (hd : decode cL_law pc = .ok (.iconst n, 1)) (hv : Int32.ofInt n = v) (k : LW Y G (pc + 1) L (.int v :: S) h) : LW Y G pc L (S) h := by
  intro H locs ls hP hS hl
  exact lv_iconst C.1 C.2.1 hd hv (k H locs ls hP hS hl)
theorem lw_bipush {n : Int} {v : Int32} (C : CY Y G Lx xs) (hd : decode cL_law pc = .ok (.bipush n, 2)) (hv : (Int8.ofInt n).toInt32 = v) (k : LW Y G (pc + 2) L (.int v :: S) h) : LW Y G pc L (S) h := by
  intro H locs ls hP hS hl
  exact lv_bipush C.1 C.2.1 hd hv (k H locs ls hP hS hl)
theorem lw_iload_n {k : Fin 4} {i : Nat} {x : Int32} (C : CY Y G Lx xs) (hd : decode cL_law pc = .ok (.iload_n k, 1)) (hi : (k : Nat) = i) (hx : L[i]? = some (some (.int x))) (k : LW Y G (pc + 1) L (.int x :: S) h) : LW Y G pc L S h := by
  intro H locs ls hP hS hl
  exact lv_iload_n C.1 C.2.1 hd hi (lvr_at hl hx) (k H locs ls hP hS hl)
theorem lw_aload_n {k : Fin 4} {i : Nat} {x : Nat} (C : CY Y G Lx xs) (hd : decode cL_law pc = .ok (.aload_n k, 1)) (hi : (k : Nat) = i) (hx : L[i]? = some (some (.ref x))) (k : LW Y G (pc + 1) L (.ref x :: S) h) : LW Y G pc L S h := by
  intro H locs ls hP hS hl
  exact lv_aload_n C.1 C.2.1 hd hi (lvr_at hl hx) (k H locs ls hP hS hl)
theorem lw_iadd {x y : Int32} (C : CY Y G Lx xs) (hd : decode cL_law pc = .ok (.iadd, 1))  (k : LW Y G (pc + 1) L (.int (x + y) :: S) h) : LW Y G pc L (.int y :: .int x :: S) h := by
  intro H locs ls hP hS hl
  exact lv_iadd C.1 C.2.1 hd  (k H locs ls hP hS hl)
theorem lw_isub {x y : Int32} (C : CY Y G Lx xs) (hd : decode cL_law pc = .ok (.isub, 1))  (k : LW Y G (pc + 1) L (.int (x - y) :: S) h) : LW Y G pc L (.int y :: .int x :: S) h := by
  intro H locs ls hP hS hl
  exact lv_isub C.1 C.2.1 hd  (k H locs ls hP hS hl)
theorem lw_iand {x y : Int32} (C : CY Y G Lx xs) (hd : decode cL_law pc = .ok (.iand, 1))  (k : LW Y G (pc + 1) L (.int (x &&& y) :: S) h) : LW Y G pc L (.int y :: .int x :: S) h := by
  intro H locs ls hP hS hl
  exact lv_iand C.1 C.2.1 hd  (k H locs ls hP hS hl)
theorem lw_icmp_eq {x y : Int32} {off : Int} {tgt : Nat} (C : CY Y G Lx xs) (hd : decode cL_law pc = .ok (.if_icmp .eq off, 3)) (ht : (pc : Int) + off = (tgt : Int)) (kt : x = y → LW Y G tgt L S h) (kf : ¬ x = y → LW Y G (pc + 3) L S h) : LW Y G pc L (.int y :: .int x :: S) h := by
  intro H locs ls hP hS hl
  exact lv_icmp_eq C.1 C.2.1 hd ht (fun q => kt q H locs ls hP hS hl) (fun q => kf q H locs ls hP hS hl)
theorem lw_icmp_gt {x y : Int32} {off : Int} {tgt : Nat} (C : CY Y G Lx xs) (hd : decode cL_law pc = .ok (.if_icmp .gt off, 3)) (ht : (pc : Int) + off = (tgt : Int)) (kt : y < x → LW Y G tgt L S h) (kf : ¬ y < x → LW Y G (pc + 3) L S h) : LW Y G pc L (.int y :: .int x :: S) h := by
  intro H locs ls hP hS hl
  exact lv_icmp_gt C.1 C.2.1 hd ht (fun q => kt q H locs ls hP hS hl) (fun q => kf q H locs ls hP hS hl)
theorem lw_if_eq {x : Int32} {off : Int} {tgt : Nat} (C : CY Y G Lx xs) (hd : decode cL_law pc = .ok (.ifCond .eq off, 3)) (ht : (pc : Int) + off = (tgt : Int)) (kt : x = 0 → LW Y G tgt L S h) (kf : ¬ x = 0 → LW Y G (pc + 3) L S h) : LW Y G pc L (.int x :: S) h := by
  intro H locs ls hP hS hl
  exact lv_if_eq C.1 C.2.1 hd ht (fun q => kt q H locs ls hP hS hl) (fun q => kf q H locs ls hP hS hl)
theorem lw_goto {off : Int} {tgt : Nat} (C : CY Y G Lx xs) (hd : decode cL_law pc = .ok (.goto off, 3)) (ht : (pc : Int) + off = (tgt : Int)) (k : LW Y G tgt L S h) : LW Y G pc L S h := by
  intro H locs ls hP hS hl
  exact lv_goto C.1 C.2.1 hd ht (k H locs ls hP hS hl)
theorem lw_iinc {i : Nat} {n : Int} {x v : Int32} {L1 : List (Option Value)} (C : CY Y G Lx xs) (hd : decode cL_law pc = .ok (.iinc i n, 3)) (hx : L[i]? = some (some (.int x))) (hv : x + Int32.ofInt n = v) (hn : nl L i = true) (hb : i < 4) (hL : L.set i (some (.int v)) = L1) (k : LW Y G (pc + 3) L1 S h) : LW Y G pc L S h := by
  intro H locs ls hP hS hl
  subst hL
  obtain ⟨q, hq⟩ := List.getElem?_of_mem ((lvp_mem G L 0 (i, .int x)).mpr ⟨i, _, hx, by rw [Nat.zero_add]; rfl⟩)
  exact lv_iinc C.1 C.2.1 hd (lvr_has hl) hq hv hb rfl (fun ls2 hl2 => k H locs ls2 hP hS (lvr_set1 hl.2.2.1 hn hl2))
theorem lw_tableIn {dflt lo hi : Int} {offs : Array Int} {len : Nat} {x : Int32} {off : Int} {tgt : Nat} (C : CY Y G Lx xs) (hd : decode cL_law pc = .ok (.tableswitch dflt lo hi offs, len)) (h1 : ¬ x.toInt < lo) (h2 : ¬ hi < x.toInt) (ho : offs[(x.toInt - lo).toNat]? = some off) (ht : (pc : Int) + off = (tgt : Int)) (k : LW Y G tgt L S h) : LW Y G pc L (.int x :: S) h := by
  intro H locs ls hP hS hl
  exact lv_tableIn C.1 C.2.1 hd h1 h2 ho ht (k H locs ls hP hS hl)
theorem lw_tableOut {dflt lo hi : Int} {offs : Array Int} {len : Nat} {x : Int32} {tgt : Nat} (C : CY Y G Lx xs) (hd : decode cL_law pc = .ok (.tableswitch dflt lo hi offs, len)) (hx : x.toInt < lo ∨ hi < x.toInt) (ht : (pc : Int) + dflt = (tgt : Int)) (k : LW Y G tgt L S h) : LW Y G pc L (.int x :: S) h := by
  intro H locs ls hP hS hl
  exact lv_tableOut C.1 C.2.1 hd hx ht (k H locs ls hP hS hl)
theorem lw_lcmp {x y : Int64} (C : CY Y G Lx xs) (hd : decode cL_law pc = .ok (.lcmp, 1))  (k : LW Y G (pc + 1) L (.int (lg_cmp x y) :: S) h) : LW Y G pc L (.long y :: .long x :: S) h := by
  intro H locs ls hP hS hl
  exact W.lcmp C.1 C.2.1 hd  (k H locs ls hP hS hl)
theorem lw_istore_n {k : Fin 4} {i : Nat} {x : Int32} {L1 : List (Option Value)} (C : CY Y G Lx xs) (hd : decode cL_law pc = .ok (.istore_n k, 1)) (hi : (k : Nat) = i) (hn : nl L i = true) (hb : i < 4) (hL : L.set i (some (.int x)) = L1) (k : LW Y G (pc + 1) L1 S h) : LW Y G pc L (.int x :: S) h := by
  intro H locs ls hP hS hl
  subst hL
  exact lv_istore_n C.1 C.2.1 hd hi (lvr_has hl) hb rfl (fun ls2 hl2 => k H locs ls2 hP hS (lvr_set1 hl.2.2.1 hn hl2))
theorem lw_sld {j : Nat} (C : CY Y G Lx xs) (hd : decode cL_law pc = .ok (.iaload, 1)) (hj : j < Lx) (hj2 : j < 2 ^ 31) (k : LW Y G (pc + 1) L (.int (xs j) :: S) h) : LW Y G pc L (.int (nI j) :: .ref 113 :: S) h := by
  obtain ⟨hx, hb, hret, hml, hown, hts, hlocks, hK, hz, hi, hnw, hA, hX, hlt⟩ := id C
  intro H locs ls hP hS hl
  have e : (nI j).toNatClampNeg = j := nI_clamp hj2
  have k1 := k H locs ls hP hS hl
  rw [show xs j = xs (nI j).toNatClampNeg by rw [e]] at k1
  refine va_sld hx hb hX hlt (fun q => absurd q (by show ¬ Y.2.2.1.heap.size ≤ ga G 113; omega)) hS ?_ hd k1
  intro q
  rw [e] at q
  rcases q with q | q
  · exact nI_pos hj2 q
  · omega
theorem lw_slen (C : CY Y G Lx xs) (hd : decode cL_law pc = .ok (.arraylength, 1)) (k : LW Y G (pc + 1) L (.int (nI Lx) :: S) h) : LW Y G pc L (.ref 113 :: S) h := by
  obtain ⟨hx, hb, hret, hml, hown, hts, hlocks, hK, hz, hi, hnw, hA, hX, hlt⟩ := id C
  intro H locs ls hP hS hl
  exact va_slen hx hb hX hlt (fun q => absurd q (by show ¬ Y.2.2.1.heap.size ≤ ga G 113; omega)) hS hd (k H locs ls hP hS hl)
theorem lw_end (C : CY Y G Lx xs) (hd : decode cL_law pc = .ok (.ireturn, 1)) : LW Y G pc L [.int 1] h := by
  obtain ⟨hx, hb, hret, hml, hown, hts, hlocks, hK, hz, hi, hnw, hA, hX, hlt⟩ := id C
  intro H locs ls hP hS hl
  exact va_forget (fun q hq => hS.2.2 q hq) (lw_ret hx hb hret hlocks hd)
theorem vx_callL {p : Program} {l : Launch} {e : Env} {R : Room} {s : State} {m : MethodId} {args a : Array Value} {below : List Frame} {meth : Method} {c : Code} {H : Heap} {locs : List Loc} {cells slots : Nat} {Qm : State → Prop} {ls : Array Slot} {st0 rest : List Value} {Q' : Option Value → Hp → Prop} (hr : va_Run p l e R s m args below meth c H locs cells slots 0 0 (F0 m pc ls st0) rest (qcG G Q' a) (gA G)) (hS : va_S (aL s) s.heap H locs) (hA : ∀ k, k < 112 → s.heap.size ≤ ga G k)
    (kk : ∀ (r : Option Value) (h' : Hp) (H1 : Heap) (locs1 : List Loc), Q' r h' → va_P (gD G) vwCl (wld G h') H1 → va_S (aL s) s.heap H1 locs1 → W p l e R s m args below meth c H1 locs1 cells slots Qm (F0 m (pc + 3) ls (r.toList ++ rest))) : W p l e R s m args below meth c H locs cells slots Qm (F0 m pc ls st0) := by
  have hg : ∀ q, gA G q → aL s q := fun q ⟨k, hk, e⟩ => by rw [e]; exact hA k hk
  intro T hT X
  obtain ⟨v, st₀, t, T', L, h0, X', hL, e1, e2, ⟨⟨r, h', hv, hq, hw⟩, hz, hk⟩, st⟩ := hr T hT X
  cases hv
  rw [h0] at hz hk
  obtain ⟨t2, a1, b1⟩ := kk v h' T'.heap (locs ++ L) hq (by rw [e1]; exact hw.1)
    ⟨Nat.le_trans hS.1 (by rw [e1]; exact hz), fun q h1 h2 => by rw [e1, hk q (Nat.lt_of_lt_of_le h1 hS.1) (fun z => h2 (hg q z))]; exact hS.2.1 q h1 h2, fun q hq => by
      rcases List.mem_append.mp hq with h | h
      · exact hS.2.2 q h
      · exact hg _ (hL q h)⟩ T' rfl X'
  exact ⟨t2, st t2 a1, b1⟩
theorem lw_cV {ix n b ci : Nat} {fl : List (Option Nat)} {As : List Value} {Q' : Option Value → Hp → Prop} (C : CY Y G Lx xs) (hl : LVt RL ix M' n) (hd : decode cL_law pc = .ok (.invokevirtual ix, 3)) (hsh : shp[b]? = some (0, ci, fl)) (hcl : (vwCl[ci]?).map (fun q => q.1) = some M'.1.cls) (hn : As.length = n) (hr : Nat.ble ((S.map fun v => v.category).sum) 8 = true) (hdd : d ≤ 1000)
    (hc : Call G d M' (.ref b :: As) h Q') (hg : ∀ r h', Q' r h' → r.toList.map (cv G) = r.toList ∧ LW Y G (pc + 3) L (r.toList ++ S) h') : LW Y G pc L (As.reverse ++ .ref b :: S) h := by
  intro H locs ls hP hS hlr
  obtain ⟨hx, hb, hret, hml, hown, hts, hlocks, hK, hz, hi, hnw, hA, hX, hlt⟩ := id C
  obtain ⟨hlk, him, hse, hini, hcd, hd2, hmx⟩ := hl
  have hgt := wld_get (G := G) (h := h) hsh
  rw [ce_obj] at hgt
  obtain ⟨q, hq, hq1⟩ : ∃ q, vwCl[ci]? = some q ∧ q.1 = M'.1.cls := by
    cases hv : vwCl[ci]? with
    | none => rw [hv] at hcl; cases hcl
    | some q => rw [hv] at hcl; exact ⟨q, rfl, Option.some.inj hcl⟩
  have hrec := va_recv hK hP hq hgt
  rw [hq1] at hrec
  have hst : (As.reverse ++ .ref b :: S).map (cv G) = (As.map (cv G)).reverse ++ .ref (ga G b) :: S.map (cv G) := by
    rw [List.map_append, List.map_reverse, List.map_cons]
    show _ ++ Value.ref (gr G b) :: _ = _
    rw [gr_lt G (shp_lt hsh)]
  have e0 : (Value.ref (ga G b) :: As.map (cv G)) = (Value.ref b :: As).map (cv G) := by
    rw [List.map_cons]; show _ = Value.ref (gr G b) :: _; rw [gr_lt G (shp_lt hsh)]
  rw [hst]
  refine vx_callL (va_runV (C := M'.1.cls) (As := As.map (cv G)) (rest := S.map (cv G)) ⟨hx, hb, hml, hown, hts⟩ hc
    ⟨callB_of n hts (good_ws hcd) rfl rfl rfl (hts _ hini) (hts _ hlk) hd2 ⟨by show d + 1 ≤ 2048; omega, by show 8 + (M'.2.2.1 + 11) + 64 * d ≤ 84000; omega⟩, hts _ him, hts _ hse⟩
    ⟨pcG_blind G _ h, hrec, fun U hU hW => ⟨by rw [e0], by rw [hU]; exact ⟨hP, va_K.moved hW.alike hK, zf_on hz hW.alike (fun a h1 _ => hS.2.1 a h1 (fun z => absurd z (by show ¬ Y.2.2.1.heap.size ≤ a; omega)))⟩, hi, nw_warm hW hnw⟩⟩ rfl (by rw [List.length_map]; exact hn) hlr.1 rfl (by rw [cat_map]; show 2 * 0 + _ ≤ 8; have := Nat.le_of_ble_eq_true hr; omega) hd ⟨Nat.le_refl _, Nat.le_refl _⟩) hS hA (fun r h' H1 locs1 hq' hP1 hS1 => ?_)
  obtain ⟨e1, k1⟩ := hg r h' hq'
  have := k1 H1 locs1 ls hP1 hS1 hlr
  rw [List.map_append, e1] at this
  exact this
theorem lw_c0i {ix b ci : Nat} {fl : List (Option Nat)} (C : CY Y G Lx xs) (hl : LVt RL ix M' 0) (hd : decode cL_law pc = .ok (.invokevirtual ix, 3)) (hsh : shp[b]? = some (0, ci, fl)) (hcl : (vwCl[ci]?).map (fun q => q.1) = some M'.1.cls) (hr : Nat.ble ((S.map fun v => v.category).sum) 8 = true) (hdd : d ≤ 1000) (hc : Call G d M' (.ref b :: []) h (pI fun v h1 => LW Y G (pc + 3) L (.int v :: S) h1)) : LW Y G pc L (.ref b :: S) h := lw_cV (As := []) C hl hd hsh hcl rfl hr hdd hc (fun r h1 q => by obtain ⟨v, e, k⟩ := q; subst e; exact ⟨rfl, k⟩)
theorem lw_c0j {ix b ci : Nat} {fl : List (Option Nat)} (C : CY Y G Lx xs) (hl : LVt RL ix M' 0) (hd : decode cL_law pc = .ok (.invokevirtual ix, 3)) (hsh : shp[b]? = some (0, ci, fl)) (hcl : (vwCl[ci]?).map (fun q => q.1) = some M'.1.cls) (hr : Nat.ble ((S.map fun v => v.category).sum) 8 = true) (hdd : d ≤ 1000) (hc : Call G d M' (.ref b :: []) h (pJ fun v h1 => LW Y G (pc + 3) L (.long v :: S) h1)) : LW Y G pc L (.ref b :: S) h := lw_cV (As := []) C hl hd hsh hcl rfl hr hdd hc (fun r h1 q => by obtain ⟨v, e, k⟩ := q; subst e; exact ⟨rfl, k⟩)
theorem lw_c1i {ix b ci : Nat} {fl : List (Option Nat)} {x1 : Value} (C : CY Y G Lx xs) (hl : LVt RL ix M' 1) (hd : decode cL_law pc = .ok (.invokevirtual ix, 3)) (hsh : shp[b]? = some (0, ci, fl)) (hcl : (vwCl[ci]?).map (fun q => q.1) = some M'.1.cls) (hr : Nat.ble ((S.map fun v => v.category).sum) 8 = true) (hdd : d ≤ 1000) (hc : Call G d M' (.ref b :: [x1]) h (pI fun v h1 => LW Y G (pc + 3) L (.int v :: S) h1)) : LW Y G pc L (x1 :: .ref b :: S) h := lw_cV (As := [x1]) C hl hd hsh hcl rfl hr hdd hc (fun r h1 q => by obtain ⟨v, e, k⟩ := q; subst e; exact ⟨rfl, k⟩)
theorem lw_c1j {ix b ci : Nat} {fl : List (Option Nat)} {x1 : Value} (C : CY Y G Lx xs) (hl : LVt RL ix M' 1) (hd : decode cL_law pc = .ok (.invokevirtual ix, 3)) (hsh : shp[b]? = some (0, ci, fl)) (hcl : (vwCl[ci]?).map (fun q => q.1) = some M'.1.cls) (hr : Nat.ble ((S.map fun v => v.category).sum) 8 = true) (hdd : d ≤ 1000) (hc : Call G d M' (.ref b :: [x1]) h (pJ fun v h1 => LW Y G (pc + 3) L (.long v :: S) h1)) : LW Y G pc L (x1 :: .ref b :: S) h := lw_cV (As := [x1]) C hl hd hsh hcl rfl hr hdd hc (fun r h1 q => by obtain ⟨v, e, k⟩ := q; subst e; exact ⟨rfl, k⟩)
theorem lw_c2i {ix b ci : Nat} {fl : List (Option Nat)} {x1 x2 : Value} (C : CY Y G Lx xs) (hl : LVt RL ix M' 2) (hd : decode cL_law pc = .ok (.invokevirtual ix, 3)) (hsh : shp[b]? = some (0, ci, fl)) (hcl : (vwCl[ci]?).map (fun q => q.1) = some M'.1.cls) (hr : Nat.ble ((S.map fun v => v.category).sum) 8 = true) (hdd : d ≤ 1000) (hc : Call G d M' (.ref b :: [x1, x2]) h (pI fun v h1 => LW Y G (pc + 3) L (.int v :: S) h1)) : LW Y G pc L (x2 :: x1 :: .ref b :: S) h := lw_cV (As := [x1, x2]) C hl hd hsh hcl rfl hr hdd hc (fun r h1 q => by obtain ⟨v, e, k⟩ := q; subst e; exact ⟨rfl, k⟩)
theorem lw_c2j {ix b ci : Nat} {fl : List (Option Nat)} {x1 x2 : Value} (C : CY Y G Lx xs) (hl : LVt RL ix M' 2) (hd : decode cL_law pc = .ok (.invokevirtual ix, 3)) (hsh : shp[b]? = some (0, ci, fl)) (hcl : (vwCl[ci]?).map (fun q => q.1) = some M'.1.cls) (hr : Nat.ble ((S.map fun v => v.category).sum) 8 = true) (hdd : d ≤ 1000) (hc : Call G d M' (.ref b :: [x1, x2]) h (pJ fun v h1 => LW Y G (pc + 3) L (.long v :: S) h1)) : LW Y G pc L (x2 :: x1 :: .ref b :: S) h := lw_cV (As := [x1, x2]) C hl hd hsh hcl rfl hr hdd hc (fun r h1 q => by obtain ⟨v, e, k⟩ := q; subst e; exact ⟨rfl, k⟩)
theorem lw_c3i {ix b ci : Nat} {fl : List (Option Nat)} {x1 x2 x3 : Value} (C : CY Y G Lx xs) (hl : LVt RL ix M' 3) (hd : decode cL_law pc = .ok (.invokevirtual ix, 3)) (hsh : shp[b]? = some (0, ci, fl)) (hcl : (vwCl[ci]?).map (fun q => q.1) = some M'.1.cls) (hr : Nat.ble ((S.map fun v => v.category).sum) 8 = true) (hdd : d ≤ 1000) (hc : Call G d M' (.ref b :: [x1, x2, x3]) h (pI fun v h1 => LW Y G (pc + 3) L (.int v :: S) h1)) : LW Y G pc L (x3 :: x2 :: x1 :: .ref b :: S) h := lw_cV (As := [x1, x2, x3]) C hl hd hsh hcl rfl hr hdd hc (fun r h1 q => by obtain ⟨v, e, k⟩ := q; subst e; exact ⟨rfl, k⟩)
theorem lw_c3j {ix b ci : Nat} {fl : List (Option Nat)} {x1 x2 x3 : Value} (C : CY Y G Lx xs) (hl : LVt RL ix M' 3) (hd : decode cL_law pc = .ok (.invokevirtual ix, 3)) (hsh : shp[b]? = some (0, ci, fl)) (hcl : (vwCl[ci]?).map (fun q => q.1) = some M'.1.cls) (hr : Nat.ble ((S.map fun v => v.category).sum) 8 = true) (hdd : d ≤ 1000) (hc : Call G d M' (.ref b :: [x1, x2, x3]) h (pJ fun v h1 => LW Y G (pc + 3) L (.long v :: S) h1)) : LW Y G pc L (x3 :: x2 :: x1 :: .ref b :: S) h := lw_cV (As := [x1, x2, x3]) C hl hd hsh hcl rfl hr hdd hc (fun r h1 q => by obtain ⟨v, e, k⟩ := q; subst e; exact ⟨rfl, k⟩)
theorem lw_c4i {ix b ci : Nat} {fl : List (Option Nat)} {x1 x2 x3 x4 : Value} (C : CY Y G Lx xs) (hl : LVt RL ix M' 4) (hd : decode cL_law pc = .ok (.invokevirtual ix, 3)) (hsh : shp[b]? = some (0, ci, fl)) (hcl : (vwCl[ci]?).map (fun q => q.1) = some M'.1.cls) (hr : Nat.ble ((S.map fun v => v.category).sum) 8 = true) (hdd : d ≤ 1000) (hc : Call G d M' (.ref b :: [x1, x2, x3, x4]) h (pI fun v h1 => LW Y G (pc + 3) L (.int v :: S) h1)) : LW Y G pc L (x4 :: x3 :: x2 :: x1 :: .ref b :: S) h := lw_cV (As := [x1, x2, x3, x4]) C hl hd hsh hcl rfl hr hdd hc (fun r h1 q => by obtain ⟨v, e, k⟩ := q; subst e; exact ⟨rfl, k⟩)
theorem lw_c4j {ix b ci : Nat} {fl : List (Option Nat)} {x1 x2 x3 x4 : Value} (C : CY Y G Lx xs) (hl : LVt RL ix M' 4) (hd : decode cL_law pc = .ok (.invokevirtual ix, 3)) (hsh : shp[b]? = some (0, ci, fl)) (hcl : (vwCl[ci]?).map (fun q => q.1) = some M'.1.cls) (hr : Nat.ble ((S.map fun v => v.category).sum) 8 = true) (hdd : d ≤ 1000) (hc : Call G d M' (.ref b :: [x1, x2, x3, x4]) h (pJ fun v h1 => LW Y G (pc + 3) L (.long v :: S) h1)) : LW Y G pc L (x4 :: x3 :: x2 :: x1 :: .ref b :: S) h := lw_cV (As := [x1, x2, x3, x4]) C hl hd hsh hcl rfl hr hdd hc (fun r h1 q => by obtain ⟨v, e, k⟩ := q; subst e; exact ⟨rfl, k⟩)
theorem lw_c5i {ix b ci : Nat} {fl : List (Option Nat)} {x1 x2 x3 x4 x5 : Value} (C : CY Y G Lx xs) (hl : LVt RL ix M' 5) (hd : decode cL_law pc = .ok (.invokevirtual ix, 3)) (hsh : shp[b]? = some (0, ci, fl)) (hcl : (vwCl[ci]?).map (fun q => q.1) = some M'.1.cls) (hr : Nat.ble ((S.map fun v => v.category).sum) 8 = true) (hdd : d ≤ 1000) (hc : Call G d M' (.ref b :: [x1, x2, x3, x4, x5]) h (pI fun v h1 => LW Y G (pc + 3) L (.int v :: S) h1)) : LW Y G pc L (x5 :: x4 :: x3 :: x2 :: x1 :: .ref b :: S) h := lw_cV (As := [x1, x2, x3, x4, x5]) C hl hd hsh hcl rfl hr hdd hc (fun r h1 q => by obtain ⟨v, e, k⟩ := q; subst e; exact ⟨rfl, k⟩)
theorem lw_c5j {ix b ci : Nat} {fl : List (Option Nat)} {x1 x2 x3 x4 x5 : Value} (C : CY Y G Lx xs) (hl : LVt RL ix M' 5) (hd : decode cL_law pc = .ok (.invokevirtual ix, 3)) (hsh : shp[b]? = some (0, ci, fl)) (hcl : (vwCl[ci]?).map (fun q => q.1) = some M'.1.cls) (hr : Nat.ble ((S.map fun v => v.category).sum) 8 = true) (hdd : d ≤ 1000) (hc : Call G d M' (.ref b :: [x1, x2, x3, x4, x5]) h (pJ fun v h1 => LW Y G (pc + 3) L (.long v :: S) h1)) : LW Y G pc L (x5 :: x4 :: x3 :: x2 :: x1 :: .ref b :: S) h := lw_cV (As := [x1, x2, x3, x4, x5]) C hl hd hsh hcl rfl hr hdd hc (fun r h1 q => by obtain ⟨v, e, k⟩ := q; subst e; exact ⟨rfl, k⟩)
end LROWS
