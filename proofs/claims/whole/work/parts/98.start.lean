theorem whole_start {p : Program} {e : Env} {s : State} {m : MethodId} {below : List Frame} {meth : Method} {c : Code} (l : Launch) {b L : Nat} {xs : Nat → Int32} (hL : L ≤ 384) (C0 : lw_At p s m meth c b L xs) : W p l e room_1 s m #[Value.ref b] below meth c s.heap [] 0 0 (lw_Z below #[Value.ref b] s) (entryFrame m ([Value.ref b] : List Value).toArray 4) := by
  obtain ⟨hx, hb, hr, hml, hown, hts, hX, hbl, hlocks, hgv⟩ := C0
  obtain ⟨D, T3, hK, hE, hnw⟩ := k_start hts
  obtain ⟨t, hZ, hT⟩ := z_start hts hgv
  have hw : ∀ w ∈ wAll, w.before #[Value.ref b] s = true := fun w h => hts w (List.mem_filter.mp h).1
  have C : CZ (((p, l, e, room_1), (s, m, #[Value.ref b], below), (meth, c, lw_Z below #[Value.ref b] s), (D, aL s, T3)) : Cz) mLaw := ⟨hx, hb, hr, hml, hown, hw, hlocks, hK, hE, fun q h => h⟩
  have fin : ∀ (a0 a1 a2 a11 a12 a13 a14 a15 a27 a39 a51 a52 a53 a54 a79 a82 a83 a84 a85 a86 a87 a88 a100 a89 : Nat) (r1 r2 r3 uR uN uT uS uM : Nat → Nat) (ls : Array Slot), lv_has ls 4 [(3, .int (nI 0)), (2, .ref a89), (1, .ref a0), (0, .ref b)] → CW (((p, l, e, room_1), (s, m, #[Value.ref b], below), (meth, c, lw_Z below #[Value.ref b] s), (D, aL s, T3)) : Cz) ls 18 [] (wL T3 a0 a1 a2 a11 a12 a13 a14 a15 a27 a39 a51 a52 a53 a54 a79 a82 a83 a84 a85 a86 a87 a88 a100 a89 b r1 r2 r3 uR uN uT uS uM) 112 4455 := by
    intro a0 a1 a2 a11 a12 a13 a14 a15 a27 a39 a51 a52 a53 a54 a79 a82 a83 a84 a85 a86 a87 a88 a100 a89 r1 r2 r3 uR uN uT uS uM ls hl
    intro H locs hP hD hS
    have at_ := fun k hk => ws_at (l := l) (D := D) (T3 := T3) (t := t) (a0 := a0) (a1 := a1) (a2 := a2) (a11 := a11) (a12 := a12) (a13 := a13) (a14 := a14) (a15 := a15) (a27 := a27) (a39 := a39) (a51 := a51) (a52 := a52) (a53 := a53) (a54 := a54) (a79 := a79) (a82 := a82) (a83 := a83) (a84 := a84) (a85 := a85) (a86 := a86) (a87 := a87) (a88 := a88) (a100 := a100) (a89 := a89) (b := b) (r1 := r1) (r2 := r2) (r3 := r3) (uR := uR) (uN := uN) (uT := uT) (uS := uS) (uM := uM) k hk
    have hP1 : va_P D vwCl (wld ((l, D, T3, (gaS a0 a1 a2 a11 a12 a13 a14 a15 a27 a39 a51 a52 a53 a54 a79 a82 a83 a84 a85 a86 a87 a88 a100 a89 b r1 r2 r3 uR uN uT uS uM), t) : Gt) hS0) H := by
      intro k q hq
      have hk : k < 112 := by
        have := (List.getElem?_eq_some_iff.mp hq).1
        rwa [wld_len] at this
      rw [wld_at hk] at hq
      rw [← Option.some.inj hq]
      exact hP _ _ (at_ k hk)
    have hA : ∀ k, k < 112 → s.heap.size ≤ ga ((l, D, T3, (gaS a0 a1 a2 a11 a12 a13 a14 a15 a27 a39 a51 a52 a53 a54 a79 a82 a83 a84 a85 a86 a87 a88 a100 a89 b r1 r2 r3 uR uN uT uS uM), t) : Gt) k := fun k hk => hD.2 _ _ (at_ k hk)
    have hinj : inj ((l, D, T3, (gaS a0 a1 a2 a11 a12 a13 a14 a15 a27 a39 a51 a52 a53 a54 a79 a82 a83 a84 a85 a86 a87 a88 a100 a89 b r1 r2 r3 uR uN uT uS uM), t) : Gt) := fun i j hi hj q => permf_inj hi hj (hD.1 _ _ _ _ (at_ i hi) (at_ j hj) q)
    have sub : ∀ q, gA ((l, D, T3, (gaS a0 a1 a2 a11 a12 a13 a14 a15 a27 a39 a51 a52 a53 a54 a79 a82 a83 a84 a85 a86 a87 a88 a100 a89 b r1 r2 r3 uR uN uT uS uM), t) : Gt) q → aL s q := fun q ⟨k, hk, z⟩ => by rw [z]; exact hA k hk
    have CYh : CY ((p, e, s, m, below, meth, c) : Lc) ((l, D, T3, (gaS a0 a1 a2 a11 a12 a13 a14 a15 a27 a39 a51 a52 a53 a54 a79 a82 a83 a84 a85 a86 a87 a88 a100 a89 b r1 r2 r3 uR uN uT uS uM), t) : Gt) L xs := ⟨hx, hb, hr, hml, hown, hw, hlocks, hK, ⟨hZ.narrow sub, hT.narrow sub⟩, hinj, hnw, hA, hX, hbl⟩
    have go := law_loop CYh hL 64 0 hS0 σ0 (by omega) (by omega) li_0 H locs ls hP1 hS ⟨hl.1, hl.2.1, rfl, fun i v hv => ?_⟩
    · refine W.widen (k := 600000) (n := 7302250) (by decide) (by decide) ?_
      exact go
    · match i, hv with
      | 0, hv => cases hv; exact lv_at hl 3 rfl
      | 1, hv => cases hv; exact lv_at hl 2 rfl
      | 2, hv => cases hv; exact lv_at hl 1 rfl
      | 3, hv => cases hv; exact lv_at hl 0 rfl
      | _ + 4, hv => cases hv
  have mid : ∀ (a0 a1 a2 a11 a12 a13 a14 a15 a27 a39 a51 a52 a53 a54 a79 a82 a83 a84 a85 a86 a87 a88 a100 : Nat) (r1 r2 r3 uR uN uT uS : Nat → Nat) (ls : Array Slot), lv_has ls 4 [(1, .ref a0), (0, .ref b)] → CW (((p, l, e, room_1), (s, m, #[Value.ref b], below), (meth, c, lw_Z below #[Value.ref b] s), (D, aL s, T3)) : Cz) ls 8 [] (w6S T3 a0 a1 a2 a11 a12 a13 a14 a15 a27 a39 a51 a52 a53 a54 a79 a82 a83 a84 a85 a86 a87 a88 a100 0 b r1 r2 r3 uR uN uT uS (fun _ => 0)) 101 2397 := by
    intro a0 a1 a2 a11 a12 a13 a14 a15 a27 a39 a51 a52 a53 a54 a79 a82 a83 a84 a85 a86 a87 a88 a100 r1 r2 r3 uR uN uT uS ls hl
    refine cw_new (pc := 8) (ci := 7) (fs := [.null, .int 0, .int 0, .null, .null, .null, .null, .null, .int 0, .int 0, .int 0, .null, .int 0, .int 0, .int 0, .int 0, .null, .null, .null]) C rfl in_7 tyX7_ok (mT4 (List.mem_of_getElem? (i := 47) rfl) rfl) (mT4 (List.mem_of_getElem? (i := 48) rfl) rfl) (mT1 (List.mem_of_getElem? (i := 8) rfl) rfl) (by decide +kernel) dL_law_8 (Nat.le_of_ble_eq_true rfl) (Nat.le_of_ble_eq_true rfl) (fun a89 => ?_)
    refine cw_dup (pc := 11) C dL_law_11 rfl ?_
    refine cw_ctor (pc := 12) (As := []) C (ct_X7 _) (Or.inl (mT4 (List.mem_of_getElem? (i := 49) rfl) rfl)) (mT4 (List.mem_of_getElem? (i := 50) rfl) rfl) rfl lb_X7_init rfl dL_law_12 hl.1 rfl rfl ⟨Nat.le_of_ble_eq_true rfl, Nat.le_of_ble_eq_true rfl⟩ ⟨Nat.le_of_ble_eq_true rfl, Nat.le_of_ble_eq_true rfl⟩ (fun uM => ?_)
    intro H locs hP hD hS
    refine lv_astore_n C.1 C.2.1 dL_law_15 rfl hl (by decide) rfl (fun ls2 hl2 => ?_)
    refine lv_iconst (v := nI 0) C.1 C.2.1 dL_law_16 rfl ?_
    refine lv_istore_n C.1 C.2.1 dL_law_17 rfl hl2 (by decide) rfl (fun ls3 hl3 => ?_)
    have e : w6S T3 a0 a1 a2 a11 a12 a13 a14 a15 a27 a39 a51 a52 a53 a54 a79 a82 a83 a84 a85 a86 a87 a88 a100 0 b r1 r2 r3 uR uN uT uS (fun _ => 0) ++ w7S T3 a89 uM = wL T3 a0 a1 a2 a11 a12 a13 a14 a15 a27 a39 a51 a52 a53 a54 a79 a82 a83 a84 a85 a86 a87 a88 a100 a89 b r1 r2 r3 uR uN uT uS uM := wL_eq T3 a0 a1 a2 a11 a12 a13 a14 a15 a27 a39 a51 a52 a53 a54 a79 a82 a83 a84 a85 a86 a87 a88 a100 a89 b r1 r2 r3 uR uN uT uS uM
    have hP : va_P D vwCl (w6S T3 a0 a1 a2 a11 a12 a13 a14 a15 a27 a39 a51 a52 a53 a54 a79 a82 a83 a84 a85 a86 a87 a88 a100 0 b r1 r2 r3 uR uN uT uS (fun _ => 0) ++ w7S T3 a89 uM) H := hP
    have hD : va_D (aL s) (w6S T3 a0 a1 a2 a11 a12 a13 a14 a15 a27 a39 a51 a52 a53 a54 a79 a82 a83 a84 a85 a86 a87 a88 a100 0 b r1 r2 r3 uR uN uT uS (fun _ => 0) ++ w7S T3 a89 uM) := hD
    rw [e] at hP hD
    exact fin a0 a1 a2 a11 a12 a13 a14 a15 a27 a39 a51 a52 a53 a54 a79 a82 a83 a84 a85 a86 a87 a88 a100 a89 r1 r2 r3 uR uN uT uS uM ls3 hl3 H locs hP hD hS
  have hl0 := lv_entry ([Value.ref b]) (n := 4) (Nat.le_of_ble_eq_true rfl)
  rw [lg_entry_eq]
  generalize (lg_sl ([Value.ref b]) ++ List.replicate (4 - (lg_sl ([Value.ref b])).length) Slot.unset).toArray = ls at hl0 ⊢
  have hl : lv_has ls 4 [(0, .ref b)] := hl0
  have st : CW (((p, l, e, room_1), (s, m, #[Value.ref b], below), (meth, c, lw_Z below #[Value.ref b] s), (D, aL s, T3)) : Cz) ls 0 [] [] 0 0 := by
    refine cw_new (pc := 0) (ci := 6) (fs := [.null, .null, .null, .null, .null, .null, .null, .null, .null, .null, .null, .int 0, .int 0]) C rfl in_6 tyX6_ok (mT1 (List.mem_of_getElem? (i := 12) rfl) rfl) (mT1 (List.mem_of_getElem? (i := 13) rfl) rfl) (mT1 (List.mem_of_getElem? (i := 1) rfl) rfl) (by decide +kernel) dL_law_0 (Nat.le_of_ble_eq_true rfl) (Nat.le_of_ble_eq_true rfl) (fun a0 => ?_)
    refine cw_dup (pc := 3) C dL_law_3 rfl ?_
    refine cw_ctor (pc := 4) (As := []) C (ct_X6 _) (Or.inl (mT1 (List.mem_of_getElem? (i := 14) rfl) rfl)) (mT1 (List.mem_of_getElem? (i := 15) rfl) rfl) rfl lb_X6_init rfl dL_law_4 hl.1 rfl rfl ⟨Nat.le_of_ble_eq_true rfl, Nat.le_of_ble_eq_true rfl⟩ ⟨Nat.le_of_ble_eq_true rfl, Nat.le_of_ble_eq_true rfl⟩ ?_
    rintro ⟨⟨a1, a2, r1, a11, a12⟩, ⟨a13, a15, uR, a14⟩, ⟨a27, uN⟩, ⟨a39, uT⟩, a51, a52, ⟨a53, a54, r2⟩, ⟨a79, r3⟩, a82, ⟨a83, a84⟩, ⟨a85, a100, uS, a86, a87, a88⟩⟩
    intro H locs hP hD hS
    refine lv_astore_n C.1 C.2.1 dL_law_7 rfl hl (by decide) rfl (fun ls2 hl2 => ?_)
    exact mid a0 a1 a2 a11 a12 a13 a14 a15 a27 a39 a51 a52 a53 a54 a79 a82 a83 a84 a85 a86 a87 a88 a100 r1 r2 r3 uR uN uT uS ls2 hl2 H locs hP hD hS
  exact st s.heap [] (fun k q h => (by cases h)) ⟨fun i j p q h => (by cases h), fun k q h => (by cases h)⟩ va_S.rf
