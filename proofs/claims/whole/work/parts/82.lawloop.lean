theorem and63 (x : Int32) : ∃ j, j < 64 ∧ x &&& nI 63 = nI j := by
  have h : (x &&& nI 63).toBitVec = x.toBitVec &&& 63#32 := rfl
  refine ⟨(x &&& nI 63).toBitVec.toNat, ?_, ?_⟩
  · rw [h, BitVec.toNat_and]
    exact Nat.lt_of_le_of_lt Nat.and_le_right (by decide)
  · apply Int32.toBitVec_inj.mp
    show _ = BitVec.ofNat 32 _
    rw [BitVec.ofNat_toNat, BitVec.setWidth_eq]
theorem lsub6 {a i : Nat} (ha : a ≤ 384) (hi : i ≤ 1000) : nI a - nI 6 < nI i ↔ a < i + 6 := by
  rw [Int32.lt_iff_toInt_lt, nI_toInt (show i < 2 ^ 31 by omega)]
  have : (nI a - nI 6).toInt = (a : Int) - 6 := by
    rw [Int32.toInt_sub, nI_toInt (show a < 2 ^ 31 by omega), nI_toInt (show 6 < 2 ^ 31 by decide)]
    exact Int.bmod_eq_of_le (by omega) (by omega)
  rw [this]; omega
section LLOOP
variable {Y : Lc} {G : Gt} {Lx : Nat} {xs : Nat → Int32}
theorem law_loop (C : CY Y G Lx xs) (hL : Lx ≤ 384) : ∀ m i h σ, Lx ≤ i + 6 * m → i ≤ 400 → LI h σ → LW Y G 18 [some (.ref 113), some (.ref 0), some (.ref 89), some (.int (nI i))] [] h := by
  intro m
  have head : ∀ i h, i ≤ 400 → (Lx < i + 6 → LW Y G 1515 [some (.ref 113), some (.ref 0), some (.ref 89), some (.int (nI i))] [] h) → (¬ Lx < i + 6 → LW Y G 27 [some (.ref 113), some (.ref 0), some (.ref 89), some (.int (nI i))] [] h) → LW Y G 18 [some (.ref 113), some (.ref 0), some (.ref 89), some (.int (nI i))] [] h := by
    intro i h hi k1 k2
    refine lw_iload_n (pc := 18) (i := 3) C dL_law_18 rfl rfl ?_
    refine lw_aload_n (pc := 19) (i := 0) C dL_law_19 rfl rfl ?_
    refine lw_slen (pc := 20) C dL_law_20 ?_
    refine lw_bipush (pc := 21) (v := nI 6) C dL_law_21 rfl ?_
    refine lw_isub (pc := 23) C dL_law_23 ?_
    refine lw_icmp_gt (pc := 24) (tgt := 1515) C dL_law_24 (by decide) (fun q => k1 ((lsub6 hL (by omega)).mp q)) (fun q => k2 (fun z => q ((lsub6 hL (by omega)).mpr z)))
  have fin : ∀ i h, LW Y G 1515 [some (.ref 113), some (.ref 0), some (.ref 89), some (.int (nI i))] [] h := by
    intro i h
    refine lw_iconst (pc := 1515) (v := 1) C dL_law_1515 rfl ?_
    exact lw_end C dL_law_1516
  induction m with
  | zero =>
    intro i h σ hm hi hI
    exact head i h hi (fun _ => fin i h) (fun q => absurd hm (by omega))
  | succ m ih =>
    intro i h σ hm hi hI
    refine head i h hi (fun _ => fin i h) (fun q => ?_)
    have nx : ∀ h' σ', LI h' σ' → LW Y G 1509 [some (.ref 113), some (.ref 0), some (.ref 89), some (.int (nI i))] [] h' := by
      intro h' σ' hI'
      refine lw_iinc (pc := 1509) (i := 3) (v := nI (i + 6)) C dL_law_1509 rfl (nI_add i 6) rfl (by decide) rfl ?_
      dsimp only [List.set_cons_zero, List.set_cons_succ]
      refine lw_goto (pc := 1512) (tgt := 18) C dL_law_1512 (by decide) ?_
      exact ih (i + 6) h' σ' (by omega) (by omega) hI'
    refine lw_aload_n (pc := 27) (i := 0) C dL_law_27 rfl rfl ?_
    refine lw_iload_n (pc := 28) (i := 3) C dL_law_28 rfl rfl ?_
    refine lw_sld (pc := 29) C dL_law_29 (by omega) (by omega) ?_
    refine lw_bipush (pc := 30) (v := nI 63) C dL_law_30 rfl ?_
    refine lw_iand (pc := 32) C dL_law_32 ?_
    obtain ⟨j, hj, e⟩ := and63 (xs i)
    rw [e]
    by_cases z : 39 < j
    · refine lw_tableOut (pc := 33) (tgt := 1509) C dL_law_33 (by rw [nI_toInt (by omega)]; omega) (by decide) ?_
      exact nx h σ hI
    · have key : ∀ j, j < 40 → LW Y G 33 [some (.ref 113), some (.ref 0), some (.ref 89), some (.int (nI i))] [.int (nI j)] h
        | 0, _ => lw_tableIn (pc := 33) (tgt := 208) C dL_law_33 (by decide) (by decide) rfl (by decide) (lc_row C (by omega) hL hI nx)
        | 1, _ => lw_tableIn (pc := 33) (tgt := 251) C dL_law_33 (by decide) (by decide) rfl (by decide) (lc_set C (by omega) hL hI nx)
        | 2, _ => lw_tableIn (pc := 33) (tgt := 294) C dL_law_33 (by decide) (by decide) rfl (by decide) (lc_copy C (by omega) hL hI nx)
        | 3, _ => lw_tableIn (pc := 33) (tgt := 357) C dL_law_33 (by decide) (by decide) rfl (by decide) (lc_drop C (by omega) hL hI nx)
        | 4, _ => lw_tableIn (pc := 33) (tgt := 380) C dL_law_33 (by decide) (by decide) rfl (by decide) (lc_feed C (by omega) hL hI nx)
        | 5, _ => lw_tableIn (pc := 33) (tgt := 403) C dL_law_33 (by decide) (by decide) rfl (by decide) (lc_town C (by omega) hL hI nx)
        | 6, _ => lw_tableIn (pc := 33) (tgt := 416) C dL_law_33 (by decide) (by decide) rfl (by decide) (lc_fault C (by omega) hL hI nx)
        | 7, _ => lw_tableIn (pc := 33) (tgt := 429) C dL_law_33 (by decide) (by decide) rfl (by decide) (lc_undo C (by omega) hL hI nx)
        | 8, _ => lw_tableIn (pc := 33) (tgt := 442) C dL_law_33 (by decide) (by decide) rfl (by decide) (lc_days C (by omega) hL hI nx)
        | 9, _ => lw_tableIn (pc := 33) (tgt := 465) C dL_law_33 (by decide) (by decide) rfl (by decide) (lc_sick C (by omega) hL hI nx)
        | 10, _ => lw_tableIn (pc := 33) (tgt := 498) C dL_law_33 (by decide) (by decide) rfl (by decide) (lc_swap C (by omega) hL hI nx)
        | 11, _ => lw_tableIn (pc := 33) (tgt := 531) C dL_law_33 (by decide) (by decide) rfl (by decide) (lc_pace C (by omega) hL hI nx)
        | 12, _ => lw_tableIn (pc := 33) (tgt := 564) C dL_law_33 (by decide) (by decide) rfl (by decide) (lc_quarrel C (by omega) hL hI nx)
        | 13, _ => lw_tableIn (pc := 33) (tgt := 607) C dL_law_33 (by decide) (by decide) rfl (by decide) (lc_spoil C (by omega) hL hI nx)
        | 14, _ => lw_tableIn (pc := 33) (tgt := 640) C dL_law_33 (by decide) (by decide) rfl (by decide) (lc_gran C (by omega) hL hI nx)
        | 15, _ => lw_tableIn (pc := 33) (tgt := 673) C dL_law_33 (by decide) (by decide) rfl (by decide) (lc_child C (by omega) hL hI nx)
        | 16, _ => lw_tableIn (pc := 33) (tgt := 706) C dL_law_33 (by decide) (by decide) rfl (by decide) (lc_ahead C (by omega) hL hI nx)
        | 17, _ => lw_tableIn (pc := 33) (tgt := 749) C dL_law_33 (by decide) (by decide) rfl (by decide) (lc_withWhom C (by omega) hL hI nx)
        | 18, _ => lw_tableIn (pc := 33) (tgt := 782) C dL_law_33 (by decide) (by decide) rfl (by decide) (lc_whole C (by omega) hL hI nx)
        | 19, _ => lw_tableIn (pc := 33) (tgt := 805) C dL_law_33 (by decide) (by decide) rfl (by decide) (lc_hungry C (by omega) hL hI nx)
        | 20, _ => lw_tableIn (pc := 33) (tgt := 828) C dL_law_33 (by decide) (by decide) rfl (by decide) (lc_without C (by omega) hL hI nx)
        | 21, _ => lw_tableIn (pc := 33) (tgt := 851) C dL_law_33 (by decide) (by decide) rfl (by decide) (lc_rota C (by omega) hL hI nx)
        | 22, _ => lw_tableIn (pc := 33) (tgt := 894) C dL_law_33 (by decide) (by decide) rfl (by decide) (lc_meets C (by omega) hL hI nx)
        | 23, _ => lw_tableIn (pc := 33) (tgt := 927) C dL_law_33 (by decide) (by decide) rfl (by decide) (lc_lost C (by omega) hL hI nx)
        | 24, _ => lw_tableIn (pc := 33) (tgt := 950) C dL_law_33 (by decide) (by decide) rfl (by decide) (lc_swaps C (by omega) hL hI nx)
        | 25, _ => lw_tableIn (pc := 33) (tgt := 983) C dL_law_33 (by decide) (by decide) rfl (by decide) (lc_soon C (by omega) hL hI nx)
        | 26, _ => lw_tableIn (pc := 33) (tgt := 1016) C dL_law_33 (by decide) (by decide) rfl (by decide) (lc_who C (by omega) hL hI nx)
        | 27, _ => lw_tableIn (pc := 33) (tgt := 1079) C dL_law_33 (by decide) (by decide) rfl (by decide) (lc_firsts C (by omega) hL hI nx)
        | 28, _ => lw_tableIn (pc := 33) (tgt := 1142) C dL_law_33 (by decide) (by decide) rfl (by decide) (lc_steps C (by omega) hL hI nx)
        | 29, _ => lw_tableIn (pc := 33) (tgt := 1205) C dL_law_33 (by decide) (by decide) rfl (by decide) (lc_even C (by omega) hL hI nx)
        | 30, _ => lw_tableIn (pc := 33) (tgt := 1228) C dL_law_33 (by decide) (by decide) rfl (by decide) (lc_fever C (by omega) hL hI nx)
        | 31, _ => lw_tableIn (pc := 33) (tgt := 1272) C dL_law_33 (by decide) (by decide) rfl (by decide) (lc_drawn C (by omega) hL hI nx)
        | 32, _ => lw_tableIn (pc := 33) (tgt := 1315) C dL_law_33 (by decide) (by decide) rfl (by decide) (lc_image C (by omega) hL hI nx)
        | 33, _ => lw_tableIn (pc := 33) (tgt := 1338) C dL_law_33 (by decide) (by decide) rfl (by decide) (lc_restore C (by omega) hL hI nx)
        | 34, _ => lw_tableIn (pc := 33) (tgt := 1361) C dL_law_33 (by decide) (by decide) rfl (by decide) (lc_kind C (by omega) hL hI nx)
        | 35, _ => lw_tableIn (pc := 33) (tgt := 1384) C dL_law_33 (by decide) (by decide) rfl (by decide) (lc_as C (by omega) hL hI nx)
        | 36, _ => lw_tableIn (pc := 33) (tgt := 1417) C dL_law_33 (by decide) (by decide) rfl (by decide) (lc_ask C (by omega) hL hI nx)
        | 37, _ => lw_tableIn (pc := 33) (tgt := 1450) C dL_law_33 (by decide) (by decide) rfl (by decide) (lc_trace C (by omega) hL hI nx)
        | 38, _ => lw_tableIn (pc := 33) (tgt := 1473) C dL_law_33 (by decide) (by decide) rfl (by decide) (lc_count C (by omega) hL hI nx)
        | 39, _ => lw_tableIn (pc := 33) (tgt := 1496) C dL_law_33 (by decide) (by decide) rfl (by decide) (lc_status C (by omega) hL hI nx)
        | _ + 40, w => absurd w (by omega)
      exact key j (by omega)
end LLOOP
