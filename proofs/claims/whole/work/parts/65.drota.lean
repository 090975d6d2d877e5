def dcI (m : Nat) : Int32 := match m with
  | 0 => kM1
  | m + 1 => nI m
theorem dcI_s (m : Nat) : nI m + Int32.ofInt (-1) = dcI m := by
  cases m with
  | zero => rfl
  | succ m =>
    show nI (m + 1) + Int32.ofInt (-1) = nI m
    rw [← nI_add]
    have : nI 1 + Int32.ofInt (-1) = 0 := by decide
    rw [Int32.add_assoc, this, Int32.add_zero]
theorem dcI_d (m : Nat) : nI m - nI 1 = dcI m := by
  rw [← dcI_s, Int32.sub_eq_add_neg]; rfl
def rfC (T : Tn) (sp g a : Nat) : Nat → Nat
  | 0 => a
  | c + 1 => rfC T sp g a c ||| vb (up T (32 + g) c) g sp
def rfF (T : Tn) (sp : Nat) : Nat → Nat
  | 0 => 0
  | m + 1 => rfC T sp (T 1 - (m + 1)) (rfF T sp m) (T 0)
theorem rfC_lt {T : Tn} {sp g a : Nat} (hO : OKT T) (hg : g < T 1) (ha : a < 2 ^ 5) : ∀ c, c ≤ T 0 → rfC T sp g a c < 2 ^ 5
  | 0, _ => ha
  | c + 1, hc => or_lt (rfC_lt hO hg ha c (by omega)) (vb_lt (okt_fir hO hg (by omega)) (by rw [up_ne (by omega)]; omega) _)
theorem rfF_lt {T : Tn} {sp : Nat} (hO : OKT T) : ∀ m, m ≤ T 1 → rfF T sp m < 2 ^ 5
  | 0, _ => (by decide : 0 < 2 ^ 5)
  | m + 1, hm => rfC_lt hO (by omega) (rfF_lt hO m (by omega)) _ (Nat.le_refl _)
theorem rfC_has {T : Tn} {sp g a b : Nat} : ∀ n, (a.testBit b = true ∨ ∃ c, c < n ∧ (vb (up T (32 + g) c) g sp).testBit b = true) → (rfC T sp g a n).testBit b = true
  | 0, q => by
    rcases q with q | ⟨c, hc, _⟩
    · exact q
    · omega
  | n + 1, q => by
    rcases q with q | ⟨c, hc, q⟩
    · exact tb_or (Or.inl (rfC_has n (Or.inl q)))
    · by_cases z : c = n
      · subst z; exact tb_or (Or.inr q)
      · exact tb_or (Or.inl (rfC_has n (Or.inr ⟨c, by omega, q⟩)))
theorem rfF_has {T : Tn} {sp b j c : Nat} (hj : j < T 1) (hc : c < T 0) (q : (vb (up T (32 + j) c) j sp).testBit b = true) : ∀ m, m ≤ T 1 → T 1 - m ≤ j → (rfF T sp m).testBit b = true
  | 0, _, z => absurd z (by omega)
  | m + 1, hm, z => by
    refine rfC_has _ ?_
    by_cases y : T 1 - (m + 1) = j
    · exact Or.inr ⟨c, hc, by rw [y]; exact q⟩
    · exact Or.inl (rfF_has hj hc q m (by omega) (by omega))
/-- what the searcher holds -/
def RO (h : Hp) (T : Tn) (w sp : Nat) : Prop := h 85 4 = nI w ∧ h 85 5 = nI sp ∧ (∀ j, j < T 1 → h 86 j = nI (T (32 + j))) ∧ (∀ j c, j < T 1 → c < T 0 → h 87 (j * 5 + c) = nI (vb (up T (32 + j) c) j sp)) ∧ (∀ j, j ≤ T 1 → h 88 j = nI (rfF T sp (T 1 - j)))
theorem RO.cg {h h' : Hp} {T : Tn} {w sp : Nat} (H : RO h T w sp) (e : ∀ a, 85 ≤ a → a ≤ 88 → h' a = h a) : RO h' T w sp := by
  unfold RO; rw [e 85 (by omega) (by omega), e 86 (by omega) (by omega), e 87 (by omega) (by omega), e 88 (by omega) (by omega)]; exact H
section DROTA
variable {G : Gt} {d : Nat} {h : Hp} {T V : Tn}
theorem sp_longestIll {K : Int32 → Hp → Prop} (hW : TW h 100 T) (hO : OKT T) (k : K (nI (mxU (fun g => T (44 + g)) (T 1))) h) : Call G (d + 1) mX3_longestIll [.ref 85] h (pI K) := by
  obtain ⟨o0, o1, o2, o3, o4, o5, o6, o7, o8⟩ := id hO
  obtain ⟨r0, r1, r2, r3, r4, r5, r6, r7, r8, r9, r10, r11, r12, r13⟩ := id hW
  have r5 : ∀ q, q < T 0 → h 101 q = nI (T (5 + q)) := r5
  have r6 : ∀ q, q < T 0 → h 102 q = nI (T (10 + q)) := r6
  have r7 : ∀ q, q < T 0 → h 103 q = nI (T (15 + q)) := r7
  have r8 : ∀ q, q < T 1 → h 104 q = nI (T (20 + q)) := r8
  have r9 : ∀ q, q < T 1 → h 105 q = nI (T (26 + q)) := r9
  have r10 : ∀ q, q < T 1 → h 106 q = nI (T (32 + q)) := r10
  have r11 : ∀ q, q < T 1 → h 107 q = nI (T (38 + q)) := r11
  have r12 : ∀ q, q < T 1 → h 108 q = nI (T (44 + q)) := r12
  have r13 : ∀ q, q < T 1 → h 109 q = nI (T (50 + q)) := r13
  refine Call.of (M := mX3_longestIll) (n := 2) (by decide +kernel) rfl ?_
  show WP _ _ _ _ 0 [some (.ref 85), none, none] [] _
  have bd : ∀ n, n ≤ T 1 → mxU (fun g => T (44 + g)) n ≤ 60 := fun n hn => mxU_bd n (fun i hi => (o7 i (by omega)).2.2.2.2.1)
  have loop : ∀ m i, i + m = T 1 → WP G (d + 1) mX3_longestIll (pI K) 4 [some (.ref 85), some (.int (nI (mxU (fun g => T (44 + g)) i))), some (.int (nI i))] [] h := by
    intro m
    induction m with
    | zero =>
      intro i him
      refine wp_iload_n (pc := 4) (i := 2) dX3_longestIll_4 rfl rfl ?_
      refine wp_aload_n (pc := 5) (i := 0) dX3_longestIll_5 rfl rfl ?_
      refine wp_gfr (pc := 6) fk_X3_12 dX3_longestIll_6 rfl rfl (by decide) ?_
      refine wp_gfv (pc := 9) fk_X3_55 dX3_longestIll_9 rfl rfl (by first | with_reducible assumption | with_reducible exact hs_same _ _ _ _ | rfl) ?_
      first | (with_reducible show WP _ _ _ _ _ _ (Value.int (nI _) :: Value.int (nI _) :: _) _; refine wp_icmp_geN (pc := 12) (tgt := 35) dX3_longestIll_12 (by decide) (by omega) (by omega) (fun c12 => ?_) (fun c12 => ?_)) | refine wp_icmp_ge (pc := 12) (tgt := 35) dX3_longestIll_12 (by decide) (fun c12 => ?_) (fun c12 => ?_)
      refine wp_iload_n (pc := 35) (i := 1) dX3_longestIll_35 rfl rfl ?_
      refine wp_iret (pc := 36) dX3_longestIll_36 rfl ?_
      rotate_left
      rotate_left
      · rw [show T 1 = i by omega] at k; exact k
      · exact absurd him (by omega)
    | succ m ih =>
      intro i him
      have b1 := bd i (by omega)
      have b2 := (o7 i (by omega)).2.2.2.2.1
      have nx := ih (i + 1) (by omega)
      refine wp_iload_n (pc := 4) (i := 2) dX3_longestIll_4 rfl rfl ?_
      refine wp_aload_n (pc := 5) (i := 0) dX3_longestIll_5 rfl rfl ?_
      refine wp_gfr (pc := 6) fk_X3_12 dX3_longestIll_6 rfl rfl (by decide) ?_
      refine wp_gfv (pc := 9) fk_X3_55 dX3_longestIll_9 rfl rfl (by first | with_reducible assumption | with_reducible exact hs_same _ _ _ _ | with_reducible exact r12 _ (by omega) | rfl) ?_
      first | (with_reducible show WP _ _ _ _ _ _ (Value.int (nI _) :: Value.int (nI _) :: _) _; refine wp_icmp_geN (pc := 12) (tgt := 35) dX3_longestIll_12 (by decide) (by omega) (by omega) (fun c12 => ?_) (fun c12 => ?_)) | refine wp_icmp_ge (pc := 12) (tgt := 35) dX3_longestIll_12 (by decide) (fun c12 => ?_) (fun c12 => ?_)
      rotate_left
      refine wp_iload_n (pc := 15) (i := 1) dX3_longestIll_15 rfl rfl ?_
      refine wp_aload_n (pc := 16) (i := 0) dX3_longestIll_16 rfl rfl ?_
      refine wp_gfr (pc := 17) fk_X3_12 dX3_longestIll_17 rfl rfl (by decide) ?_
      refine wp_gfr (pc := 20) fk_X3_63 dX3_longestIll_20 rfl rfl (by decide) ?_
      refine wp_iload_n (pc := 23) (i := 2) dX3_longestIll_23 rfl rfl ?_
      first | (with_reducible show WP _ _ _ _ _ _ (Value.int (nI _) :: _) _; refine wp_ialdN (pc := 24) dX3_longestIll_24 rfl (by omega) (by first | with_reducible assumption | with_reducible exact hs_same _ _ _ _ | with_reducible exact r12 _ (by omega) | rfl) ?_) | refine wp_iald (pc := 24) dX3_longestIll_24 rfl (by assumption) rfl ?_
      rotate_left
      · exact absurd him (by omega)
      refine wp_maxN (pc := 25) lk_X3_66 dX3_longestIll_25 (by omega) (by omega) rfl ?_
      refine wp_istore_n (pc := 28) (i := 1) dX3_longestIll_28 rfl rfl (by decide) rfl ?_
      dsimp only [List.set_cons_zero, List.set_cons_succ]
      first | refine wp_iincN (pc := 29) (i := 2) (n := 1) dX3_longestIll_29 rfl rfl (by decide) rfl ?_ | refine wp_iinc (pc := 29) (i := 2) dX3_longestIll_29 rfl rfl rfl (by decide) rfl ?_
      dsimp only [List.set_cons_zero, List.set_cons_succ]
      refine wp_goto (pc := 32) (tgt := 4) dX3_longestIll_32 (by decide) ?_
      rotate_left
      exact nx
  refine wp_iconst (pc := 0) (v := nI 0) dX3_longestIll_0 rfl ?_
  refine wp_istore_n (pc := 1) (i := 1) dX3_longestIll_1 rfl rfl (by decide) rfl ?_
  dsimp only [List.set_cons_zero, List.set_cons_succ]
  refine wp_iconst (pc := 2) (v := nI 0) dX3_longestIll_2 rfl ?_
  refine wp_istore_n (pc := 3) (i := 2) dX3_longestIll_3 rfl rfl (by decide) rfl ?_
  dsimp only [List.set_cons_zero, List.set_cons_succ]
  rotate_left
  exact loop (T 1) 0 (by omega)
theorem sp_visitedR {g sp : Nat} {K : Int32 → Hp → Prop} (hW : TW h 100 V) (hO : OKT V) (hs' : h 85 5 = nI sp) (hg : g < V 1) (hsp : sp ≤ 100) (k : K (nI (vb V g sp)) h) : Call G (d + 1) mX3_visited [.ref 85, .int (nI g)] h (pI K) := by
  obtain ⟨o0, o1, o2, o3, o4, o5, o6, o7, o8⟩ := id hO
  have p0 := (o5 (by omega)).1
  refine Call.of (M := mX3_visited) (n := 3) (by decide +kernel) rfl ?_
  show WP _ _ _ _ 0 [some (.ref 85), some (.int (nI g)), none, none, none] [] _
  have loop : ∀ m i, i + m = sp → ∀ L4, WP G (d + 1) mX3_visited (pI K) 4 [some (.ref 85), some (.int (nI g)), some (.int (nI (vb V g i))), some (.int (nI i)), L4] [] h := by
    intro m
    induction m with
    | zero =>
      intro i him L4
      refine wp_iload_n (pc := 4) (i := 3) dX3_visited_4 rfl rfl ?_
      refine wp_aload_n (pc := 5) (i := 0) dX3_visited_5 rfl rfl ?_
      refine wp_gfv (pc := 6) fk_X3_49 dX3_visited_6 rfl rfl (by first | with_reducible assumption | with_reducible exact hs_same _ _ _ _ | rfl) ?_
      first | (with_reducible show WP _ _ _ _ _ _ (Value.int (nI _) :: Value.int (nI _) :: _) _; refine wp_icmp_geN (pc := 9) (tgt := 47) dX3_visited_9 (by decide) (by omega) (by omega) (fun c9 => ?_) (fun c9 => ?_)) | refine wp_icmp_ge (pc := 9) (tgt := 47) dX3_visited_9 (by decide) (fun c9 => ?_) (fun c9 => ?_)
      refine wp_iload_n (pc := 47) (i := 2) dX3_visited_47 rfl rfl ?_
      refine wp_iret (pc := 48) dX3_visited_48 rfl ?_
      rotate_left
      rotate_left
      · rw [show sp = i by omega] at k; exact k
      · exact absurd him (by omega)
    | succ m ih =>
      intro i him L4
      have nx := ih (i + 1) (by omega)
      rcases ho : wt V i g with _ | c
      · rw [vb_none ho] at nx
        refine wp_iload_n (pc := 4) (i := 3) dX3_visited_4 rfl rfl ?_
        refine wp_aload_n (pc := 5) (i := 0) dX3_visited_5 rfl rfl ?_
        refine wp_gfv (pc := 6) fk_X3_49 dX3_visited_6 rfl rfl (by first | with_reducible assumption | with_reducible exact hs_same _ _ _ _ | rfl) ?_
        first | (with_reducible show WP _ _ _ _ _ _ (Value.int (nI _) :: Value.int (nI _) :: _) _; refine wp_icmp_geN (pc := 9) (tgt := 47) dX3_visited_9 (by decide) (by omega) (by omega) (fun c9 => ?_) (fun c9 => ?_)) | refine wp_icmp_ge (pc := 9) (tgt := 47) dX3_visited_9 (by decide) (fun c9 => ?_) (fun c9 => ?_)
        rotate_left
        refine wp_aload_n (pc := 12) (i := 0) dX3_visited_12 rfl rfl ?_
        refine wp_gfr (pc := 13) fk_X3_12 dX3_visited_13 rfl rfl (by decide) ?_
        refine wp_iload_n (pc := 16) (i := 1) dX3_visited_16 rfl rfl ?_
        refine wp_iload_n (pc := 17) (i := 3) dX3_visited_17 rfl rfl ?_
        refine wp_cV2i (pc := 18) lk_X3_76 dX3_visited_18 rfl rfl rfl (sp_hostN isT_100 hW hO hg (by omega) ho ?_)
        refine wp_istore (pc := 21) (i := 4) dX3_visited_21 rfl (by decide) rfl ?_
        dsimp only [List.set_cons_zero, List.set_cons_succ]
        refine wp_iload_n (pc := 23) (i := 2) dX3_visited_23 rfl rfl ?_
        refine wp_iload (pc := 24) (i := 4) dX3_visited_24 rfl ?_
        refine wp_ldc (pc := 26) kn_X3_62 dX3_visited_26 ?_
        first | (with_reducible show WP _ _ _ _ _ _ (Value.int (nI _) :: Value.int (nI _) :: _) _; refine wp_icmp_neN (pc := 28) (tgt := 35) dX3_visited_28 (by decide) (by omega) (by omega) (fun c28 => ?_) (fun c28 => ?_)) | refine wp_icmp_ne (pc := 28) (tgt := 35) dX3_visited_28 (by decide) (fun c28 => ?_) (fun c28 => ?_)
        refine wp_iconst (pc := 35) (v := nI 1) dX3_visited_35 rfl ?_
        refine wp_iload (pc := 36) (i := 4) dX3_visited_36 rfl ?_
        first | (with_reducible show WP _ _ _ _ _ _ (Value.int (nI _) :: Value.int (nI _) :: _) _; refine wp_ishlN (pc := 38) dX3_visited_38 (by omega) ?_) | refine wp_ishl (pc := 38) dX3_visited_38 ?_
        first | (with_reducible show WP _ _ _ _ _ _ (Value.int (nI _) :: Value.int (nI _) :: _) _; refine wp_iorN (pc := 39) dX3_visited_39 ?_) | refine wp_ior (pc := 39) dX3_visited_39 ?_
        refine wp_istore_n (pc := 40) (i := 2) dX3_visited_40 rfl rfl (by decide) rfl ?_
        dsimp only [List.set_cons_zero, List.set_cons_succ]
        first | refine wp_iincN (pc := 41) (i := 3) (n := 1) dX3_visited_41 rfl rfl (by decide) rfl ?_ | refine wp_iinc (pc := 41) (i := 3) dX3_visited_41 rfl rfl rfl (by decide) rfl ?_
        dsimp only [List.set_cons_zero, List.set_cons_succ]
        refine wp_goto (pc := 44) (tgt := 4) dX3_visited_44 (by decide) ?_
        rotate_left
        refine wp_iconst (pc := 31) (v := nI 0) dX3_visited_31 rfl ?_
        refine wp_goto (pc := 32) (tgt := 39) dX3_visited_32 (by decide) ?_
        first | (with_reducible show WP _ _ _ _ _ _ (Value.int (nI _) :: Value.int (nI _) :: _) _; refine wp_iorN (pc := 39) dX3_visited_39 ?_) | refine wp_ior (pc := 39) dX3_visited_39 ?_
        refine wp_istore_n (pc := 40) (i := 2) dX3_visited_40 rfl rfl (by decide) rfl ?_
        dsimp only [List.set_cons_zero, List.set_cons_succ]
        first | refine wp_iincN (pc := 41) (i := 3) (n := 1) dX3_visited_41 rfl rfl (by decide) rfl ?_ | refine wp_iinc (pc := 41) (i := 3) dX3_visited_41 rfl rfl rfl (by decide) rfl ?_
        dsimp only [List.set_cons_zero, List.set_cons_succ]
        refine wp_goto (pc := 44) (tgt := 4) dX3_visited_44 (by decide) ?_
        rotate_left
        · exact absurd him (by omega)
        · exact absurd rfl c28
        · exact nx _
      · have hc := wt_lt p0 ho
        rw [vb_some ho] at nx
        refine wp_iload_n (pc := 4) (i := 3) dX3_visited_4 rfl rfl ?_
        refine wp_aload_n (pc := 5) (i := 0) dX3_visited_5 rfl rfl ?_
        refine wp_gfv (pc := 6) fk_X3_49 dX3_visited_6 rfl rfl (by first | with_reducible assumption | with_reducible exact hs_same _ _ _ _ | rfl) ?_
        first | (with_reducible show WP _ _ _ _ _ _ (Value.int (nI _) :: Value.int (nI _) :: _) _; refine wp_icmp_geN (pc := 9) (tgt := 47) dX3_visited_9 (by decide) (by omega) (by omega) (fun c9 => ?_) (fun c9 => ?_)) | refine wp_icmp_ge (pc := 9) (tgt := 47) dX3_visited_9 (by decide) (fun c9 => ?_) (fun c9 => ?_)
        rotate_left
        refine wp_aload_n (pc := 12) (i := 0) dX3_visited_12 rfl rfl ?_
        refine wp_gfr (pc := 13) fk_X3_12 dX3_visited_13 rfl rfl (by decide) ?_
        refine wp_iload_n (pc := 16) (i := 1) dX3_visited_16 rfl rfl ?_
        refine wp_iload_n (pc := 17) (i := 3) dX3_visited_17 rfl rfl ?_
        refine wp_cV2i (pc := 18) lk_X3_76 dX3_visited_18 rfl rfl rfl (sp_hostS isT_100 hW hO hg (by omega) ho ?_)
        refine wp_istore (pc := 21) (i := 4) dX3_visited_21 rfl (by decide) rfl ?_
        dsimp only [List.set_cons_zero, List.set_cons_succ]
        refine wp_iload_n (pc := 23) (i := 2) dX3_visited_23 rfl rfl ?_
        refine wp_iload (pc := 24) (i := 4) dX3_visited_24 rfl ?_
        refine wp_ldc (pc := 26) kn_X3_62 dX3_visited_26 ?_
        first | (with_reducible show WP _ _ _ _ _ _ (Value.int (nI _) :: Value.int (nI _) :: _) _; refine wp_icmp_neN (pc := 28) (tgt := 35) dX3_visited_28 (by decide) (by omega) (by omega) (fun c28 => ?_) (fun c28 => ?_)) | refine wp_icmp_ne (pc := 28) (tgt := 35) dX3_visited_28 (by decide) (fun c28 => ?_) (fun c28 => ?_)
        refine wp_iconst (pc := 35) (v := nI 1) dX3_visited_35 rfl ?_
        refine wp_iload (pc := 36) (i := 4) dX3_visited_36 rfl ?_
        first | (with_reducible show WP _ _ _ _ _ _ (Value.int (nI _) :: Value.int (nI _) :: _) _; refine wp_ishlN (pc := 38) dX3_visited_38 (by omega) ?_) | refine wp_ishl (pc := 38) dX3_visited_38 ?_
        first | (with_reducible show WP _ _ _ _ _ _ (Value.int (nI _) :: Value.int (nI _) :: _) _; refine wp_iorN (pc := 39) dX3_visited_39 ?_) | refine wp_ior (pc := 39) dX3_visited_39 ?_
        refine wp_istore_n (pc := 40) (i := 2) dX3_visited_40 rfl rfl (by decide) rfl ?_
        dsimp only [List.set_cons_zero, List.set_cons_succ]
        first | refine wp_iincN (pc := 41) (i := 3) (n := 1) dX3_visited_41 rfl rfl (by decide) rfl ?_ | refine wp_iinc (pc := 41) (i := 3) dX3_visited_41 rfl rfl rfl (by decide) rfl ?_
        dsimp only [List.set_cons_zero, List.set_cons_succ]
        refine wp_goto (pc := 44) (tgt := 4) dX3_visited_44 (by decide) ?_
        rotate_left
        refine wp_iconst (pc := 31) (v := nI 0) dX3_visited_31 rfl ?_
        refine wp_goto (pc := 32) (tgt := 39) dX3_visited_32 (by decide) ?_
        first | (with_reducible show WP _ _ _ _ _ _ (Value.int (nI _) :: Value.int (nI _) :: _) _; refine wp_iorN (pc := 39) dX3_visited_39 ?_) | refine wp_ior (pc := 39) dX3_visited_39 ?_
        refine wp_istore_n (pc := 40) (i := 2) dX3_visited_40 rfl rfl (by decide) rfl ?_
        dsimp only [List.set_cons_zero, List.set_cons_succ]
        first | refine wp_iincN (pc := 41) (i := 3) (n := 1) dX3_visited_41 rfl rfl (by decide) rfl ?_ | refine wp_iinc (pc := 41) (i := 3) dX3_visited_41 rfl rfl rfl (by decide) rfl ?_
        dsimp only [List.set_cons_zero, List.set_cons_succ]
        refine wp_goto (pc := 44) (tgt := 4) dX3_visited_44 (by decide) ?_
        rotate_left
        · exact absurd him (by omega)
        · exact nx _
        · exact absurd c28 (nI_none (by omega))
  refine wp_iconst (pc := 0) (v := nI 0) dX3_visited_0 rfl ?_
  refine wp_istore_n (pc := 1) (i := 2) dX3_visited_1 rfl rfl (by decide) rfl ?_
  dsimp only [List.set_cons_zero, List.set_cons_succ]
  refine wp_iconst (pc := 2) (v := nI 0) dX3_visited_2 rfl ?_
  refine wp_istore_n (pc := 3) (i := 3) dX3_visited_3 rfl rfl (by decide) rfl ?_
  dsimp only [List.set_cons_zero, List.set_cons_succ]
  rotate_left
  exact loop sp 0 (by omega) _
/-- the searcher's own rows alone change, and its town -/
def FN (h h' : Hp) : Prop := ∀ a, a < 86 ∨ (88 < a ∧ a < 100) ∨ 111 < a → h' a = h a
theorem FN.rf (h : Hp) : FN h h := fun _ _ => rfl
theorem FN.tr {h1 h2 : Hp} (a : FN h h1) (b : FN h1 h2) : FN h h2 := fun q e => (b q e).trans (a q e)
theorem FN.hs {h1 : Hp} {a k : Nat} {v : Int32} (f : FN h h1) (ha : (100 ≤ a ∧ a ≤ 111) ∨ (86 ≤ a ∧ a ≤ 88)) : FN h (hs h1 a k v) := fun q e => (hs_ne (by omega)).trans (f q e)
theorem TW.up2 {h1 : Hp} {g v u : Nat} (hW : TW h1 100 (up T (32 + g) u)) (hO : OKT T) (hg : g < T 1) (hu : u < T 0) : TW (hs h1 106 g (nI v)) 100 (up T (32 + g) v) := by
  have := hW.fir (v := v) (okt_fir hO hg hu) (g := g) (by rw [up_ne (by omega)]; exact hg)
  rw [up_up] at this
  exact this
theorem sp_noteReach {sp : Nat} {K : Hp → Prop} (hW : TW h 100 T) (hO : OKT T) (h0 : 0 < T 1) (hs' : h 85 5 = nI sp) (hsp : sp ≤ 100) (k : ∀ h', TW h' 100 T → FN h h' → (∀ j, j < T 1 → h' 86 j = nI (T (32 + j))) → (∀ j c, j < T 1 → c < T 0 → h' 87 (j * 5 + c) = nI (vb (up T (32 + j) c) j sp)) → (∀ j, j ≤ T 1 → h' 88 j = nI (rfF T sp (T 1 - j))) → K h') : Call G (d + 2) mX3_noteReach [.ref 85] h (pV K) := by
  obtain ⟨o0, o1, o2, o3, o4, o5, o6, o7, o8⟩ := id hO
  have p0 := (o5 h0).1
  obtain ⟨r0, r1, r2, r3, r4, r5, r6, r7, r8, r9, r10, r11, r12, r13⟩ := id hW
  have r5 : ∀ q, q < T 0 → h 101 q = nI (T (5 + q)) := r5
  have r6 : ∀ q, q < T 0 → h 102 q = nI (T (10 + q)) := r6
  have r7 : ∀ q, q < T 0 → h 103 q = nI (T (15 + q)) := r7
  have r8 : ∀ q, q < T 1 → h 104 q = nI (T (20 + q)) := r8
  have r9 : ∀ q, q < T 1 → h 105 q = nI (T (26 + q)) := r9
  have r10 : ∀ q, q < T 1 → h 106 q = nI (T (32 + q)) := r10
  have r11 : ∀ q, q < T 1 → h 107 q = nI (T (38 + q)) := r11
  have r12 : ∀ q, q < T 1 → h 108 q = nI (T (44 + q)) := r12
  have r13 : ∀ q, q < T 1 → h 109 q = nI (T (50 + q)) := r13
  refine Call.of (M := mX3_noteReach) (n := 2) (by decide +kernel) rfl ?_
  show WP _ _ _ _ 0 [some (.ref 85), none, none] [] _
  have loop : ∀ m h1, m ≤ T 1 → TW h1 100 T → FN h h1 → (∀ j, m ≤ j → j < T 1 → h1 86 j = nI (T (32 + j))) → (∀ j c, m ≤ j → j < T 1 → c < T 0 → h1 87 (j * 5 + c) = nI (vb (up T (32 + j) c) j sp)) → (∀ j, m ≤ j → j ≤ T 1 → h1 88 j = nI (rfF T sp (T 1 - j))) → ∀ L2, WP G (d + 2) mX3_noteReach (pV K) 23 [some (.ref 85), some (.int (dcI m)), L2] [] h1 := by
    intro m
    induction m with
    | zero =>
      intro h1 _ hW1 hF1 q1 q2 q3 L2
      show WP G (d + 2) mX3_noteReach (pV K) 23 [some (.ref 85), some (.int kM1), L2] [] h1
      refine wp_iload_n (pc := 23) (i := 1) dX3_noteReach_23 rfl rfl ?_
      first | (with_reducible show WP _ _ _ _ _ _ (Value.int (nI _) :: _) _; refine wp_if_ltN (pc := 24) (tgt := 140) dX3_noteReach_24 (by decide) (by omega) (fun c24 => ?_) (fun c24 => ?_)) | refine wp_if_lt (pc := 24) (tgt := 140) dX3_noteReach_24 (by decide) (fun c24 => ?_) (fun c24 => ?_)
      refine wp_vret (pc := 140) dX3_noteReach_140 rfl ?_
      rotate_left
      rotate_left
      · exact k h1 hW1 hF1 (fun j hj => q1 j (by omega) hj) (fun j c hj hc => q2 j c (by omega) hj hc) (fun j hj => q3 j (by omega) hj)
      · exact absurd (by decide) c24
    | succ m ih =>
      intro h1 hm hW1 hF1 q1 q2 q3 L2
      show WP G (d + 2) mX3_noteReach (pV K) 23 [some (.ref 85), some (.int (nI m)), L2] [] h1
      have hm1 : m < T 1 := by omega
      obtain ⟨t0, t1, t2, t3, t4, t5, t6, t7, t8, t9, t10, t11, t12, t13⟩ := id hW1
      have t5 : ∀ q, q < T 0 → h1 101 q = nI (T (5 + q)) := t5
      have t6 : ∀ q, q < T 0 → h1 102 q = nI (T (10 + q)) := t6
      have t7 : ∀ q, q < T 0 → h1 103 q = nI (T (15 + q)) := t7
      have t8 : ∀ q, q < T 1 → h1 104 q = nI (T (20 + q)) := t8
      have t9 : ∀ q, q < T 1 → h1 105 q = nI (T (26 + q)) := t9
      have t10 : ∀ q, q < T 1 → h1 106 q = nI (T (32 + q)) := t10
      have t11 : ∀ q, q < T 1 → h1 107 q = nI (T (38 + q)) := t11
      have t12 : ∀ q, q < T 1 → h1 108 q = nI (T (44 + q)) := t12
      have t13 : ∀ q, q < T 1 → h1 109 q = nI (T (50 + q)) := t13
      have tf := t10 m hm1
      have q4 := q3 (m + 1) (by omega) (by omega)
      refine wp_iload_n (pc := 23) (i := 1) dX3_noteReach_23 rfl rfl ?_
      first | (with_reducible show WP _ _ _ _ _ _ (Value.int (nI _) :: _) _; refine wp_if_ltN (pc := 24) (tgt := 140) dX3_noteReach_24 (by decide) (by omega) (fun c24 => ?_) (fun c24 => ?_)) | refine wp_if_lt (pc := 24) (tgt := 140) dX3_noteReach_24 (by decide) (fun c24 => ?_) (fun c24 => ?_)
      rotate_left
      refine wp_aload_n (pc := 27) (i := 0) dX3_noteReach_27 rfl rfl ?_
      refine wp_gfr (pc := 28) fk_X3_18 dX3_noteReach_28 rfl rfl (by decide) ?_
      refine wp_iload_n (pc := 31) (i := 1) dX3_noteReach_31 rfl rfl ?_
      refine wp_aload_n (pc := 32) (i := 0) dX3_noteReach_32 rfl rfl ?_
      refine wp_gfr (pc := 33) fk_X3_12 dX3_noteReach_33 rfl rfl (by decide) ?_
      refine wp_gfr (pc := 36) fk_X3_69 dX3_noteReach_36 rfl rfl (by decide) ?_
      refine wp_iload_n (pc := 39) (i := 1) dX3_noteReach_39 rfl rfl ?_
      first | (with_reducible show WP _ _ _ _ _ _ (Value.int (nI _) :: _) _; refine wp_ialdN (pc := 40) dX3_noteReach_40 rfl (by omega) (by first | with_reducible assumption | with_reducible exact hs_same _ _ _ _ | rfl) ?_) | refine wp_iald (pc := 40) dX3_noteReach_40 rfl (by assumption) rfl ?_
      first | (with_reducible show WP _ _ _ _ _ _ (_ :: Value.int (nI _) :: _) _; refine wp_iastN (pc := 41) dX3_noteReach_41 rfl (by omega) ?_) | refine wp_iast (pc := 41) dX3_noteReach_41 rfl (by assumption) rfl ?_
      rotate_left
      · exact absurd c24 (by omega)
      have q4' : hs h1 86 m (nI (T (32 + m))) 88 (m + 1) = nI (rfF T sp (T 1 - (m + 1))) := by rw [hs_ne (by decide)]; exact q4
      refine wp_aload_n (pc := 42) (i := 0) dX3_noteReach_42 rfl rfl ?_
      refine wp_gfr (pc := 43) fk_X3_25 dX3_noteReach_43 rfl rfl (by decide) ?_
      refine wp_iload_n (pc := 46) (i := 1) dX3_noteReach_46 rfl rfl ?_
      refine wp_aload_n (pc := 47) (i := 0) dX3_noteReach_47 rfl rfl ?_
      refine wp_gfr (pc := 48) fk_X3_25 dX3_noteReach_48 rfl rfl (by decide) ?_
      refine wp_iload_n (pc := 51) (i := 1) dX3_noteReach_51 rfl rfl ?_
      refine wp_iconst (pc := 52) (v := nI 1) dX3_noteReach_52 rfl ?_
      first | (with_reducible show WP _ _ _ _ _ _ (Value.int (nI _) :: Value.int (nI _) :: _) _; refine wp_iaddN (pc := 53) dX3_noteReach_53 ?_) | refine wp_iadd (pc := 53) dX3_noteReach_53 ?_
      first | (with_reducible show WP _ _ _ _ _ _ (Value.int (nI _) :: _) _; refine wp_ialdN (pc := 54) dX3_noteReach_54 rfl (by omega) (by first | with_reducible assumption | with_reducible exact hs_same _ _ _ _ | rfl) ?_) | refine wp_iald (pc := 54) dX3_noteReach_54 rfl (by assumption) rfl ?_
      first | (with_reducible show WP _ _ _ _ _ _ (_ :: Value.int (nI _) :: _) _; refine wp_iastN (pc := 55) dX3_noteReach_55 rfl (by omega) ?_) | refine wp_iast (pc := 55) dX3_noteReach_55 rfl (by assumption) rfl ?_
      refine wp_iconst (pc := 56) (v := nI 0) dX3_noteReach_56 rfl ?_
      refine wp_istore_n (pc := 57) (i := 2) dX3_noteReach_57 rfl rfl (by decide) rfl ?_
      dsimp only [List.set_cons_zero, List.set_cons_succ]
      rotate_left
      have inner : ∀ n c h2, c + n = T 0 → (∃ u, u < T 0 ∧ TW h2 100 (up T (32 + m) u)) → FN h h2 → (∀ j, m ≤ j → j < T 1 → h2 86 j = nI (T (32 + j))) → (∀ j c, m + 1 ≤ j → j < T 1 → c < T 0 → h2 87 (j * 5 + c) = nI (vb (up T (32 + j) c) j sp)) → (∀ c', c' < c → h2 87 (m * 5 + c') = nI (vb (up T (32 + m) c') m sp)) → (∀ j, m + 1 ≤ j → j ≤ T 1 → h2 88 j = nI (rfF T sp (T 1 - j))) → h2 88 m = nI (rfC T sp m (rfF T sp (T 1 - (m + 1))) c) → WP G (d + 2) mX3_noteReach (pV K) 58 [some (.ref 85), some (.int (nI m)), some (.int (nI c))] [] h2 := by
        intro n
        induction n with
        | zero =>
          intro c h2 hcn hu hF2 a1 a2 a3 a4 a5
          obtain ⟨u, hu, hW2⟩ := hu
          have hc : c = T 0 := by omega
          subst hc
          have e2 : h2 100 2 = nI (T 0) := by have := hW2.2.2.1; rwa [up_ne (by omega)] at this
          have ew := a1 m (by omega) hm1
          refine wp_iload_n (pc := 58) (i := 2) dX3_noteReach_58 rfl rfl ?_
          refine wp_aload_n (pc := 59) (i := 0) dX3_noteReach_59 rfl rfl ?_
          refine wp_gfr (pc := 60) fk_X3_12 dX3_noteReach_60 rfl rfl (by decide) ?_
          refine wp_gfv (pc := 63) fk_X3_40 dX3_noteReach_63 rfl rfl (by first | with_reducible assumption | with_reducible exact hs_same _ _ _ _ | rfl) ?_
          first | (with_reducible show WP _ _ _ _ _ _ (Value.int (nI _) :: Value.int (nI _) :: _) _; refine wp_icmp_geN (pc := 66) (tgt := 119) dX3_noteReach_66 (by decide) (by omega) (by omega) (fun c66 => ?_) (fun c66 => ?_)) | refine wp_icmp_ge (pc := 66) (tgt := 119) dX3_noteReach_66 (by decide) (fun c66 => ?_) (fun c66 => ?_)
          refine wp_aload_n (pc := 119) (i := 0) dX3_noteReach_119 rfl rfl ?_
          refine wp_gfr (pc := 120) fk_X3_12 dX3_noteReach_120 rfl rfl (by decide) ?_
          refine wp_gfr (pc := 123) fk_X3_69 dX3_noteReach_123 rfl rfl (by decide) ?_
          refine wp_iload_n (pc := 126) (i := 1) dX3_noteReach_126 rfl rfl ?_
          refine wp_aload_n (pc := 127) (i := 0) dX3_noteReach_127 rfl rfl ?_
          refine wp_gfr (pc := 128) fk_X3_18 dX3_noteReach_128 rfl rfl (by decide) ?_
          refine wp_iload_n (pc := 131) (i := 1) dX3_noteReach_131 rfl rfl ?_
          first | (with_reducible show WP _ _ _ _ _ _ (Value.int (nI _) :: _) _; refine wp_ialdN (pc := 132) dX3_noteReach_132 rfl (by omega) (by first | with_reducible assumption | with_reducible exact hs_same _ _ _ _ | rfl) ?_) | refine wp_iald (pc := 132) dX3_noteReach_132 rfl (by assumption) rfl ?_
          first | (with_reducible show WP _ _ _ _ _ _ (_ :: Value.int (nI _) :: _) _; refine wp_iastN (pc := 133) dX3_noteReach_133 rfl (by omega) ?_) | refine wp_iast (pc := 133) dX3_noteReach_133 rfl (by assumption) rfl ?_
          rotate_left
          rotate_left
          · have wb := hW2.up2 (v := T (32 + m)) hO hm1 hu
            rw [up_self] at wb
            refine wp_iinc (pc := 134) (i := 1) dX3_noteReach_134 rfl (dcI_s m) rfl (by decide) rfl ?_
            dsimp only [List.set_cons_zero, List.set_cons_succ]
            refine wp_goto (pc := 137) (tgt := 23) dX3_noteReach_137 (by decide) ?_
            rotate_left
            have nx := ih (hs h2 106 m (nI (T (32 + m)))) (by omega) wb (hF2.hs (by omega)) (fun j j1 j2 => by rw [hs_ne (by decide)]; exact a1 j j1 j2) (fun j c j1 j2 hc => by
              rw [hs_ne (by decide)]
              by_cases y : j = m
              · subst y; exact a3 c hc
              · exact a2 j c (by omega) j2 hc) (fun j j1 j2 => by
              rw [hs_ne (by decide)]
              by_cases y : j = m
              · subst y
                rw [a5, show T 1 - j = (T 1 - (j + 1)) + 1 by omega, rfF, show T 1 - (T 1 - (j + 1) + 1) = j by omega]
              · exact a4 j (by omega) j2)
            exact nx _
          · exact absurd hcn (by omega)
        | succ n ihn =>
          intro c h2 hcn hu hF2 a1 a2 a3 a4 a5
          obtain ⟨u, hu, hW2⟩ := hu
          have hc : c < T 0 := by omega
          have e2 : h2 100 2 = nI (T 0) := by have := hW2.2.2.1; rwa [up_ne (by omega)] at this
          refine wp_iload_n (pc := 58) (i := 2) dX3_noteReach_58 rfl rfl ?_
          refine wp_aload_n (pc := 59) (i := 0) dX3_noteReach_59 rfl rfl ?_
          refine wp_gfr (pc := 60) fk_X3_12 dX3_noteReach_60 rfl rfl (by decide) ?_
          refine wp_gfv (pc := 63) fk_X3_40 dX3_noteReach_63 rfl rfl (by first | with_reducible assumption | with_reducible exact hs_same _ _ _ _ | rfl) ?_
          first | (with_reducible show WP _ _ _ _ _ _ (Value.int (nI _) :: Value.int (nI _) :: _) _; refine wp_icmp_geN (pc := 66) (tgt := 119) dX3_noteReach_66 (by decide) (by omega) (by omega) (fun c66 => ?_) (fun c66 => ?_)) | refine wp_icmp_ge (pc := 66) (tgt := 119) dX3_noteReach_66 (by decide) (fun c66 => ?_) (fun c66 => ?_)
          rotate_left
          refine wp_aload_n (pc := 69) (i := 0) dX3_noteReach_69 rfl rfl ?_
          refine wp_gfr (pc := 70) fk_X3_12 dX3_noteReach_70 rfl rfl (by decide) ?_
          refine wp_gfr (pc := 73) fk_X3_69 dX3_noteReach_73 rfl rfl (by decide) ?_
          refine wp_iload_n (pc := 76) (i := 1) dX3_noteReach_76 rfl rfl ?_
          refine wp_iload_n (pc := 77) (i := 2) dX3_noteReach_77 rfl rfl ?_
          first | (with_reducible show WP _ _ _ _ _ _ (_ :: Value.int (nI _) :: _) _; refine wp_iastN (pc := 78) dX3_noteReach_78 rfl (by omega) ?_) | refine wp_iast (pc := 78) dX3_noteReach_78 rfl (by assumption) rfl ?_
          rotate_left
          · exact absurd hcn (by omega)
          have w3 := hW2.up2 (v := c) hO hm1 hu
          have F3 : FN h (hs h2 106 m (nI c)) := hF2.hs (by omega)
          have b1 : ∀ j, m ≤ j → j < T 1 → hs h2 106 m (nI c) 86 j = nI (T (32 + j)) := fun j j1 j2 => by rw [hs_ne (by decide)]; exact a1 j j1 j2
          have b2 : ∀ j c', m + 1 ≤ j → j < T 1 → c' < T 0 → hs h2 106 m (nI c) 87 (j * 5 + c') = nI (vb (up T (32 + j) c') j sp) := fun j c' j1 j2 hc => by rw [hs_ne (by decide)]; exact a2 j c' j1 j2 hc
          have b3 : ∀ c', c' < c → hs h2 106 m (nI c) 87 (m * 5 + c') = nI (vb (up T (32 + m) c') m sp) := fun c' hc' => by rw [hs_ne (by decide)]; exact a3 c' hc'
          have b4 : ∀ j, m + 1 ≤ j → j ≤ T 1 → hs h2 106 m (nI c) 88 j = nI (rfF T sp (T 1 - j)) := fun j j1 j2 => by rw [hs_ne (by decide)]; exact a4 j j1 j2
          have b5 : hs h2 106 m (nI c) 88 m = nI (rfC T sp m (rfF T sp (T 1 - (m + 1))) c) := by rw [hs_ne (by decide)]; exact a5
          generalize hs h2 106 m (nI c) = h3 at *
          have s3 : h3 85 5 = nI sp := by rw [F3 85 (by omega)]; exact hs'
          have oc := okt_fir hO hm1 hc
          have vl := vb_lt (g := m) oc (by rw [up_ne (by omega)]; exact p0) sp
          refine wp_aload_n (pc := 79) (i := 0) dX3_noteReach_79 rfl rfl ?_
          refine wp_gfr (pc := 80) fk_X3_22 dX3_noteReach_80 rfl rfl (by decide) ?_
          refine wp_iload_n (pc := 83) (i := 1) dX3_noteReach_83 rfl rfl ?_
          refine wp_iconst (pc := 84) (v := nI 5) dX3_noteReach_84 rfl ?_
          first | (with_reducible show WP _ _ _ _ _ _ (Value.int (nI _) :: Value.int (nI _) :: _) _; refine wp_imulN (pc := 85) dX3_noteReach_85 ?_) | refine wp_imul (pc := 85) dX3_noteReach_85 ?_
          refine wp_iload_n (pc := 86) (i := 2) dX3_noteReach_86 rfl rfl ?_
          first | (with_reducible show WP _ _ _ _ _ _ (Value.int (nI _) :: Value.int (nI _) :: _) _; refine wp_iaddN (pc := 87) dX3_noteReach_87 ?_) | refine wp_iadd (pc := 87) dX3_noteReach_87 ?_
          refine wp_aload_n (pc := 88) (i := 0) dX3_noteReach_88 rfl rfl ?_
          refine wp_iload_n (pc := 89) (i := 1) dX3_noteReach_89 rfl rfl ?_
          refine wp_cV1i (pc := 90) lk_X3_72 dX3_noteReach_90 rfl rfl rfl (sp_visitedR w3 oc s3 (by rw [up_ne (by omega)]; exact hm1) hsp ?_)
          first | (with_reducible show WP _ _ _ _ _ _ (_ :: Value.int (nI _) :: _) _; refine wp_iastN (pc := 93) dX3_noteReach_93 rfl (by omega) ?_) | refine wp_iast (pc := 93) dX3_noteReach_93 rfl (by assumption) rfl ?_
          rotate_left
          have d1 : hs h3 87 (m * 5 + c) (nI (vb (up T (32 + m) c) m sp)) 87 (m * 5 + c) = nI (vb (up T (32 + m) c) m sp) := hs_same _ _ _ _
          have d2 : hs h3 87 (m * 5 + c) (nI (vb (up T (32 + m) c) m sp)) 88 m = nI (rfC T sp m (rfF T sp (T 1 - (m + 1))) c) := by rw [hs_ne (by decide)]; exact b5
          refine wp_aload_n (pc := 94) (i := 0) dX3_noteReach_94 rfl rfl ?_
          refine wp_gfr (pc := 95) fk_X3_25 dX3_noteReach_95 rfl rfl (by decide) ?_
          refine wp_iload_n (pc := 98) (i := 1) dX3_noteReach_98 rfl rfl ?_
          refine wp_dup2 (pc := 99) dX3_noteReach_99 rfl rfl ?_
          first | (with_reducible show WP _ _ _ _ _ _ (Value.int (nI _) :: _) _; refine wp_ialdN (pc := 100) dX3_noteReach_100 rfl (by omega) (by first | with_reducible assumption | with_reducible exact hs_same _ _ _ _ | rfl) ?_) | refine wp_iald (pc := 100) dX3_noteReach_100 rfl (by assumption) rfl ?_
          refine wp_aload_n (pc := 101) (i := 0) dX3_noteReach_101 rfl rfl ?_
          refine wp_gfr (pc := 102) fk_X3_22 dX3_noteReach_102 rfl rfl (by decide) ?_
          refine wp_iload_n (pc := 105) (i := 1) dX3_noteReach_105 rfl rfl ?_
          refine wp_iconst (pc := 106) (v := nI 5) dX3_noteReach_106 rfl ?_
          first | (with_reducible show WP _ _ _ _ _ _ (Value.int (nI _) :: Value.int (nI _) :: _) _; refine wp_imulN (pc := 107) dX3_noteReach_107 ?_) | refine wp_imul (pc := 107) dX3_noteReach_107 ?_
          refine wp_iload_n (pc := 108) (i := 2) dX3_noteReach_108 rfl rfl ?_
          first | (with_reducible show WP _ _ _ _ _ _ (Value.int (nI _) :: Value.int (nI _) :: _) _; refine wp_iaddN (pc := 109) dX3_noteReach_109 ?_) | refine wp_iadd (pc := 109) dX3_noteReach_109 ?_
          first | (with_reducible show WP _ _ _ _ _ _ (Value.int (nI _) :: _) _; refine wp_ialdN (pc := 110) dX3_noteReach_110 rfl (by omega) (by first | with_reducible assumption | with_reducible exact hs_same _ _ _ _ | rfl) ?_) | refine wp_iald (pc := 110) dX3_noteReach_110 rfl (by assumption) rfl ?_
          first | (with_reducible show WP _ _ _ _ _ _ (Value.int (nI _) :: Value.int (nI _) :: _) _; refine wp_iorN (pc := 111) dX3_noteReach_111 ?_) | refine wp_ior (pc := 111) dX3_noteReach_111 ?_
          first | (with_reducible show WP _ _ _ _ _ _ (_ :: Value.int (nI _) :: _) _; refine wp_iastN (pc := 112) dX3_noteReach_112 rfl (by omega) ?_) | refine wp_iast (pc := 112) dX3_noteReach_112 rfl (by assumption) rfl ?_
          first | refine wp_iincN (pc := 113) (i := 2) (n := 1) dX3_noteReach_113 rfl rfl (by decide) rfl ?_ | refine wp_iinc (pc := 113) (i := 2) dX3_noteReach_113 rfl rfl rfl (by decide) rfl ?_
          dsimp only [List.set_cons_zero, List.set_cons_succ]
          refine wp_goto (pc := 116) (tgt := 58) dX3_noteReach_116 (by decide) ?_
          rotate_left
          refine ihn (c + 1) _ (by omega) ⟨c, hc, ?_⟩ ((F3.hs (by omega)).hs (by omega)) (fun j j1 j2 => ?_) (fun j c' j1 j2 hc' => ?_) (fun c' hc' => ?_) (fun j j1 j2 => ?_) ?_
          · exact (w3.cg2 (fun a _ _ => hs_ne (by omega))).cg2 (fun a _ _ => hs_ne (by omega))
          · rw [hs_ne (by decide), hs_ne (by decide)]; exact b1 j j1 j2
          · rw [hs_ne (by decide), hs_ix (by omega)]; exact b2 j c' j1 j2 hc'
          · rw [hs_ne (by decide)]
            by_cases y : c' = c
            · subst y; exact d1
            · rw [hs_ix (by omega)]; exact b3 c' (by omega)
          · rw [hs_ix (by omega), hs_ne (by decide)]; exact b4 j j1 j2
          · exact hs_same _ _ _ _
      refine inner (T 0) 0 _ (by omega) ⟨T (32 + m), (o7 m hm1).2.2.1, ?_⟩ ((hF1.hs (by omega)).hs (by omega)) (fun j j1 j2 => ?_) (fun j c' j1 j2 hc' => ?_) (fun c' hc' => absurd hc' (by omega)) (fun j j1 j2 => ?_) ?_
      · rw [up_self]
        exact (hW1.cg2 (fun a _ _ => hs_ne (by omega))).cg2 (fun a _ _ => hs_ne (by omega))
      · rw [hs_ne (by decide)]
        by_cases y : j = m
        · subst y; exact hs_same _ _ _ _
        · rw [hs_ix y]; exact q1 j (by omega) j2
      · rw [hs_ne (by decide), hs_ne (by decide)]; exact q2 j c' j1 j2 hc'
      · rw [hs_ix (by omega), hs_ne (by decide)]; exact q3 j (by omega) j2
      · exact hs_same _ _ _ _
  have q0 : hs h 88 (T 1) (nI 0) 100 3 = nI (T 1) := by rw [hs_ne (by decide)]; exact r3
  refine wp_aload_n (pc := 0) (i := 0) dX3_noteReach_0 rfl rfl ?_
  refine wp_gfr (pc := 1) fk_X3_25 dX3_noteReach_1 rfl rfl (by decide) ?_
  refine wp_aload_n (pc := 4) (i := 0) dX3_noteReach_4 rfl rfl ?_
  refine wp_gfr (pc := 5) fk_X3_12 dX3_noteReach_5 rfl rfl (by decide) ?_
  refine wp_gfv (pc := 8) fk_X3_55 dX3_noteReach_8 rfl rfl (by first | with_reducible assumption | with_reducible exact hs_same _ _ _ _ | rfl) ?_
  refine wp_iconst (pc := 11) (v := nI 0) dX3_noteReach_11 rfl ?_
  first | (with_reducible show WP _ _ _ _ _ _ (_ :: Value.int (nI _) :: _) _; refine wp_iastN (pc := 12) dX3_noteReach_12 rfl (by omega) ?_) | refine wp_iast (pc := 12) dX3_noteReach_12 rfl (by assumption) rfl ?_
  refine wp_aload_n (pc := 13) (i := 0) dX3_noteReach_13 rfl rfl ?_
  refine wp_gfr (pc := 14) fk_X3_12 dX3_noteReach_14 rfl rfl (by decide) ?_
  refine wp_gfv (pc := 17) fk_X3_55 dX3_noteReach_17 rfl rfl (by first | with_reducible assumption | with_reducible exact hs_same _ _ _ _ | rfl) ?_
  refine wp_iconst (pc := 20) (v := nI 1) dX3_noteReach_20 rfl ?_
  rotate_left
  refine wp_isub (pc := 21) dX3_noteReach_21 ?_
  rw [dcI_d]
  refine wp_istore_n (pc := 22) (i := 1) dX3_noteReach_22 rfl rfl (by decide) rfl ?_
  dsimp only [List.set_cons_zero, List.set_cons_succ]
  rotate_left
  refine loop (T 1) _ (Nat.le_refl _) (hW.cg2 (fun a _ _ => hs_ne (by omega))) ((FN.rf h).hs (by omega)) (fun j j1 j2 => absurd j2 (by omega)) (fun j c j1 j2 => absurd j2 (by omega)) (fun j j1 j2 => ?_) _
  rw [show j = T 1 by omega, Nat.sub_self]; exact hs_same _ _ _ _
end DROTA
