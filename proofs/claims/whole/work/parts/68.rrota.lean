/-! the next way by its figures -/
theorem nx_a {B i : Nat} (hB : 0 < B) (h : (i + 1) % B = 0) : ∃ a, i + 1 = (a + 1) * B ∧ i / B = a := by
  obtain ⟨c, hc⟩ := Nat.dvd_of_mod_eq_zero h
  cases c with
  | zero => rw [Nat.mul_zero] at hc; omega
  | succ a =>
    rw [Nat.mul_comm] at hc
    refine ⟨a, hc, Nat.div_eq_of_lt_le ?_ ?_⟩
    · rw [Nat.succ_mul] at hc; omega
    · rw [Nat.succ_mul] at hc ⊢; omega
theorem nx_more {ch p i : Nat} (h0 : 0 < ch) (h : (i + 1) % ch ^ p = 0) (hd : i / ch ^ p % ch = ch - 1) : (i + 1) % ch ^ (p + 1) = 0 := by
  obtain ⟨a, e1, e2⟩ := nx_a (Nat.pow_pos h0) h
  rw [e2] at hd
  have : (a + 1) % ch = 0 := by
    have := Nat.div_add_mod a ch
    rw [hd] at this
    rw [← this, show ch * (a / ch) + (ch - 1) + 1 = ch + ch * (a / ch) by omega, Nat.add_mul_mod_self_left, Nat.mod_self]
  obtain ⟨c, hc⟩ := Nat.dvd_of_mod_eq_zero this
  rw [e1, hc, Nat.pow_succ, Nat.mul_comm ch c, Nat.mul_assoc, Nat.mul_comm ch (ch ^ p), Nat.mul_mod_left]
theorem nx_low {ch p e i : Nat} (h0 : 0 < ch) (he : e < p) (h : (i + 1) % ch ^ p = 0) : (i + 1) / ch ^ e % ch = 0 := by
  obtain ⟨a, e1, e2⟩ := nx_a (Nat.pow_pos h0) h
  rw [e1, show p = (p - e - 1) + 1 + e by omega, Nat.pow_add, ← Nat.mul_assoc, Nat.mul_div_cancel _ (Nat.pow_pos h0), Nat.pow_succ, ← Nat.mul_assoc, Nat.mul_mod_left]
theorem nx_at {ch p i : Nat} (h0 : 0 < ch) (h : (i + 1) % ch ^ p = 0) (hd : ¬ i / ch ^ p % ch = ch - 1) : (i + 1) / ch ^ p % ch = i / ch ^ p % ch + 1 := by
  obtain ⟨a, e1, e2⟩ := nx_a (Nat.pow_pos h0) h
  rw [e2] at hd ⊢
  rw [e1, Nat.mul_div_cancel _ (Nat.pow_pos h0)]
  have m := Nat.mod_lt a h0
  have dm := Nat.div_add_mod a ch
  have : a + 1 = (a % ch + 1) + ch * (a / ch) := by omega
  rw [this, Nat.add_mul_mod_self_left]
  exact Nat.mod_eq_of_lt (by omega)
theorem nx_high {ch p e i : Nat} (h0 : 0 < ch) (he : p < e) (h : (i + 1) % ch ^ p = 0) (hd : ¬ i / ch ^ p % ch = ch - 1) : (i + 1) / ch ^ e = i / ch ^ e := by
  obtain ⟨a, e1, e2⟩ := nx_a (Nat.pow_pos h0) h
  have s : ch ^ e = ch ^ p * (ch * ch ^ (e - p - 1)) := by
    rw [← Nat.mul_assoc, ← Nat.pow_succ, ← Nat.pow_add, show p.succ + (e - p - 1) = e by omega]
  rw [s, ← Nat.div_div_eq_div_mul, ← Nat.div_div_eq_div_mul, ← Nat.div_div_eq_div_mul, ← Nat.div_div_eq_div_mul, e1, Nat.mul_div_cancel _ (Nat.pow_pos h0)]
  rw [e2] at hd ⊢
  have m := Nat.mod_lt a h0
  have dm := Nat.div_add_mod a ch
  have : (a + 1) / ch = a / ch := Nat.div_eq_of_lt_le (by rw [Nat.mul_comm]; omega) (by rw [Nat.succ_mul, Nat.mul_comm]; omega)
  rw [this]
theorem nx_end {ch p g i : Nat} (h0 : 0 < ch) (hp : p < g) (h : (i + 1) % ch ^ p = 0) (hd : ¬ i / ch ^ p % ch = ch - 1) : i + 1 ≠ ch ^ g := fun q => by
  have a := nx_at h0 h hd
  have b := nx_low h0 hp (show (i + 1) % ch ^ g = 0 by rw [q, Nat.mod_self])
  omega
def frm (T : Tn) (i g : Nat) : Tn := fun j => if 32 ≤ j ∧ j < 32 + g then pd (T 0) i (T 1) (j - 32) else T j
theorem frm_0 (T : Tn) (i : Nat) : frm T i 0 = T := funext fun j => if_neg (by omega)
theorem frm_end (T : Tn) (i : Nat) : frm T i (T 1) = pre T i (T 1) := rfl
theorem frm_succ (T : Tn) (i g : Nat) : frm T i (g + 1) = up (frm T i g) (32 + g) (pd (T 0) i (T 1) g) := funext fun j => by
  by_cases e : j = 32 + g
  · subst e
    rw [up_same]
    show (if 32 ≤ 32 + g ∧ 32 + g < 32 + (g + 1) then _ else _) = _
    rw [if_pos (by omega), show 32 + g - 32 = g by omega]
  · rw [up_ne e]
    by_cases q : 32 ≤ j ∧ j < 32 + g
    · show (if 32 ≤ j ∧ j < 32 + (g + 1) then _ else _) = if 32 ≤ j ∧ j < 32 + g then _ else _
      rw [if_pos q, if_pos (by omega)]
    · show (if 32 ≤ j ∧ j < 32 + (g + 1) then _ else _) = if 32 ≤ j ∧ j < 32 + g then _ else _
      rw [if_neg q, if_neg (by omega)]
def fw : Option (Nat × Nat) → Nat
  | none => 7
  | some (c, _) => c
theorem bf_no {T : Tn} {w n i : Nat} (h1 : T 1 ≤ 6) (h : fw (bf T w n i) ≤ chg T 0 i ∨ srv T w n i = false) : bf T w n (i + 1) = bf T w n i := by
  have := chg_le T 0 i
  show (match bf T w n i with | none => if srv T w n i then some (chg T 0 i, i) else none | some (c, b) => if chg T 0 i < c && srv T w n i then some (chg T 0 i, i) else some (c, b)) = _
  rcases q : bf T w n i with _ | ⟨c, b⟩
  · rw [q] at h
    rcases h with h | h
    · have h : 7 ≤ chg T 0 i := h
      omega
    · rw [h]; rfl
  · rw [q] at h
    rcases h with h | h
    · have h : c ≤ chg T 0 i := h
      show (if (decide (chg T 0 i < c) && srv T w n i) = true then some (chg T 0 i, i) else some (c, b)) = _
      rw [decide_eq_false (by omega)]; rfl
    · show (if (decide (chg T 0 i < c) && srv T w n i) = true then some (chg T 0 i, i) else some (c, b)) = _
      rw [h, Bool.and_false]; rfl
theorem bf_yes {T : Tn} {w n i : Nat} (h : chg T 0 i < fw (bf T w n i)) (hs : srv T w n i = true) : bf T w n (i + 1) = some (chg T 0 i, i) := by
  show (match bf T w n i with | none => if srv T w n i then some (chg T 0 i, i) else none | some (c, b) => if chg T 0 i < c && srv T w n i then some (chg T 0 i, i) else some (c, b)) = _
  rcases q : bf T w n i with _ | ⟨c, b⟩
  · rw [hs]; rfl
  · rw [q] at h
    have h : chg T 0 i < c := h
    show (if (decide (chg T 0 i < c) && srv T w n i) = true then some (chg T 0 i, i) else some (c, b)) = _
    rw [hs, decide_eq_true h]; rfl
theorem fw_le {T : Tn} {w n : Nat} (h1 : T 1 ≤ 6) : ∀ i, fw (bf T w n i) ≤ 7 := fun i => by
  rcases q : bf T w n i with _ | ⟨c, b⟩
  · exact Nat.le_refl _
  · have := (bf_some _ c b q).2.2.1
    have := chg_le T 0 b
    show c ≤ 7; omega
section RROTA
variable {G : Gt} {d : Nat} {h : Hp} {T : Tn}
theorem sp7_changes {i : Nat} {K : Int32 → Hp → Prop} (hR : RW h 0 T) (hO : OKT T) (h0 : 0 < T 0) (hq : ∀ g, g < T 1 → h 97 g = nI (pd (T 0) i (T 1) g)) (k : K (nI (chg T 0 i)) h) : Call G d mX7_changes [.ref 89] h (pI K) := by
  obtain ⟨o0, o1, o2, o3, o4, o5, o6, o7, o8⟩ := id hO
  have e1 : h 90 1 = nI (T 1) := hR 1 (by omega)
  refine Call.of (M := mX7_changes) (n := 2) (by decide +kernel) rfl ?_
  show WP _ _ _ _ 0 [some (.ref 89), none, none] [] _
  have loop : ∀ m g, g + m = T 1 → WP G d mX7_changes (pI K) 4 [some (.ref 89), some (.int (nI (smU (fun j => cst T i (0 + j)) g))), some (.int (nI g))] [] h := by
    intro m
    induction m with
    | zero =>
      intro g hgm
      refine wp_iload_n (pc := 4) (i := 2) dX7_changes_4 rfl rfl ?_
      refine wp_aload_n (pc := 5) (i := 0) dX7_changes_5 rfl rfl ?_
      refine wp_gfr (pc := 6) fk_X7_7 dX7_changes_6 rfl rfl (by decide) ?_
      refine wp_iconst (pc := 9) (v := nI 1) dX7_changes_9 rfl ?_
      first | (with_reducible show WP _ _ _ _ _ _ (Value.int (nI _) :: _) _; refine wp_ialdN (pc := 10) dX7_changes_10 rfl (by omega) (by first | with_reducible assumption | with_reducible exact hs_same _ _ _ _ | rfl) ?_) | refine wp_iald (pc := 10) dX7_changes_10 rfl (by assumption) rfl ?_
      first | (with_reducible show WP _ _ _ _ _ _ (Value.int (nI _) :: Value.int (nI _) :: _) _; refine wp_icmp_geN (pc := 11) (tgt := 46) dX7_changes_11 (by decide) (by omega) (by omega) (fun c11 => ?_) (fun c11 => ?_)) | refine wp_icmp_ge (pc := 11) (tgt := 46) dX7_changes_11 (by decide) (fun c11 => ?_) (fun c11 => ?_)
      refine wp_iload_n (pc := 46) (i := 1) dX7_changes_46 rfl rfl ?_
      refine wp_iret (pc := 47) dX7_changes_47 rfl ?_
      rotate_left
      rotate_left
      · rw [chg, Nat.sub_zero, show T 1 = g by omega] at k; exact k
      · exact absurd hgm (by omega)
    | succ m ih =>
      intro g hgm
      have nx := ih (g + 1) (by omega)
      rw [show smU (fun j => cst T i (0 + j)) (g + 1) = smU (fun j => cst T i (0 + j)) g + cst T i (0 + g) from rfl, Nat.zero_add] at nx
      have eq := hq g (by omega)
      have ef : h 90 (32 + g) = nI (T (32 + g)) := by have := hR (32 + g) (by omega); rwa [Nat.zero_add] at this
      have b1 := (o7 g (by omega)).2.2.1
      have b2 := pd_lt (ch := T 0) (q := i) (g := T 1) (j := g) h0
      refine wp_iload_n (pc := 4) (i := 2) dX7_changes_4 rfl rfl ?_
      refine wp_aload_n (pc := 5) (i := 0) dX7_changes_5 rfl rfl ?_
      refine wp_gfr (pc := 6) fk_X7_7 dX7_changes_6 rfl rfl (by decide) ?_
      refine wp_iconst (pc := 9) (v := nI 1) dX7_changes_9 rfl ?_
      first | (with_reducible show WP _ _ _ _ _ _ (Value.int (nI _) :: _) _; refine wp_ialdN (pc := 10) dX7_changes_10 rfl (by omega) (by first | with_reducible assumption | with_reducible exact hs_same _ _ _ _ | rfl) ?_) | refine wp_iald (pc := 10) dX7_changes_10 rfl (by assumption) rfl ?_
      first | (with_reducible show WP _ _ _ _ _ _ (Value.int (nI _) :: Value.int (nI _) :: _) _; refine wp_icmp_geN (pc := 11) (tgt := 46) dX7_changes_11 (by decide) (by omega) (by omega) (fun c11 => ?_) (fun c11 => ?_)) | refine wp_icmp_ge (pc := 11) (tgt := 46) dX7_changes_11 (by decide) (fun c11 => ?_) (fun c11 => ?_)
      rotate_left
      refine wp_iload_n (pc := 14) (i := 1) dX7_changes_14 rfl rfl ?_
      refine wp_aload_n (pc := 15) (i := 0) dX7_changes_15 rfl rfl ?_
      refine wp_gfr (pc := 16) fk_X7_32 dX7_changes_16 rfl rfl (by decide) ?_
      refine wp_iload_n (pc := 19) (i := 2) dX7_changes_19 rfl rfl ?_
      first | (with_reducible show WP _ _ _ _ _ _ (Value.int (nI _) :: _) _; refine wp_ialdN (pc := 20) dX7_changes_20 rfl (by omega) (by first | with_reducible assumption | with_reducible exact hs_same _ _ _ _ | rfl) ?_) | refine wp_iald (pc := 20) dX7_changes_20 rfl (by assumption) rfl ?_
      refine wp_aload_n (pc := 21) (i := 0) dX7_changes_21 rfl rfl ?_
      refine wp_gfr (pc := 22) fk_X7_7 dX7_changes_22 rfl rfl (by decide) ?_
      refine wp_bipush (pc := 25) (v := nI 32) dX7_changes_25 rfl ?_
      refine wp_iload_n (pc := 27) (i := 2) dX7_changes_27 rfl rfl ?_
      first | (with_reducible show WP _ _ _ _ _ _ (Value.int (nI _) :: Value.int (nI _) :: _) _; refine wp_iaddN (pc := 28) dX7_changes_28 ?_) | refine wp_iadd (pc := 28) dX7_changes_28 ?_
      first | (with_reducible show WP _ _ _ _ _ _ (Value.int (nI _) :: _) _; refine wp_ialdN (pc := 29) dX7_changes_29 rfl (by omega) (by first | with_reducible assumption | with_reducible exact hs_same _ _ _ _ | rfl) ?_) | refine wp_iald (pc := 29) dX7_changes_29 rfl (by assumption) rfl ?_
      first | (with_reducible show WP _ _ _ _ _ _ (Value.int (nI _) :: Value.int (nI _) :: _) _; refine wp_icmp_neN (pc := 30) (tgt := 37) dX7_changes_30 (by decide) (by omega) (by omega) (fun c30 => ?_) (fun c30 => ?_)) | refine wp_icmp_ne (pc := 30) (tgt := 37) dX7_changes_30 (by decide) (fun c30 => ?_) (fun c30 => ?_)
      refine wp_iconst (pc := 37) (v := nI 1) dX7_changes_37 rfl ?_
      first | (with_reducible show WP _ _ _ _ _ _ (Value.int (nI _) :: Value.int (nI _) :: _) _; refine wp_iaddN (pc := 38) dX7_changes_38 ?_) | refine wp_iadd (pc := 38) dX7_changes_38 ?_
      refine wp_istore_n (pc := 39) (i := 1) dX7_changes_39 rfl rfl (by decide) rfl ?_
      dsimp only [List.set_cons_zero, List.set_cons_succ]
      first | refine wp_iincN (pc := 40) (i := 2) (n := 1) dX7_changes_40 rfl rfl (by decide) rfl ?_ | refine wp_iinc (pc := 40) (i := 2) dX7_changes_40 rfl rfl rfl (by decide) rfl ?_
      dsimp only [List.set_cons_zero, List.set_cons_succ]
      refine wp_goto (pc := 43) (tgt := 4) dX7_changes_43 (by decide) ?_
      rotate_left
      refine wp_iconst (pc := 33) (v := nI 0) dX7_changes_33 rfl ?_
      refine wp_goto (pc := 34) (tgt := 38) dX7_changes_34 (by decide) ?_
      first | (with_reducible show WP _ _ _ _ _ _ (Value.int (nI _) :: Value.int (nI _) :: _) _; refine wp_iaddN (pc := 38) dX7_changes_38 ?_) | refine wp_iadd (pc := 38) dX7_changes_38 ?_
      refine wp_istore_n (pc := 39) (i := 1) dX7_changes_39 rfl rfl (by decide) rfl ?_
      dsimp only [List.set_cons_zero, List.set_cons_succ]
      first | refine wp_iincN (pc := 40) (i := 2) (n := 1) dX7_changes_40 rfl rfl (by decide) rfl ?_ | refine wp_iinc (pc := 40) (i := 2) dX7_changes_40 rfl rfl rfl (by decide) rfl ?_
      dsimp only [List.set_cons_zero, List.set_cons_succ]
      refine wp_goto (pc := 43) (tgt := 4) dX7_changes_43 (by decide) ?_
      rotate_left
      · exact absurd hgm (by omega)
      · rw [cst, if_neg c30] at nx; exact nx
      · rw [cst, if_pos c30] at nx; exact nx
  refine wp_iconst (pc := 0) (v := nI 0) dX7_changes_0 rfl ?_
  refine wp_istore_n (pc := 1) (i := 1) dX7_changes_1 rfl rfl (by decide) rfl ?_
  dsimp only [List.set_cons_zero, List.set_cons_succ]
  refine wp_iconst (pc := 2) (v := nI 0) dX7_changes_2 rfl ?_
  refine wp_istore_n (pc := 3) (i := 2) dX7_changes_3 rfl rfl (by decide) rfl ?_
  dsimp only [List.set_cons_zero, List.set_cons_succ]
  rotate_left
  exact loop (T 1) 0 (by omega)
theorem sp7_servesAll {i w n : Nat} {K : Int32 → Hp → Prop} (hR : RW h 0 T) (hO : OKT T) (h0 : 0 < T 1) (hw : w < 32) (hn : n ≤ 14) (hd : T 4 ≤ 999) (hq : ∀ g, g < T 1 → h 97 g = nI (pd (T 0) i (T 1) g)) (k : ∀ h', FB h h' 1512 → K (bI (srv T w n i)) h') : Call G (d + 5) mX7_servesAll [.ref 89, .int (nI w), .int (nI n)] h (pI K) := by
  obtain ⟨o0, o1, o2, o3, o4, o5, o6, o7, o8⟩ := id hO
  have p0 := (o5 h0).1
  refine Call.of (M := mX7_servesAll) (n := 1) (by decide +kernel) rfl ?_
  show WP _ _ _ _ 0 [some (.ref 89), some (.int (nI w)), some (.int (nI n)), none] [] _
  have loop : ∀ m g h1, g + m = T 1 → FB h h1 1512 → RW h1 1512 (frm T i g) → WP G (d + 5) mX7_servesAll (pI K) 10 [some (.ref 89), some (.int (nI w)), some (.int (nI n)), some (.int (nI g))] [] h1 := by
    intro m
    induction m with
    | zero =>
      intro g h1 hgm hF1 hR1
      have hg : g = T 1 := by omega
      subst hg
      rw [frm_end] at hR1
      have e1 : h1 90 1 = nI (T 1) := (hF1.2 1 (by omega)).trans (hR 1 (by omega))
      have p1 : pre T i (T 1) 1 = T 1 := pre_out (by omega)
      have p4 : pre T i (T 1) 4 = T 4 := pre_out (by omega)
      have pp : pre T i (T 1) 0 = T 0 := pre_out (by omega)
      have ok := okt_pre hO p0 i (Nat.le_refl (T 1))
      have sl := svs_lt ok (by rw [pp]; exact p0) n
      have sb := sbn_6 (show svs (pre T i (T 1)) n < 64 by omega) (show w < 64 by omega)
      refine wp_iload_n (pc := 10) (i := 3) dX7_servesAll_10 rfl rfl ?_
      refine wp_aload_n (pc := 11) (i := 0) dX7_servesAll_11 rfl rfl ?_
      refine wp_gfr (pc := 12) fk_X7_7 dX7_servesAll_12 rfl rfl (by decide) ?_
      refine wp_iconst (pc := 15) (v := nI 1) dX7_servesAll_15 rfl ?_
      first | (with_reducible show WP _ _ _ _ _ _ (Value.int (nI _) :: _) _; refine wp_ialdN (pc := 16) dX7_servesAll_16 rfl (by omega) (by first | with_reducible assumption | with_reducible exact hs_same _ _ _ _ | rfl) ?_) | refine wp_iald (pc := 16) dX7_servesAll_16 rfl (by assumption) rfl ?_
      first | (with_reducible show WP _ _ _ _ _ _ (Value.int (nI _) :: Value.int (nI _) :: _) _; refine wp_icmp_geN (pc := 17) (tgt := 42) dX7_servesAll_17 (by decide) (by omega) (by omega) (fun c17 => ?_) (fun c17 => ?_)) | refine wp_icmp_ge (pc := 17) (tgt := 42) dX7_servesAll_17 (by decide) (fun c17 => ?_) (fun c17 => ?_)
      refine wp_iload_n (pc := 42) (i := 1) dX7_servesAll_42 rfl rfl ?_
      refine wp_aload_n (pc := 43) (i := 0) dX7_servesAll_43 rfl rfl ?_
      refine wp_iload_n (pc := 44) (i := 2) dX7_servesAll_44 rfl rfl ?_
      refine wp_cV1i (pc := 45) lk_X7_207 dX7_servesAll_45 rfl rfl rfl (sp7_visitedTried hR1 (by rw [p1]; exact e1) ok (by omega) (by omega) (by omega) (fun h2 hF2 => ?_))
      refine wp_iconst (pc := 48) (v := kM1) dX7_servesAll_48 rfl ?_
      first | (with_reducible show WP _ _ _ _ _ _ (Value.int (nI _) :: Value.int (nI _) :: _) _; refine wp_ixorN (pc := 49) dX7_servesAll_49 ?_) | refine wp_ixor (pc := 49) dX7_servesAll_49 ?_
      rotate_left
      rotate_left
      · refine wp_iand (pc := 50) dX7_servesAll_50 ?_
        have kk := k h2 (hF1.tr hF2)
        rw [srv, sb] at kk
        refine wp_if_ne (pc := 51) (tgt := 58) dX7_servesAll_51 (by decide) (fun c51 => ?_) (fun c51 => ?_)
        · rw [decide_eq_false c51] at kk
          refine wp_iconst (pc := 58) (v := nI 0) dX7_servesAll_58 rfl ?_
          refine wp_zret (pc := 59) dX7_servesAll_59 rfl (by first | exact Or.inl rfl | exact Or.inr rfl | assumption | exact bI_01 _) ?_
          rotate_left
          exact kk
        · rw [decide_eq_true c51] at kk
          refine wp_iconst (pc := 54) (v := nI 1) dX7_servesAll_54 rfl ?_
          refine wp_goto (pc := 55) (tgt := 59) dX7_servesAll_55 (by decide) ?_
          refine wp_zret (pc := 59) dX7_servesAll_59 rfl (by first | exact Or.inl rfl | exact Or.inr rfl | assumption | exact bI_01 _) ?_
          rotate_left
          exact kk
      · exact absurd hgm (by omega)
    | succ m ih =>
      intro g h1 hgm hF1 hR1
      have e1 : h1 90 1 = nI (T 1) := (hF1.2 1 (by omega)).trans (hR 1 (by omega))
      have eq : h1 97 g = nI (pd (T 0) i (T 1) g) := by rw [hF1.1 97 (by decide)]; exact hq g (by omega)
      have w1 := RWup (v := pd (T 0) i (T 1) g) hR1 (show 32 + g < 56 by omega)
      rw [← frm_succ, ← Nat.add_assoc] at w1
      refine wp_iload_n (pc := 10) (i := 3) dX7_servesAll_10 rfl rfl ?_
      refine wp_aload_n (pc := 11) (i := 0) dX7_servesAll_11 rfl rfl ?_
      refine wp_gfr (pc := 12) fk_X7_7 dX7_servesAll_12 rfl rfl (by decide) ?_
      refine wp_iconst (pc := 15) (v := nI 1) dX7_servesAll_15 rfl ?_
      first | (with_reducible show WP _ _ _ _ _ _ (Value.int (nI _) :: _) _; refine wp_ialdN (pc := 16) dX7_servesAll_16 rfl (by omega) (by first | with_reducible assumption | with_reducible exact hs_same _ _ _ _ | rfl) ?_) | refine wp_iald (pc := 16) dX7_servesAll_16 rfl (by assumption) rfl ?_
      first | (with_reducible show WP _ _ _ _ _ _ (Value.int (nI _) :: Value.int (nI _) :: _) _; refine wp_icmp_geN (pc := 17) (tgt := 42) dX7_servesAll_17 (by decide) (by omega) (by omega) (fun c17 => ?_) (fun c17 => ?_)) | refine wp_icmp_ge (pc := 17) (tgt := 42) dX7_servesAll_17 (by decide) (fun c17 => ?_) (fun c17 => ?_)
      rotate_left
      refine wp_aload_n (pc := 20) (i := 0) dX7_servesAll_20 rfl rfl ?_
      refine wp_gfr (pc := 21) fk_X7_7 dX7_servesAll_21 rfl rfl (by decide) ?_
      refine wp_sipush (pc := 24) (v := nI 1544) dX7_servesAll_24 rfl ?_
      refine wp_iload_n (pc := 27) (i := 3) dX7_servesAll_27 rfl rfl ?_
      first | (with_reducible show WP _ _ _ _ _ _ (Value.int (nI _) :: Value.int (nI _) :: _) _; refine wp_iaddN (pc := 28) dX7_servesAll_28 ?_) | refine wp_iadd (pc := 28) dX7_servesAll_28 ?_
      refine wp_aload_n (pc := 29) (i := 0) dX7_servesAll_29 rfl rfl ?_
      refine wp_gfr (pc := 30) fk_X7_32 dX7_servesAll_30 rfl rfl (by decide) ?_
      refine wp_iload_n (pc := 33) (i := 3) dX7_servesAll_33 rfl rfl ?_
      first | (with_reducible show WP _ _ _ _ _ _ (Value.int (nI _) :: _) _; refine wp_ialdN (pc := 34) dX7_servesAll_34 rfl (by omega) (by first | with_reducible assumption | with_reducible exact hs_same _ _ _ _ | rfl) ?_) | refine wp_iald (pc := 34) dX7_servesAll_34 rfl (by assumption) rfl ?_
      first | (with_reducible show WP _ _ _ _ _ _ (_ :: Value.int (nI _) :: _) _; refine wp_iastN (pc := 35) dX7_servesAll_35 rfl (by omega) ?_) | refine wp_iast (pc := 35) dX7_servesAll_35 rfl (by assumption) rfl ?_
      first | refine wp_iincN (pc := 36) (i := 3) (n := 1) dX7_servesAll_36 rfl rfl (by decide) rfl ?_ | refine wp_iinc (pc := 36) (i := 3) dX7_servesAll_36 rfl rfl rfl (by decide) rfl ?_
      dsimp only [List.set_cons_zero, List.set_cons_succ]
      refine wp_goto (pc := 39) (tgt := 10) dX7_servesAll_39 (by decide) ?_
      rotate_left
      · exact absurd hgm (by omega)
      exact ih (g + 1) _ (by omega) (hF1.hs (by omega) (by omega)) w1
  refine wp_aload_n (pc := 0) (i := 0) dX7_servesAll_0 rfl rfl ?_
  refine wp_iconst (pc := 1) (v := nI 0) dX7_servesAll_1 rfl ?_
  refine wp_sipush (pc := 2) (v := nI 1512) dX7_servesAll_2 rfl ?_
  refine wp_cV2v (pc := 5) lk_X7_132 dX7_servesAll_5 rfl rfl rfl (sp7_copyTown hR (by omega) (by omega) (by omega) (fun h1 hR1 hF1 => ?_))
  refine wp_iconst (pc := 8) (v := nI 0) dX7_servesAll_8 rfl ?_
  refine wp_istore_n (pc := 9) (i := 3) dX7_servesAll_9 rfl rfl (by decide) rfl ?_
  dsimp only [List.set_cons_zero, List.set_cons_succ]
  rotate_left
  exact loop (T 1) 0 h1 (by omega) hF1 (by rw [frm_0]; exact hR1)
theorem sp7_nextFirsts {i : Nat} {K : Int32 → Hp → Prop} (hR : RW h 0 T) (hO : OKT T) (h0 : 0 < T 1) (hi : i < T 0 ^ T 1) (hq : ∀ g, g < T 1 → h 97 g = nI (pd (T 0) i (T 1) g))
    (k1 : ∀ h', i + 1 < T 0 ^ T 1 → (∀ g, g < T 1 → h' 97 g = nI (pd (T 0) (i + 1) (T 1) g)) → (∀ a, a ≠ 97 → h' a = h a) → K (nI 1) h') (k0 : ∀ h', i + 1 = T 0 ^ T 1 → (∀ a, a ≠ 97 → h' a = h a) → K (nI 0) h') : Call G d mX7_nextFirsts [.ref 89] h (pI K) := by
  obtain ⟨o0, o1, o2, o3, o4, o5, o6, o7, o8⟩ := id hO
  have p0 := (o5 h0).1
  have e1 : h 90 1 = nI (T 1) := hR 1 (by omega)
  have e0 : h 90 0 = nI (T 0) := hR 0 (by omega)
  refine Call.of (M := mX7_nextFirsts) (n := 1) (by decide +kernel) rfl ?_
  show WP _ _ _ _ 0 [some (.ref 89), none] [] _
  have loop : ∀ m h1, m ≤ T 1 → (∀ j, j < m → h1 97 j = nI (pd (T 0) i (T 1) j)) → (∀ j, m ≤ j → j < T 1 → h1 97 j = nI 0) → (∀ a, a ≠ 97 → h1 a = h a) → (i + 1) % T 0 ^ (T 1 - m) = 0 → WP G d mX7_nextFirsts (pI K) 9 [some (.ref 89), some (.int (dcI m))] [] h1 := by
    intro m
    induction m with
    | zero =>
      intro h1 hm a1 a2 a3 hmod
      show WP G d mX7_nextFirsts (pI K) 9 [some (.ref 89), some (.int kM1)] [] h1
      rw [Nat.sub_zero] at hmod
      have : i + 1 = T 0 ^ T 1 := by
        have := Nat.le_of_dvd (by omega) (Nat.dvd_of_mod_eq_zero hmod)
        omega
      refine wp_iload_n (pc := 9) (i := 1) dX7_nextFirsts_9 rfl rfl ?_
      first | (with_reducible show WP _ _ _ _ _ _ (Value.int (nI _) :: _) _; refine wp_if_ltN (pc := 10) (tgt := 43) dX7_nextFirsts_10 (by decide) (by omega) (fun c10 => ?_) (fun c10 => ?_)) | refine wp_if_lt (pc := 10) (tgt := 43) dX7_nextFirsts_10 (by decide) (fun c10 => ?_) (fun c10 => ?_)
      refine wp_iload_n (pc := 43) (i := 1) dX7_nextFirsts_43 rfl rfl ?_
      first | (with_reducible show WP _ _ _ _ _ _ (Value.int (nI _) :: _) _; refine wp_if_ltN (pc := 44) (tgt := 57) dX7_nextFirsts_44 (by decide) (by omega) (fun c44 => ?_) (fun c44 => ?_)) | refine wp_if_lt (pc := 44) (tgt := 57) dX7_nextFirsts_44 (by decide) (fun c44 => ?_) (fun c44 => ?_)
      refine wp_iload_n (pc := 57) (i := 1) dX7_nextFirsts_57 rfl rfl ?_
      first | (with_reducible show WP _ _ _ _ _ _ (Value.int (nI _) :: _) _; refine wp_if_ltN (pc := 58) (tgt := 65) dX7_nextFirsts_58 (by decide) (by omega) (fun c58 => ?_) (fun c58 => ?_)) | refine wp_if_lt (pc := 58) (tgt := 65) dX7_nextFirsts_58 (by decide) (fun c58 => ?_) (fun c58 => ?_)
      refine wp_iconst (pc := 65) (v := nI 0) dX7_nextFirsts_65 rfl ?_
      refine wp_zret (pc := 66) dX7_nextFirsts_66 rfl (by first | exact Or.inl rfl | exact Or.inr rfl | assumption | exact bI_01 _) ?_
      rotate_left
      rotate_left
      rotate_left
      rotate_left
      · exact k0 h1 this a3
      · exact absurd (by decide) c58
      · exact absurd (by decide) c44
      · exact absurd (by decide) c10
    | succ m ih =>
      intro h1 hm a1 a2 a3 hmod
      show WP G d mX7_nextFirsts (pI K) 9 [some (.ref 89), some (.int (nI m))] [] h1
      have hm1 : m < T 1 := by omega
      have em := a1 m (by omega)
      have z0 : h1 90 0 = nI (T 0) := by rw [a3 90 (by decide)]; exact e0
      have pl := pd_lt (ch := T 0) (q := i) (g := T 1) (j := m) p0
      have pe : pd (T 0) i (T 1) m = i / T 0 ^ (T 1 - (m + 1)) % T 0 := by unfold pd; rw [show T 1 - 1 - m = T 1 - (m + 1) by omega]
      refine wp_iload_n (pc := 9) (i := 1) dX7_nextFirsts_9 rfl rfl ?_
      first | (with_reducible show WP _ _ _ _ _ _ (Value.int (nI _) :: _) _; refine wp_if_ltN (pc := 10) (tgt := 43) dX7_nextFirsts_10 (by decide) (by omega) (fun c10 => ?_) (fun c10 => ?_)) | refine wp_if_lt (pc := 10) (tgt := 43) dX7_nextFirsts_10 (by decide) (fun c10 => ?_) (fun c10 => ?_)
      rotate_left
      refine wp_aload_n (pc := 13) (i := 0) dX7_nextFirsts_13 rfl rfl ?_
      refine wp_gfr (pc := 14) fk_X7_32 dX7_nextFirsts_14 rfl rfl (by decide) ?_
      refine wp_iload_n (pc := 17) (i := 1) dX7_nextFirsts_17 rfl rfl ?_
      first | (with_reducible show WP _ _ _ _ _ _ (Value.int (nI _) :: _) _; refine wp_ialdN (pc := 18) dX7_nextFirsts_18 rfl (by omega) (by first | with_reducible assumption | with_reducible exact hs_same _ _ _ _ | rfl) ?_) | refine wp_iald (pc := 18) dX7_nextFirsts_18 rfl (by assumption) rfl ?_
      refine wp_aload_n (pc := 19) (i := 0) dX7_nextFirsts_19 rfl rfl ?_
      refine wp_gfr (pc := 20) fk_X7_7 dX7_nextFirsts_20 rfl rfl (by decide) ?_
      refine wp_iconst (pc := 23) (v := nI 0) dX7_nextFirsts_23 rfl ?_
      first | (with_reducible show WP _ _ _ _ _ _ (Value.int (nI _) :: _) _; refine wp_ialdN (pc := 24) dX7_nextFirsts_24 rfl (by omega) (by first | with_reducible assumption | with_reducible exact hs_same _ _ _ _ | rfl) ?_) | refine wp_iald (pc := 24) dX7_nextFirsts_24 rfl (by assumption) rfl ?_
      refine wp_iconst (pc := 25) (v := nI 1) dX7_nextFirsts_25 rfl ?_
      first | (with_reducible show WP _ _ _ _ _ _ (Value.int (nI _) :: Value.int (nI _) :: _) _; refine wp_isubN (pc := 26) dX7_nextFirsts_26 (by omega) ?_) | refine wp_isub (pc := 26) dX7_nextFirsts_26 ?_
      first | (with_reducible show WP _ _ _ _ _ _ (Value.int (nI _) :: Value.int (nI _) :: _) _; refine wp_icmp_neN (pc := 27) (tgt := 43) dX7_nextFirsts_27 (by decide) (by omega) (by omega) (fun c27 => ?_) (fun c27 => ?_)) | refine wp_icmp_ne (pc := 27) (tgt := 43) dX7_nextFirsts_27 (by decide) (fun c27 => ?_) (fun c27 => ?_)
      rotate_left
      rotate_left
      · exact absurd c10 (by omega)
      · have c27 : ¬ i / T 0 ^ (T 1 - (m + 1)) % T 0 = T 0 - 1 := fun q => c27 (pe.trans q)
        have ne := nx_end p0 (show T 1 - (m + 1) < T 1 by omega) hmod c27
        refine wp_iload_n (pc := 43) (i := 1) dX7_nextFirsts_43 rfl rfl ?_
        first | (with_reducible show WP _ _ _ _ _ _ (Value.int (nI _) :: _) _; refine wp_if_ltN (pc := 44) (tgt := 57) dX7_nextFirsts_44 (by decide) (by omega) (fun c44 => ?_) (fun c44 => ?_)) | refine wp_if_lt (pc := 44) (tgt := 57) dX7_nextFirsts_44 (by decide) (fun c44 => ?_) (fun c44 => ?_)
        refine wp_iload_n (pc := 57) (i := 1) dX7_nextFirsts_57 rfl rfl ?_
        first | (with_reducible show WP _ _ _ _ _ _ (Value.int (nI _) :: _) _; refine wp_if_ltN (pc := 58) (tgt := 65) dX7_nextFirsts_58 (by decide) (by omega) (fun c58 => ?_) (fun c58 => ?_)) | refine wp_if_lt (pc := 58) (tgt := 65) dX7_nextFirsts_58 (by decide) (fun c58 => ?_) (fun c58 => ?_)
        rotate_left
        refine wp_iconst (pc := 61) (v := nI 1) dX7_nextFirsts_61 rfl ?_
        refine wp_goto (pc := 62) (tgt := 66) dX7_nextFirsts_62 (by decide) ?_
        refine wp_zret (pc := 66) dX7_nextFirsts_66 rfl (by first | exact Or.inl rfl | exact Or.inr rfl | assumption | exact bI_01 _) ?_
        rotate_left
        refine wp_aload_n (pc := 47) (i := 0) dX7_nextFirsts_47 rfl rfl ?_
        refine wp_gfr (pc := 48) fk_X7_32 dX7_nextFirsts_48 rfl rfl (by decide) ?_
        refine wp_iload_n (pc := 51) (i := 1) dX7_nextFirsts_51 rfl rfl ?_
        refine wp_dup2 (pc := 52) dX7_nextFirsts_52 rfl rfl ?_
        first | (with_reducible show WP _ _ _ _ _ _ (Value.int (nI _) :: _) _; refine wp_ialdN (pc := 53) dX7_nextFirsts_53 rfl (by omega) (by first | with_reducible assumption | with_reducible exact hs_same _ _ _ _ | rfl) ?_) | refine wp_iald (pc := 53) dX7_nextFirsts_53 rfl (by assumption) rfl ?_
        refine wp_iconst (pc := 54) (v := nI 1) dX7_nextFirsts_54 rfl ?_
        first | (with_reducible show WP _ _ _ _ _ _ (Value.int (nI _) :: Value.int (nI _) :: _) _; refine wp_iaddN (pc := 55) dX7_nextFirsts_55 ?_) | refine wp_iadd (pc := 55) dX7_nextFirsts_55 ?_
        first | (with_reducible show WP _ _ _ _ _ _ (_ :: Value.int (nI _) :: _) _; refine wp_iastN (pc := 56) dX7_nextFirsts_56 rfl (by omega) ?_) | refine wp_iast (pc := 56) dX7_nextFirsts_56 rfl (by assumption) rfl ?_
        refine wp_iload_n (pc := 57) (i := 1) dX7_nextFirsts_57 rfl rfl ?_
        first | (with_reducible show WP _ _ _ _ _ _ (Value.int (nI _) :: _) _; refine wp_if_ltN (pc := 58) (tgt := 65) dX7_nextFirsts_58 (by decide) (by omega) (fun c58 => ?_) (fun c58 => ?_)) | refine wp_if_lt (pc := 58) (tgt := 65) dX7_nextFirsts_58 (by decide) (fun c58 => ?_) (fun c58 => ?_)
        rotate_left
        refine wp_iconst (pc := 61) (v := nI 1) dX7_nextFirsts_61 rfl ?_
        refine wp_goto (pc := 62) (tgt := 66) dX7_nextFirsts_62 (by decide) ?_
        refine wp_zret (pc := 66) dX7_nextFirsts_66 rfl (by first | exact Or.inl rfl | exact Or.inr rfl | assumption | exact bI_01 _) ?_
        rotate_left
        · exact absurd c44 (by omega)
        · exact absurd c44 (by omega)
        · exact absurd c58 (by omega)
        refine k1 _ (by omega) (fun g hg => ?_) (fun a ha => (hs_ne ha).trans (a3 a ha))
        by_cases y : g = m
        · subst y
          rw [hs_same]
          have := nx_at p0 hmod c27
          rw [pe, pd, show T 1 - 1 - g = T 1 - (g + 1) by omega, this]
        · rw [hs_ix y]
          by_cases y2 : g < m
          · rw [a1 g (by omega), pd, pd, nx_high p0 (show T 1 - (m + 1) < T 1 - 1 - g by omega) hmod c27]
          · rw [a2 g (by omega) hg, pd, nx_low p0 (show T 1 - 1 - g < T 1 - (m + 1) by omega) hmod]
      · have md := nx_more p0 hmod (pe.symm.trans c27)
        rw [show T 1 - (m + 1) + 1 = T 1 - m by omega] at md
        refine wp_aload_n (pc := 30) (i := 0) dX7_nextFirsts_30 rfl rfl ?_
        refine wp_gfr (pc := 31) fk_X7_32 dX7_nextFirsts_31 rfl rfl (by decide) ?_
        refine wp_iload_n (pc := 34) (i := 1) dX7_nextFirsts_34 rfl rfl ?_
        refine wp_iconst (pc := 35) (v := nI 0) dX7_nextFirsts_35 rfl ?_
        first | (with_reducible show WP _ _ _ _ _ _ (_ :: Value.int (nI _) :: _) _; refine wp_iastN (pc := 36) dX7_nextFirsts_36 rfl (by omega) ?_) | refine wp_iast (pc := 36) dX7_nextFirsts_36 rfl (by assumption) rfl ?_
        rotate_left
        refine wp_iinc (pc := 37) (i := 1) dX7_nextFirsts_37 rfl (dcI_s m) rfl (by decide) rfl ?_
        dsimp only [List.set_cons_zero, List.set_cons_succ]
        refine wp_goto (pc := 40) (tgt := 9) dX7_nextFirsts_40 (by decide) ?_
        rotate_left
        refine ih _ (by omega) (fun j hj => ?_) (fun j j1 j2 => ?_) (fun a ha => (hs_ne ha).trans (a3 a ha)) md
        · rw [hs_ix (by omega)]; exact a1 j (by omega)
        · by_cases y : j = m
          · subst y; exact hs_same _ _ _ _
          · rw [hs_ix y]; exact a2 j (by omega) j2
  refine wp_aload_n (pc := 0) (i := 0) dX7_nextFirsts_0 rfl rfl ?_
  refine wp_gfr (pc := 1) fk_X7_7 dX7_nextFirsts_1 rfl rfl (by decide) ?_
  refine wp_iconst (pc := 4) (v := nI 1) dX7_nextFirsts_4 rfl ?_
  first | (with_reducible show WP _ _ _ _ _ _ (Value.int (nI _) :: _) _; refine wp_ialdN (pc := 5) dX7_nextFirsts_5 rfl (by omega) (by first | with_reducible assumption | with_reducible exact hs_same _ _ _ _ | rfl) ?_) | refine wp_iald (pc := 5) dX7_nextFirsts_5 rfl (by assumption) rfl ?_
  refine wp_iconst (pc := 6) (v := nI 1) dX7_nextFirsts_6 rfl ?_
  rotate_left
  refine wp_isub (pc := 7) dX7_nextFirsts_7 ?_
  rw [dcI_d]
  refine wp_istore_n (pc := 8) (i := 1) dX7_nextFirsts_8 rfl rfl (by decide) rfl ?_
  dsimp only [List.set_cons_zero, List.set_cons_succ]
  rotate_left
  exact loop (T 1) h (Nat.le_refl _) hq (fun j j1 j2 => absurd j2 (by omega)) (fun _ _ => rfl) (by rw [Nat.sub_self, Nat.pow_zero]; exact Nat.mod_one _)
theorem sr_rota {c n x : Int32} {K : Int32 → Hp → Prop} (hR : RW h 0 T) (hI : RT h T) (hO : OKT T) (hd : T 4 ≤ 999) (k : ∀ h', SR h h' → K (fRota T c n x) h') : Call G (d + 6) mX7_rota [.ref 89, .int c, .int n, .int x] h (pI K) := by
  obtain ⟨o0, o1, o2, o3, o4, o5, o6, o7, o8⟩ := id hO
  have p5 := pow5 o0
  refine Call.of (M := mX7_rota) (n := 4) (by decide +kernel) rfl ?_
  show WP _ _ _ _ 0 [some (.ref 89), some (.int c), some (.int n), some (.int x), none, none, none, none] [] _
  rcases hI.c with ⟨z, e1⟩ | ⟨z, e1⟩
  · rw [fRota, if_pos z] at k
    refine wp_aload_n (pc := 0) (i := 0) dX7_rota_0 rfl rfl ?_
    refine wp_gfv (pc := 1) fk_X7_136 dX7_rota_1 rfl rfl (by first | with_reducible assumption | with_reducible exact hs_same _ _ _ _ | rfl) ?_
    first | (with_reducible show WP _ _ _ _ _ _ (Value.int (bI _) :: _) _; refine wp_if_neB (pc := 4) (tgt := 10) dX7_rota_4 (by decide) (fun c4 => ?_) (fun c4 => ?_)) | (with_reducible show WP _ _ _ _ _ _ (Value.int (nI _) :: _) _; refine wp_if_neN (pc := 4) (tgt := 10) dX7_rota_4 (by decide) (by omega) (fun c4 => ?_) (fun c4 => ?_)) | refine wp_if_ne (pc := 4) (tgt := 10) dX7_rota_4 (by decide) (fun c4 => ?_) (fun c4 => ?_)
    rotate_left
    refine wp_ldc (pc := 7) kn_X7_143 dX7_rota_7 ?_
    refine wp_iret (pc := 9) dX7_rota_9 rfl ?_
    rotate_left
    · exact absurd rfl c4
    · exact k h (SR.rf h)
  rw [fRota, if_neg (by omega)] at k
  have p0 := (o5 z).1
  have pre52 : ∀ c' n' : Nat, c' < 32 → n' ≤ 14 → (inN x (T 1) || decide (x = kM1)) = true → (∀ h', SR h h' → K (rtV (bst T c' n' (T 1 + 1) 0) kNONE (fun m i => if x = kM1 then nI m else nI (pd (T 0) i (T 1) x.toNatClampNeg))) h') → WP G (d + 6) mX7_rota (pI K) 52 [some (.ref 89), some (.int (nI c')), some (.int (nI n')), some (.int x), none, none, none, none] [] h := by
    intro w n hw hn hx k
    rw [← bf_bst] at k
    have e90 : h 90 1 = nI (T 1) := hR 1 (by omega)
    have chl := fun i => chg_le T 0 i
    have end_ : ∀ h1, SR h h1 → (∀ c b, bf T w n (T 0 ^ T 1) = some (c, b) → ∀ g, g < T 1 → h1 98 g = nI (pd (T 0) b (T 1) g)) → ∀ L6 L7, WP G (d + 6) mX7_rota (pI K) 83 [some (.ref 89), some (.int (nI w)), some (.int (nI n)), some (.int x), some (.int (nI (fw (bf T w n (T 0 ^ T 1))))), some (.int (nI 0)), L6, L7] [] h1 := by
      intro h1 hS1 hb L6 L7
      have kk := k h1 hS1
      rcases hbf : bf T w n (T 0 ^ T 1) with _ | ⟨m, b⟩
      · rw [hbf, rtV_none] at kk
        show WP G (d + 6) mX7_rota (pI K) 83 [some (.ref 89), some (.int (nI w)), some (.int (nI n)), some (.int x), some (.int (nI 7)), some (.int (nI 0)), L6, L7] [] h1
        refine wp_iload (pc := 83) (i := 5) dX7_rota_83 rfl ?_
        first | (with_reducible show WP _ _ _ _ _ _ (Value.int (bI _) :: _) _; refine wp_if_eqB (pc := 85) (tgt := 153) dX7_rota_85 (by decide) (fun c85 => ?_) (fun c85 => ?_)) | (with_reducible show WP _ _ _ _ _ _ (Value.int (nI _) :: _) _; refine wp_if_eqN (pc := 85) (tgt := 153) dX7_rota_85 (by decide) (by omega) (fun c85 => ?_) (fun c85 => ?_)) | refine wp_if_eq (pc := 85) (tgt := 153) dX7_rota_85 (by decide) (fun c85 => ?_) (fun c85 => ?_)
        refine wp_iload (pc := 153) (i := 4) dX7_rota_153 rfl ?_
        refine wp_bipush (pc := 155) (v := nI 7) dX7_rota_155 rfl ?_
        first | (with_reducible show WP _ _ _ _ _ _ (Value.int (nI _) :: Value.int (nI _) :: _) _; refine wp_icmp_neN (pc := 157) (tgt := 165) dX7_rota_157 (by decide) (by omega) (by omega) (fun c157 => ?_) (fun c157 => ?_)) | refine wp_icmp_ne (pc := 157) (tgt := 165) dX7_rota_157 (by decide) (fun c157 => ?_) (fun c157 => ?_)
        rotate_left
        refine wp_ldc (pc := 160) kn_X7_144 dX7_rota_160 ?_
        refine wp_goto (pc := 162) (tgt := 180) dX7_rota_162 (by decide) ?_
        refine wp_iret (pc := 180) dX7_rota_180 rfl ?_
        rotate_left
        rotate_left
        · exact absurd rfl c157
        · exact kk
        · exact absurd rfl c85
      · rw [hbf, rtV_some] at kk
        have hb := hb m b hbf
        have bs := bf_some _ m b hbf
        have := chl b
        have hm : m ≤ 6 := by have := bs.2.2.1; omega
        show WP G (d + 6) mX7_rota (pI K) 83 [some (.ref 89), some (.int (nI w)), some (.int (nI n)), some (.int x), some (.int (nI m)), some (.int (nI 0)), L6, L7] [] h1
        by_cases y : x = kM1
        · rw [if_pos y] at kk
          subst y
          refine wp_iload (pc := 83) (i := 5) dX7_rota_83 rfl ?_
          first | (with_reducible show WP _ _ _ _ _ _ (Value.int (bI _) :: _) _; refine wp_if_eqB (pc := 85) (tgt := 153) dX7_rota_85 (by decide) (fun c85 => ?_) (fun c85 => ?_)) | (with_reducible show WP _ _ _ _ _ _ (Value.int (nI _) :: _) _; refine wp_if_eqN (pc := 85) (tgt := 153) dX7_rota_85 (by decide) (by omega) (fun c85 => ?_) (fun c85 => ?_)) | refine wp_if_eq (pc := 85) (tgt := 153) dX7_rota_85 (by decide) (fun c85 => ?_) (fun c85 => ?_)
          refine wp_iload (pc := 153) (i := 4) dX7_rota_153 rfl ?_
          refine wp_bipush (pc := 155) (v := nI 7) dX7_rota_155 rfl ?_
          first | (with_reducible show WP _ _ _ _ _ _ (Value.int (nI _) :: Value.int (nI _) :: _) _; refine wp_icmp_neN (pc := 157) (tgt := 165) dX7_rota_157 (by decide) (by omega) (by omega) (fun c157 => ?_) (fun c157 => ?_)) | refine wp_icmp_ne (pc := 157) (tgt := 165) dX7_rota_157 (by decide) (fun c157 => ?_) (fun c157 => ?_)
          refine wp_iload_n (pc := 165) (i := 3) dX7_rota_165 rfl rfl ?_
          first | (with_reducible show WP _ _ _ _ _ _ (Value.int (nI _) :: _) _; refine wp_if_geN (pc := 166) (tgt := 174) dX7_rota_166 (by decide) (by omega) (fun c166 => ?_) (fun c166 => ?_)) | refine wp_if_ge (pc := 166) (tgt := 174) dX7_rota_166 (by decide) (fun c166 => ?_) (fun c166 => ?_)
          rotate_left
          refine wp_iload (pc := 169) (i := 4) dX7_rota_169 rfl ?_
          refine wp_goto (pc := 171) (tgt := 180) dX7_rota_171 (by decide) ?_
          refine wp_iret (pc := 180) dX7_rota_180 rfl ?_
          rotate_left
          rotate_left
          rotate_left
          · exact absurd c166 (by decide)
          · exact kk
          · exact absurd c157 (by omega)
          · exact absurd rfl c85
        · rw [decide_eq_false y, Bool.or_false] at hx
          obtain ⟨x, hx1, rfl⟩ := inN_t (by omega) hx
          rw [if_neg y, nI_clamp (by omega)] at kk
          have hb := hb x hx1
          refine wp_iload (pc := 83) (i := 5) dX7_rota_83 rfl ?_
          first | (with_reducible show WP _ _ _ _ _ _ (Value.int (bI _) :: _) _; refine wp_if_eqB (pc := 85) (tgt := 153) dX7_rota_85 (by decide) (fun c85 => ?_) (fun c85 => ?_)) | (with_reducible show WP _ _ _ _ _ _ (Value.int (nI _) :: _) _; refine wp_if_eqN (pc := 85) (tgt := 153) dX7_rota_85 (by decide) (by omega) (fun c85 => ?_) (fun c85 => ?_)) | refine wp_if_eq (pc := 85) (tgt := 153) dX7_rota_85 (by decide) (fun c85 => ?_) (fun c85 => ?_)
          refine wp_iload (pc := 153) (i := 4) dX7_rota_153 rfl ?_
          refine wp_bipush (pc := 155) (v := nI 7) dX7_rota_155 rfl ?_
          first | (with_reducible show WP _ _ _ _ _ _ (Value.int (nI _) :: Value.int (nI _) :: _) _; refine wp_icmp_neN (pc := 157) (tgt := 165) dX7_rota_157 (by decide) (by omega) (by omega) (fun c157 => ?_) (fun c157 => ?_)) | refine wp_icmp_ne (pc := 157) (tgt := 165) dX7_rota_157 (by decide) (fun c157 => ?_) (fun c157 => ?_)
          refine wp_iload_n (pc := 165) (i := 3) dX7_rota_165 rfl rfl ?_
          first | (with_reducible show WP _ _ _ _ _ _ (Value.int (nI _) :: _) _; refine wp_if_geN (pc := 166) (tgt := 174) dX7_rota_166 (by decide) (by omega) (fun c166 => ?_) (fun c166 => ?_)) | refine wp_if_ge (pc := 166) (tgt := 174) dX7_rota_166 (by decide) (fun c166 => ?_) (fun c166 => ?_)
          refine wp_aload_n (pc := 174) (i := 0) dX7_rota_174 rfl rfl ?_
          refine wp_gfr (pc := 175) fk_X7_35 dX7_rota_175 rfl rfl (by decide) ?_
          refine wp_iload_n (pc := 178) (i := 3) dX7_rota_178 rfl rfl ?_
          first | (with_reducible show WP _ _ _ _ _ _ (Value.int (nI _) :: _) _; refine wp_ialdN (pc := 179) dX7_rota_179 rfl (by omega) (by first | with_reducible assumption | with_reducible exact hs_same _ _ _ _ | rfl) ?_) | refine wp_iald (pc := 179) dX7_rota_179 rfl (by assumption) rfl ?_
          refine wp_iret (pc := 180) dX7_rota_180 rfl ?_
          rotate_left
          rotate_left
          rotate_left
          rotate_left
          · exact kk
          · exact absurd c166 (by omega)
          · exact absurd c157 (by omega)
          · exact absurd rfl c85
    have loop : ∀ m i h1, i + m + 1 = T 0 ^ T 1 → SR h h1 → (∀ g, g < T 1 → h1 97 g = nI (pd (T 0) i (T 1) g)) → (∀ c b, bf T w n i = some (c, b) → ∀ g, g < T 1 → h1 98 g = nI (pd (T 0) b (T 1) g)) → ∀ L6 L7, WP G (d + 6) mX7_rota (pI K) 83 [some (.ref 89), some (.int (nI w)), some (.int (nI n)), some (.int x), some (.int (nI (fw (bf T w n i)))), some (.int (nI 1)), L6, L7] [] h1 := by
      have step : ∀ i h1, i < T 0 ^ T 1 → SR h h1 → (∀ g, g < T 1 → h1 97 g = nI (pd (T 0) i (T 1) g)) → (∀ c b, bf T w n i = some (c, b) → ∀ g, g < T 1 → h1 98 g = nI (pd (T 0) b (T 1) g)) →
          (∀ h2, i + 1 < T 0 ^ T 1 → SR h h2 → (∀ g, g < T 1 → h2 97 g = nI (pd (T 0) (i + 1) (T 1) g)) → (∀ c b, bf T w n (i + 1) = some (c, b) → ∀ g, g < T 1 → h2 98 g = nI (pd (T 0) b (T 1) g)) → ∀ L6 L7, WP G (d + 6) mX7_rota (pI K) 83 [some (.ref 89), some (.int (nI w)), some (.int (nI n)), some (.int x), some (.int (nI (fw (bf T w n (i + 1))))), some (.int (nI 1)), L6, L7] [] h2) →
          ∀ L6 L7, WP G (d + 6) mX7_rota (pI K) 83 [some (.ref 89), some (.int (nI w)), some (.int (nI n)), some (.int x), some (.int (nI (fw (bf T w n i)))), some (.int (nI 1)), L6, L7] [] h1 := by
        intro i h1 hi hS1 hq hb kn L6 L7
        have fl := fw_le (w := w) (n := n) o1 i
        have cl := chl i
        have n144 : ∀ h2, SR h h2 → (∀ g, g < T 1 → h2 97 g = nI (pd (T 0) i (T 1) g)) → (∀ c b, bf T w n (i + 1) = some (c, b) → ∀ g, g < T 1 → h2 98 g = nI (pd (T 0) b (T 1) g)) → ∀ L6 L7, WP G (d + 6) mX7_rota (pI K) 144 [some (.ref 89), some (.int (nI w)), some (.int (nI n)), some (.int x), some (.int (nI (fw (bf T w n (i + 1))))), some (.int (nI 1)), L6, L7] [] h2 := by
          intro h2 hS2 hq2 hb2 L6 L7
          have hR2 : RW h2 0 T := hR.cg (fun k _ k2 => hS2.2.1 k (by omega))
          have sf : ∀ h3 : Hp, (∀ a, a ≠ 97 → h3 a = h2 a) → SR h h3 := fun h3 e => hS2.tr ⟨fun a ha => e a (by omega), fun k _ => by rw [e 90 (by decide)], fun k _ => by rw [e 89 (by decide)]⟩
          refine wp_aload_n (pc := 144) (i := 0) dX7_rota_144 rfl rfl ?_
          refine wp_cV0i (pc := 145) lk_X7_218 dX7_rota_145 rfl rfl rfl (sp7_nextFirsts hR2 hO z hi hq2 (fun h3 hlt hq3 he3 => ?_) (fun h3 heq he3 => ?_))
          refine wp_istore (pc := 148) (i := 5) dX7_rota_148 rfl (by decide) rfl ?_
          dsimp only [List.set_cons_zero, List.set_cons_succ]
          refine wp_goto (pc := 150) (tgt := 83) dX7_rota_150 (by decide) ?_
          rotate_left
          · have := end_ h3 (sf h3 he3) (fun c b e g hg => by rw [he3 98 (by decide)]; exact hb2 c b (by rw [heq]; exact e) g hg) L6 L7
            rw [← heq] at this
            refine wp_istore (pc := 148) (i := 5) dX7_rota_148 rfl (by decide) rfl ?_
            dsimp only [List.set_cons_zero, List.set_cons_succ]
            refine wp_goto (pc := 150) (tgt := 83) dX7_rota_150 (by decide) ?_
            rotate_left
            exact this
          · exact kn h3 hlt (sf h3 he3) hq3 (fun c b e g hg => by rw [he3 98 (by decide)]; exact hb2 c b e g hg) L6 L7
        have hR1 : RW h1 0 T := hR.cg (fun k _ k2 => hS1.2.1 k (by omega))
        refine wp_iload (pc := 83) (i := 5) dX7_rota_83 rfl ?_
        first | (with_reducible show WP _ _ _ _ _ _ (Value.int (bI _) :: _) _; refine wp_if_eqB (pc := 85) (tgt := 153) dX7_rota_85 (by decide) (fun c85 => ?_) (fun c85 => ?_)) | (with_reducible show WP _ _ _ _ _ _ (Value.int (nI _) :: _) _; refine wp_if_eqN (pc := 85) (tgt := 153) dX7_rota_85 (by decide) (by omega) (fun c85 => ?_) (fun c85 => ?_)) | refine wp_if_eq (pc := 85) (tgt := 153) dX7_rota_85 (by decide) (fun c85 => ?_) (fun c85 => ?_)
        rotate_left
        refine wp_aload_n (pc := 88) (i := 0) dX7_rota_88 rfl rfl ?_
        refine wp_cV0i (pc := 89) lk_X7_212 dX7_rota_89 rfl rfl rfl (sp7_changes hR1 hO p0 hq ?_)
        refine wp_istore (pc := 92) (i := 6) dX7_rota_92 rfl (by decide) rfl ?_
        dsimp only [List.set_cons_zero, List.set_cons_succ]
        refine wp_iload (pc := 94) (i := 6) dX7_rota_94 rfl ?_
        refine wp_iload (pc := 96) (i := 4) dX7_rota_96 rfl ?_
        first | (with_reducible show WP _ _ _ _ _ _ (Value.int (nI _) :: Value.int (nI _) :: _) _; refine wp_icmp_geN (pc := 98) (tgt := 144) dX7_rota_98 (by decide) (by omega) (by omega) (fun c98 => ?_) (fun c98 => ?_)) | refine wp_icmp_ge (pc := 98) (tgt := 144) dX7_rota_98 (by decide) (fun c98 => ?_) (fun c98 => ?_)
        rotate_left
        refine wp_aload_n (pc := 101) (i := 0) dX7_rota_101 rfl rfl ?_
        refine wp_iload_n (pc := 102) (i := 1) dX7_rota_102 rfl rfl ?_
        refine wp_iload_n (pc := 103) (i := 2) dX7_rota_103 rfl rfl ?_
        refine wp_cV2i (pc := 104) lk_X7_215 dX7_rota_104 rfl rfl rfl (sp7_servesAll hR1 hO z hw hn hd hq (fun h2 hF2 => ?_))
        first | (with_reducible show WP _ _ _ _ _ _ (Value.int (bI _) :: _) _; refine wp_if_eqB (pc := 107) (tgt := 144) dX7_rota_107 (by decide) (fun c107 => ?_) (fun c107 => ?_)) | (with_reducible show WP _ _ _ _ _ _ (Value.int (nI _) :: _) _; refine wp_if_eqN (pc := 107) (tgt := 144) dX7_rota_107 (by decide) (by omega) (fun c107 => ?_) (fun c107 => ?_)) | refine wp_if_eq (pc := 107) (tgt := 144) dX7_rota_107 (by decide) (fun c107 => ?_) (fun c107 => ?_)
        rotate_left
        rotate_left
        · exact absurd c85 (by decide)
        · have e := bf_no (w := w) (n := n) o1 (Or.inl c98)
          have := n144 h1 hS1 hq (fun c b q => hb c b (by rw [← e]; exact q)) (some (.int (nI (chg T 0 i)))) L7
          rw [e] at this
          exact this
        · have e := bf_no (w := w) (n := n) (i := i) o1 (Or.inr c107)
          have := n144 h2 (hS1.tr hF2.sr) (fun g hg => by rw [hF2.1 97 (by decide)]; exact hq g hg) (fun c b q g hg => by rw [hF2.1 98 (by decide)]; exact hb c b (by rw [← e]; exact q) g hg) (some (.int (nI (chg T 0 i)))) L7
          rw [e] at this
          exact this
        · have e := bf_yes (w := w) (n := n) (i := i) (by omega) c107
          have q2 : ∀ g, g < T 1 → h2 97 g = nI (pd (T 0) i (T 1) g) := fun g hg => by rw [hF2.1 97 (by decide)]; exact hq g hg
          have nn := n144
          rw [e] at nn
          have cp : ∀ m g h3, g + m = 6 → (∀ a, a ≠ 98 → h3 a = h2 a) → (∀ j, j < g → h3 98 j = h2 97 j) → WP G (d + 6) mX7_rota (pI K) 117 [some (.ref 89), some (.int (nI w)), some (.int (nI n)), some (.int x), some (.int (nI (chg T 0 i))), some (.int (nI 1)), some (.int (nI (chg T 0 i))), some (.int (nI g))] [] h3 := by
            intro m
            induction m with
            | zero =>
              intro g h3 hgm e3 e4
              refine wp_iload (pc := 117) (i := 7) dX7_rota_117 rfl ?_
              refine wp_bipush (pc := 119) (v := nI 6) dX7_rota_119 rfl ?_
              first | (with_reducible show WP _ _ _ _ _ _ (Value.int (nI _) :: Value.int (nI _) :: _) _; refine wp_icmp_geN (pc := 121) (tgt := 144) dX7_rota_121 (by decide) (by omega) (by omega) (fun c121 => ?_) (fun c121 => ?_)) | refine wp_icmp_ge (pc := 121) (tgt := 144) dX7_rota_121 (by decide) (fun c121 => ?_) (fun c121 => ?_)
              rotate_left
              rotate_left
              · refine nn h3 ((hS1.tr hF2.sr).tr ⟨fun a ha => e3 a (by omega), fun k _ => by rw [e3 90 (by decide)], fun k _ => by rw [e3 89 (by decide)]⟩) (fun g hg => by rw [e3 97 (by decide)]; exact q2 g hg) (fun c b q g hg => ?_) _ _
                cases q
                rw [e4 g (by omega)]; exact q2 g hg
              · exact absurd hgm (by omega)
            | succ m ih =>
              intro g h3 hgm e3 e4
              refine wp_iload (pc := 117) (i := 7) dX7_rota_117 rfl ?_
              refine wp_bipush (pc := 119) (v := nI 6) dX7_rota_119 rfl ?_
              first | (with_reducible show WP _ _ _ _ _ _ (Value.int (nI _) :: Value.int (nI _) :: _) _; refine wp_icmp_geN (pc := 121) (tgt := 144) dX7_rota_121 (by decide) (by omega) (by omega) (fun c121 => ?_) (fun c121 => ?_)) | refine wp_icmp_ge (pc := 121) (tgt := 144) dX7_rota_121 (by decide) (fun c121 => ?_) (fun c121 => ?_)
              rotate_left
              refine wp_aload_n (pc := 124) (i := 0) dX7_rota_124 rfl rfl ?_
              refine wp_gfr (pc := 125) fk_X7_35 dX7_rota_125 rfl rfl (by decide) ?_
              refine wp_iload (pc := 128) (i := 7) dX7_rota_128 rfl ?_
              refine wp_aload_n (pc := 130) (i := 0) dX7_rota_130 rfl rfl ?_
              refine wp_gfr (pc := 131) fk_X7_32 dX7_rota_131 rfl rfl (by decide) ?_
              refine wp_iload (pc := 134) (i := 7) dX7_rota_134 rfl ?_
              first | (with_reducible show WP _ _ _ _ _ _ (Value.int (nI _) :: _) _; refine wp_ialdN (pc := 136) dX7_rota_136 rfl (by omega) (by first | with_reducible assumption | with_reducible exact hs_same _ _ _ _ | rfl) ?_) | refine wp_iald (pc := 136) dX7_rota_136 rfl (by assumption) rfl ?_
              first | (with_reducible show WP _ _ _ _ _ _ (_ :: Value.int (nI _) :: _) _; refine wp_iastN (pc := 137) dX7_rota_137 rfl (by omega) ?_) | refine wp_iast (pc := 137) dX7_rota_137 rfl (by assumption) rfl ?_
              first | refine wp_iincN (pc := 138) (i := 7) (n := 1) dX7_rota_138 rfl rfl (by decide) rfl ?_ | refine wp_iinc (pc := 138) (i := 7) dX7_rota_138 rfl rfl rfl (by decide) rfl ?_
              dsimp only [List.set_cons_zero, List.set_cons_succ]
              refine wp_goto (pc := 141) (tgt := 117) dX7_rota_141 (by decide) ?_
              rotate_left
              · exact absurd hgm (by omega)
              refine ih (g + 1) _ (by omega) (fun a ha => (hs_ne ha).trans (e3 a ha)) (fun j hj => ?_)
              by_cases y : j = g
              · subst y; rw [hs_same, e3 97 (by decide)]
              · rw [hs_ix y]; exact e4 j (by omega)
          refine wp_iload (pc := 110) (i := 6) dX7_rota_110 rfl ?_
          refine wp_istore (pc := 112) (i := 4) dX7_rota_112 rfl (by decide) rfl ?_
          dsimp only [List.set_cons_zero, List.set_cons_succ]
          refine wp_iconst (pc := 114) (v := nI 0) dX7_rota_114 rfl ?_
          refine wp_istore (pc := 115) (i := 7) dX7_rota_115 rfl (by decide) rfl ?_
          dsimp only [List.set_cons_zero, List.set_cons_succ]
          rotate_left
          exact cp 6 0 h2 (by omega) (fun _ _ => rfl) (fun j hj => absurd hj (by omega))
      intro m
      induction m with
      | zero =>
        intro i h1 him hS1 hq hb
        exact step i h1 (by omega) hS1 hq hb (fun h2 hlt => absurd hlt (by omega))
      | succ m ih =>
        intro i h1 him hS1 hq hb
        exact step i h1 (by omega) hS1 hq hb (fun h2 _ hS2 hq2 hb2 => ih (i + 1) h2 (by omega) hS2 hq2 hb2)
    have zero : ∀ m g h1, g + m = 6 → (∀ a, a ≠ 97 → h1 a = h a) → (∀ j, j < g → h1 97 j = nI 0) → WP G (d + 6) mX7_rota (pI K) 59 [some (.ref 89), some (.int (nI w)), some (.int (nI n)), some (.int x), some (.int (nI 7)), some (.int (nI g)), none, none] [] h1 := by
      intro m
      induction m with
      | zero =>
        intro g h1 hgm e1 e2
        have pp : 0 < T 0 ^ T 1 := Nat.pow_pos p0
        refine wp_iload (pc := 59) (i := 5) dX7_rota_59 rfl ?_
        refine wp_bipush (pc := 61) (v := nI 6) dX7_rota_61 rfl ?_
        first | (with_reducible show WP _ _ _ _ _ _ (Value.int (nI _) :: Value.int (nI _) :: _) _; refine wp_icmp_geN (pc := 63) (tgt := 80) dX7_rota_63 (by decide) (by omega) (by omega) (fun c63 => ?_) (fun c63 => ?_)) | refine wp_icmp_ge (pc := 63) (tgt := 80) dX7_rota_63 (by decide) (fun c63 => ?_) (fun c63 => ?_)
        refine wp_iconst (pc := 80) (v := nI 1) dX7_rota_80 rfl ?_
        refine wp_istore (pc := 81) (i := 5) dX7_rota_81 rfl (by decide) rfl ?_
        dsimp only [List.set_cons_zero, List.set_cons_succ]
        rotate_left
        rotate_left
        · refine loop (T 0 ^ T 1 - 1) 0 h1 (by omega) ⟨fun a ha => e1 a (by omega), fun k _ => by rw [e1 90 (by decide)], fun k _ => by rw [e1 89 (by decide)]⟩ (fun g hg => ?_) (fun c b q => by cases q) _ _
          rw [e2 g (by omega), pd, Nat.zero_div, Nat.zero_mod]
        · exact absurd hgm (by omega)
      | succ m ih =>
        intro g h1 hgm e1 e2
        refine wp_iload (pc := 59) (i := 5) dX7_rota_59 rfl ?_
        refine wp_bipush (pc := 61) (v := nI 6) dX7_rota_61 rfl ?_
        first | (with_reducible show WP _ _ _ _ _ _ (Value.int (nI _) :: Value.int (nI _) :: _) _; refine wp_icmp_geN (pc := 63) (tgt := 80) dX7_rota_63 (by decide) (by omega) (by omega) (fun c63 => ?_) (fun c63 => ?_)) | refine wp_icmp_ge (pc := 63) (tgt := 80) dX7_rota_63 (by decide) (fun c63 => ?_) (fun c63 => ?_)
        rotate_left
        refine wp_aload_n (pc := 66) (i := 0) dX7_rota_66 rfl rfl ?_
        refine wp_gfr (pc := 67) fk_X7_32 dX7_rota_67 rfl rfl (by decide) ?_
        refine wp_iload (pc := 70) (i := 5) dX7_rota_70 rfl ?_
        refine wp_iconst (pc := 72) (v := nI 0) dX7_rota_72 rfl ?_
        first | (with_reducible show WP _ _ _ _ _ _ (_ :: Value.int (nI _) :: _) _; refine wp_iastN (pc := 73) dX7_rota_73 rfl (by omega) ?_) | refine wp_iast (pc := 73) dX7_rota_73 rfl (by assumption) rfl ?_
        first | refine wp_iincN (pc := 74) (i := 5) (n := 1) dX7_rota_74 rfl rfl (by decide) rfl ?_ | refine wp_iinc (pc := 74) (i := 5) dX7_rota_74 rfl rfl rfl (by decide) rfl ?_
        dsimp only [List.set_cons_zero, List.set_cons_succ]
        refine wp_goto (pc := 77) (tgt := 59) dX7_rota_77 (by decide) ?_
        rotate_left
        · exact absurd hgm (by omega)
        refine ih (g + 1) _ (by omega) (fun a ha => (hs_ne ha).trans (e1 a ha)) (fun j hj => ?_)
        by_cases y : j = g
        · subst y; exact hs_same _ _ _ _
        · rw [hs_ix y]; exact e2 j (by omega)
    refine wp_bipush (pc := 52) (v := nI 7) dX7_rota_52 rfl ?_
    refine wp_istore (pc := 54) (i := 4) dX7_rota_54 rfl (by decide) rfl ?_
    dsimp only [List.set_cons_zero, List.set_cons_succ]
    refine wp_iconst (pc := 56) (v := nI 0) dX7_rota_56 rfl ?_
    refine wp_istore (pc := 57) (i := 5) dX7_rota_57 rfl (by decide) rfl ?_
    dsimp only [List.set_cons_zero, List.set_cons_succ]
    rotate_left
    exact zero 6 0 h (by omega) (fun _ _ => rfl) (fun j hj => absurd hj (by omega))
  refine wp_aload_n (pc := 0) (i := 0) dX7_rota_0 rfl rfl ?_
  refine wp_gfv (pc := 1) fk_X7_136 dX7_rota_1 rfl rfl (by first | with_reducible assumption | with_reducible exact hs_same _ _ _ _ | rfl) ?_
  first | (with_reducible show WP _ _ _ _ _ _ (Value.int (bI _) :: _) _; refine wp_if_neB (pc := 4) (tgt := 10) dX7_rota_4 (by decide) (fun c4 => ?_) (fun c4 => ?_)) | (with_reducible show WP _ _ _ _ _ _ (Value.int (nI _) :: _) _; refine wp_if_neN (pc := 4) (tgt := 10) dX7_rota_4 (by decide) (by omega) (fun c4 => ?_) (fun c4 => ?_)) | refine wp_if_ne (pc := 4) (tgt := 10) dX7_rota_4 (by decide) (fun c4 => ?_) (fun c4 => ?_)
  refine wp_iload_n (pc := 10) (i := 1) dX7_rota_10 rfl rfl ?_
  first | (with_reducible show WP _ _ _ _ _ _ (Value.int (nI _) :: _) _; refine wp_i2lN (pc := 11) dX7_rota_11 (by omega) ?_) | refine wp_i2l (pc := 11) dX7_rota_11 rfl ?_
  refine wp_lconst (pc := 12) (v := lN 0) dX7_rota_12 rfl ?_
  refine wp_aload_n (pc := 13) (i := 0) dX7_rota_13 rfl rfl ?_
  refine wp_cV0i (pc := 14) lk_X7_203 dX7_rota_14 rfl rfl rfl (sp7_allChildren hR hO ?_)
  first | (with_reducible show WP _ _ _ _ _ _ (Value.int (nI _) :: _) _; refine wp_i2lN (pc := 17) dX7_rota_17 (by omega) ?_) | refine wp_i2l (pc := 17) dX7_rota_17 rfl ?_
  refine wp_cS3i (pc := 18) lk_X7_48 dX7_rota_18 rfl (sp7_btw (by decide) (by omega) ?_)
  first | (with_reducible show WP _ _ _ _ _ _ (Value.int (bI _) :: _) _; refine wp_if_eqB (pc := 21) (tgt := 49) dX7_rota_21 (by decide) (fun c21 => ?_) (fun c21 => ?_)) | (with_reducible show WP _ _ _ _ _ _ (Value.int (nI _) :: _) _; refine wp_if_eqN (pc := 21) (tgt := 49) dX7_rota_21 (by decide) (by omega) (fun c21 => ?_) (fun c21 => ?_)) | refine wp_if_eq (pc := 21) (tgt := 49) dX7_rota_21 (by decide) (fun c21 => ?_) (fun c21 => ?_)
  refine wp_ldc (pc := 49) kn_X7_58 dX7_rota_49 ?_
  refine wp_iret (pc := 51) dX7_rota_51 rfl ?_
  rotate_left
  refine wp_iload_n (pc := 24) (i := 2) dX7_rota_24 rfl rfl ?_
  first | (with_reducible show WP _ _ _ _ _ _ (Value.int (nI _) :: _) _; refine wp_i2lN (pc := 25) dX7_rota_25 (by omega) ?_) | refine wp_i2l (pc := 25) dX7_rota_25 rfl ?_
  refine wp_lconst (pc := 26) (v := lN 1) dX7_rota_26 rfl ?_
  refine wp_ldc2 (pc := 27) kn_X7_210 dX7_rota_27 ?_
  refine wp_cS3i (pc := 30) lk_X7_48 dX7_rota_30 rfl (sp7_btw (by decide) (by decide) ?_)
  first | (with_reducible show WP _ _ _ _ _ _ (Value.int (bI _) :: _) _; refine wp_if_eqB (pc := 33) (tgt := 49) dX7_rota_33 (by decide) (fun c33 => ?_) (fun c33 => ?_)) | (with_reducible show WP _ _ _ _ _ _ (Value.int (nI _) :: _) _; refine wp_if_eqN (pc := 33) (tgt := 49) dX7_rota_33 (by decide) (by omega) (fun c33 => ?_) (fun c33 => ?_)) | refine wp_if_eq (pc := 33) (tgt := 49) dX7_rota_33 (by decide) (fun c33 => ?_) (fun c33 => ?_)
  refine wp_ldc (pc := 49) kn_X7_58 dX7_rota_49 ?_
  refine wp_iret (pc := 51) dX7_rota_51 rfl ?_
  rotate_left
  refine wp_aload_n (pc := 36) (i := 0) dX7_rota_36 rfl rfl ?_
  refine wp_iload_n (pc := 37) (i := 3) dX7_rota_37 rfl rfl ?_
  refine wp_cV1i (pc := 38) lk_X7_176 dX7_rota_38 rfl rfl rfl (sp7_isGran hR hO ?_)
  first | (with_reducible show WP _ _ _ _ _ _ (Value.int (bI _) :: _) _; refine wp_if_neB (pc := 41) (tgt := 52) dX7_rota_41 (by decide) (fun c41 => ?_) (fun c41 => ?_)) | (with_reducible show WP _ _ _ _ _ _ (Value.int (nI _) :: _) _; refine wp_if_neN (pc := 41) (tgt := 52) dX7_rota_41 (by decide) (by omega) (fun c41 => ?_) (fun c41 => ?_)) | refine wp_if_ne (pc := 41) (tgt := 52) dX7_rota_41 (by decide) (fun c41 => ?_) (fun c41 => ?_)
  rotate_left
  refine wp_iload_n (pc := 44) (i := 3) dX7_rota_44 rfl rfl ?_
  refine wp_iconst (pc := 45) (v := kM1) dX7_rota_45 rfl ?_
  first | (with_reducible show WP _ _ _ _ _ _ (Value.int (nI _) :: Value.int (nI _) :: _) _; refine wp_icmp_eqN (pc := 46) (tgt := 52) dX7_rota_46 (by decide) (by omega) (by omega) (fun c46 => ?_) (fun c46 => ?_)) | refine wp_icmp_eq (pc := 46) (tgt := 52) dX7_rota_46 (by decide) (fun c46 => ?_) (fun c46 => ?_)
  rotate_left
  refine wp_ldc (pc := 49) kn_X7_58 dX7_rota_49 ?_
  refine wp_iret (pc := 51) dX7_rota_51 rfl ?_
  rotate_left
  rotate_left
  · rw [c21, if_f1] at k; exact k h (SR.rf h)
  · rw [c21, c33, if_f2] at k; exact k h (SR.rf h)
  · rw [c21, c33, c41] at k
    obtain ⟨c, -, hc, rfl⟩ := btw_t (by omega) c21
    obtain ⟨n, -, hn, rfl⟩ := btw_t (by decide) c33
    rw [nI_clamp (show c < 2 ^ 31 by omega), nI_clamp (show n < 2 ^ 31 by omega)] at k
    exact pre52 c n (by omega) hn (by rw [c41]; rfl) k
  · rw [c21, c33, decide_eq_true c46, Bool.or_true, if_tt] at k
    obtain ⟨c, -, hc, rfl⟩ := btw_t (by omega) c21
    obtain ⟨n, -, hn, rfl⟩ := btw_t (by decide) c33
    rw [nI_clamp (show c < 2 ^ 31 by omega), nI_clamp (show n < 2 ^ 31 by omega)] at k
    exact pre52 c n (by omega) hn (by rw [decide_eq_true c46, Bool.or_true]) k
  · rw [c21, c33, c41, decide_eq_false c46, Bool.false_or, if_f3] at k; exact k h (SR.rf h)
  · exact absurd c4 (by decide)
end RROTA
