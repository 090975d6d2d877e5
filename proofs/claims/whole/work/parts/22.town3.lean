/-! a day -/
def up (T : Tn) (k v : Nat) : Tn := fun j => if j = k then v else T j
theorem up_same (T : Tn) (k v : Nat) : up T k v k = v := if_pos rfl
theorem up_ne {T : Tn} {k v j : Nat} (h : j ≠ k) : up T k v j = T j := if_neg h
def clI (m : Nat) (z : Int32) : Int32 := if nI 0 < (if z < nI m then z else nI m) then (if z < nI m then z else nI m) else nI 0
theorem clI_pos {m a b : Nat} (hm : m < 2 ^ 30) (h : a + b < 2 ^ 30) : clI m (nI a + nI b) = nI (min m (a + b)) := by
  unfold clI
  rw [nI_add]
  by_cases q : a + b < m
  · rw [if_pos ((nI_ltI (by omega) (by omega)).mpr q), Nat.min_eq_right (by omega)]
    by_cases z : 0 < a + b
    · rw [if_pos ((nI_ltI (by omega) (by omega)).mpr z)]
    · rw [if_neg (fun y => z ((nI_ltI (by omega) (by omega)).mp y)), show a + b = 0 by omega]
  · rw [if_neg (fun y => q ((nI_ltI (by omega) (by omega)).mp y)), Nat.min_eq_left (by omega)]
    by_cases z : 0 < m
    · rw [if_pos ((nI_ltI (by omega) (by omega)).mpr z)]
    · rw [if_neg (fun y => z ((nI_ltI (by omega) (by omega)).mp y)), show m = 0 by omega]
theorem nI_negsub {a b : Nat} : nI a + -nI b = nI a - nI b := by rw [Int32.sub_eq_add_neg]
theorem clI_neg {m a b : Nat} (hm : m < 2 ^ 30) (ha : a ≤ m) (hb : b < 2 ^ 30) : clI m (nI a + -nI b) = nI (a - b) := by
  unfold clI
  rw [nI_negsub]
  by_cases q : b ≤ a
  · rw [pk_sub q]
    by_cases z : a - b < m
    · rw [if_pos ((nI_ltI (by omega) (by omega)).mpr z)]
      by_cases y : 0 < a - b
      · rw [if_pos ((nI_ltI (by omega) (by omega)).mpr y)]
      · rw [if_neg (fun w => y ((nI_ltI (by omega) (by omega)).mp w)), show a - b = 0 by omega]
    · rw [if_neg (fun w => z ((nI_ltI (by omega) (by omega)).mp w)), show a - b = m by omega]
      by_cases y : 0 < m
      · rw [if_pos ((nI_ltI (by omega) (by omega)).mpr y)]
      · rw [if_neg (fun w => y ((nI_ltI (by omega) (by omega)).mp w)), show m = 0 by omega]
  · have h1 : nI a - nI b < 0 := pk_sneg hb (by omega)
    have e0 : (0 : Int32).toInt = 0 := by decide
    have h1t := Int32.lt_iff_toInt_lt.mp h1
    have h2 : nI a - nI b < nI m := Int32.lt_iff_toInt_lt.mpr (by rw [nI_toInt (show m < 2 ^ 31 by omega)]; omega)
    rw [if_pos h2, if_neg (fun w => by
      have := Int32.lt_iff_toInt_lt.mp w
      rw [nI_toInt (show 0 < 2 ^ 31 by decide)] at this
      omega), show a - b = 0 by omega]
/-- what g brings to c -/
def vis (T : Tn) (g c : Nat) : Tn :=
  if T (20 + g) = 1 then up T (5 + c) (min 99 (T (5 + c) + T (26 + g)))
  else if T (20 + g) = 2 then up (up T (5 + c) (min 99 (T (5 + c) + 2 * T (26 + g)))) (10 + c) (min 20 (T (10 + c) + 1))
  else if T (20 + g) = 3 then up (up T (5 + c) (min 99 (T (5 + c) + T (26 + g) / 2))) (15 + c) (T (15 + c) ||| 1 * 2 ^ ((T (26 + g) + T 4) % T 3))
  else if T (20 + g) = 4 then up T (10 + c) (T (10 + c) - T (26 + g))
  else up (up T (10 + c) (T (10 + c) - T (26 + g))) (5 + c) (min 99 (T (5 + c) + 1))
/-- the first k have brought -/
def vs (T : Tn) : Nat → Tn
  | 0 => T
  | k + 1 => if br T 0 k then vis (vs T k) k (hst T 0 k) else vs T k
def passT (T : Tn) : Tn := fun j => if j = 4 then T 4 + 1 else if 5 ≤ j ∧ j < 5 + T 0 then vs T (T 1) j - T 2 else if 44 ≤ j ∧ j < 44 + T 1 then T j - 1 else vs T (T 1) j
section TOWN3
variable {G : Gt} {d : Nat} {h : Hp} {t : Nat} {T : Tn}
theorem vis_out {g c j : Nat} (hc : c < 5) (hj : j < 5 ∨ 20 ≤ j) : vis T g c j = T j := by
  unfold vis
  (repeat' split) <;> simp only [up] <;> (repeat' split) <;> first | rfl | omega
theorem vs_out {j : Nat} (h5 : T 0 ≤ 5) (h0 : 0 < T 0) (hj : j < 5 ∨ 20 ≤ j) : ∀ k, vs T k j = T j
  | 0 => rfl
  | k + 1 => by
    unfold vs
    split
    · rw [vis_out (by have : hst T 0 k < T 0 := Nat.mod_lt _ h0; omega) hj, vs_out h5 h0 hj k]
    · exact vs_out h5 h0 hj k
theorem sp_addFed {c : Nat} {x : Int32} {K : Hp → Prop} (hT : isT t) (hW : TW h t T) (hO : OKT T) (hc : c < T 0) (k : K (hs h (t + 1) c (clI 99 (nI (T (5 + c)) + x)))) : Call G (d + 1) mX5_addFed [.ref t, .int (nI c), .int x] h (pV K) := by
  obtain ⟨ht, s0, s1, s2, s3, s4, s5, s6, s7, s8, s9, s10, s11⟩ := id hT
  obtain ⟨e0, e1, e2, e3, e4, e5, e6, e7, e8, e9, e10, e11, e12, e13⟩ := id hW
  obtain ⟨o0, o1, o2, o3, o4, o5, o6, o7, o8⟩ := id hO
  refine Call.of (M := mX5_addFed) (n := 0) (by decide +kernel) rfl ?_
  show WP _ _ _ _ 0 [some (.ref t), some (.int (nI c)), some (.int x)] [] _
  refine wp_aload_n (pc := 0) (i := 0) dX5_addFed_0 rfl rfl ?_
  refine wp_gfr (pc := 1) fk_X5_9 dX5_addFed_1 s0 rfl (by omega) ?_
  refine wp_iload_n (pc := 4) (i := 1) dX5_addFed_4 rfl rfl ?_
  refine wp_iconst (pc := 5) (v := nI 0) dX5_addFed_5 rfl ?_
  refine wp_bipush (pc := 6) (v := nI 99) dX5_addFed_6 rfl ?_
  refine wp_aload_n (pc := 8) (i := 0) dX5_addFed_8 rfl rfl ?_
  refine wp_gfr (pc := 9) fk_X5_9 dX5_addFed_9 s0 rfl (by omega) ?_
  refine wp_iload_n (pc := 12) (i := 1) dX5_addFed_12 rfl rfl ?_
  first | (with_reducible show WP _ _ _ _ _ _ (Value.int (nI _) :: _) _; refine wp_ialdN (pc := 13) dX5_addFed_13 s1 (by omega) (by first | with_reducible assumption | with_reducible exact hs_same _ _ _ _ | with_reducible exact e5 _ (by omega) | rfl) ?_) | refine wp_iald (pc := 13) dX5_addFed_13 s1 (by assumption) rfl ?_
  refine wp_iload_n (pc := 14) (i := 2) dX5_addFed_14 rfl rfl ?_
  first | (with_reducible show WP _ _ _ _ _ _ (Value.int (nI _) :: Value.int (nI _) :: _) _; refine wp_iaddN (pc := 15) dX5_addFed_15 ?_) | refine wp_iadd (pc := 15) dX5_addFed_15 ?_
  first | (with_reducible show WP _ _ _ _ _ _ (Value.int (nI _) :: Value.int (nI _) :: _) _; refine wp_minN (pc := 16) lk_X5_96 dX5_addFed_16 (by omega) (by omega) rfl ?_) | refine wp_min (pc := 16) lk_X5_96 dX5_addFed_16 rfl ?_
  first | (with_reducible show WP _ _ _ _ _ _ (Value.int (nI _) :: Value.int (nI _) :: _) _; refine wp_maxN (pc := 19) lk_X5_88 dX5_addFed_19 (by omega) (by omega) rfl ?_) | refine wp_max (pc := 19) lk_X5_88 dX5_addFed_19 rfl ?_
  first | (with_reducible show WP _ _ _ _ _ _ (_ :: Value.int (nI _) :: _) _; refine wp_iastN (pc := 22) dX5_addFed_22 s1 (by omega) ?_) | refine wp_iast (pc := 22) dX5_addFed_22 s1 (by assumption) rfl ?_
  refine wp_vret (pc := 23) dX5_addFed_23 rfl ?_
  rotate_left
  exact k
theorem sp_addSpoilt {c : Nat} {x : Int32} {K : Hp → Prop} (hT : isT t) (hW : TW h t T) (hO : OKT T) (hc : c < T 0) (k : K (hs h (t + 2) c (clI 20 (nI (T (10 + c)) + x)))) : Call G (d + 1) mX5_addSpoilt [.ref t, .int (nI c), .int x] h (pV K) := by
  obtain ⟨ht, s0, s1, s2, s3, s4, s5, s6, s7, s8, s9, s10, s11⟩ := id hT
  obtain ⟨e0, e1, e2, e3, e4, e5, e6, e7, e8, e9, e10, e11, e12, e13⟩ := id hW
  obtain ⟨o0, o1, o2, o3, o4, o5, o6, o7, o8⟩ := id hO
  refine Call.of (M := mX5_addSpoilt) (n := 0) (by decide +kernel) rfl ?_
  show WP _ _ _ _ 0 [some (.ref t), some (.int (nI c)), some (.int x)] [] _
  refine wp_aload_n (pc := 0) (i := 0) dX5_addSpoilt_0 rfl rfl ?_
  refine wp_gfr (pc := 1) fk_X5_15 dX5_addSpoilt_1 s0 rfl (by omega) ?_
  refine wp_iload_n (pc := 4) (i := 1) dX5_addSpoilt_4 rfl rfl ?_
  refine wp_iconst (pc := 5) (v := nI 0) dX5_addSpoilt_5 rfl ?_
  refine wp_bipush (pc := 6) (v := nI 20) dX5_addSpoilt_6 rfl ?_
  refine wp_aload_n (pc := 8) (i := 0) dX5_addSpoilt_8 rfl rfl ?_
  refine wp_gfr (pc := 9) fk_X5_15 dX5_addSpoilt_9 s0 rfl (by omega) ?_
  refine wp_iload_n (pc := 12) (i := 1) dX5_addSpoilt_12 rfl rfl ?_
  first | (with_reducible show WP _ _ _ _ _ _ (Value.int (nI _) :: _) _; refine wp_ialdN (pc := 13) dX5_addSpoilt_13 s2 (by omega) (by first | with_reducible assumption | with_reducible exact hs_same _ _ _ _ | with_reducible exact e6 _ (by omega) | rfl) ?_) | refine wp_iald (pc := 13) dX5_addSpoilt_13 s2 (by assumption) rfl ?_
  refine wp_iload_n (pc := 14) (i := 2) dX5_addSpoilt_14 rfl rfl ?_
  first | (with_reducible show WP _ _ _ _ _ _ (Value.int (nI _) :: Value.int (nI _) :: _) _; refine wp_iaddN (pc := 15) dX5_addSpoilt_15 ?_) | refine wp_iadd (pc := 15) dX5_addSpoilt_15 ?_
  first | (with_reducible show WP _ _ _ _ _ _ (Value.int (nI _) :: Value.int (nI _) :: _) _; refine wp_minN (pc := 16) lk_X5_96 dX5_addSpoilt_16 (by omega) (by omega) rfl ?_) | refine wp_min (pc := 16) lk_X5_96 dX5_addSpoilt_16 rfl ?_
  first | (with_reducible show WP _ _ _ _ _ _ (Value.int (nI _) :: Value.int (nI _) :: _) _; refine wp_maxN (pc := 19) lk_X5_88 dX5_addSpoilt_19 (by omega) (by omega) rfl ?_) | refine wp_max (pc := 19) lk_X5_88 dX5_addSpoilt_19 rfl ?_
  first | (with_reducible show WP _ _ _ _ _ _ (_ :: Value.int (nI _) :: _) _; refine wp_iastN (pc := 22) dX5_addSpoilt_22 s2 (by omega) ?_) | refine wp_iast (pc := 22) dX5_addSpoilt_22 s2 (by assumption) rfl ?_
  refine wp_vret (pc := 23) dX5_addSpoilt_23 rfl ?_
  rotate_left
  exact k
/-- a place of one of the three rows of children is written -/
theorem TW.fed {c v : Nat} (hW : TW h t T) (hO : OKT T) (hc : c < T 0) : TW (hs h (t + 1) c (nI v)) t (up T (5 + c) v) := by
  obtain ⟨o0, o1, o2, o3, o4, o5, o6, o7, o8⟩ := id hO
  unfold TW at hW ⊢
  have e : ∀ j, (j < 5 ∨ 10 ≤ j) → up T (5 + c) v j = T j := fun j hj => up_ne (by omega)
  rw [hs_ne (show t ≠ t + 1 by omega), hs_ne (show t + 2 ≠ t + 1 by omega), hs_ne (show t + 3 ≠ t + 1 by omega), hs_ne (show t + 4 ≠ t + 1 by omega), hs_ne (show t + 5 ≠ t + 1 by omega), hs_ne (show t + 6 ≠ t + 1 by omega), hs_ne (show t + 7 ≠ t + 1 by omega), hs_ne (show t + 8 ≠ t + 1 by omega), hs_ne (show t + 9 ≠ t + 1 by omega)]
  rw [e 0 (by omega), e 1 (by omega), e 2 (by omega), e 3 (by omega), e 4 (by omega)]
  obtain ⟨a0, a1, a2, a3, a4, a5, a6, a7, a8, a9, a10, a11, a12, a13⟩ := hW
  refine ⟨a0, a1, a2, a3, a4, fun q hq => ?_, fun q hq => by rw [e _ (by omega)]; exact a6 q hq, fun q hq => by rw [e _ (by omega)]; exact a7 q hq, fun q hq => by rw [e _ (by omega)]; exact a8 q hq, fun q hq => by rw [e _ (by omega)]; exact a9 q hq, fun q hq => by rw [e _ (by omega)]; exact a10 q hq, fun q hq => by rw [e _ (by omega)]; exact a11 q hq, fun q hq => by rw [e _ (by omega)]; exact a12 q hq, fun q hq => by rw [e _ (by omega)]; exact a13 q hq⟩
  by_cases z : q = c
  · subst z; rw [hs_same, up_same]
  · rw [hs_ix z, up_ne (by omega)]; exact a5 q hq
theorem TW.spo {c v : Nat} (hW : TW h t T) (hO : OKT T) (hc : c < T 0) : TW (hs h (t + 2) c (nI v)) t (up T (10 + c) v) := by
  obtain ⟨o0, o1, o2, o3, o4, o5, o6, o7, o8⟩ := id hO
  unfold TW at hW ⊢
  have e : ∀ j, (j < 10 ∨ 15 ≤ j) → up T (10 + c) v j = T j := fun j hj => up_ne (by omega)
  rw [hs_ne (show t ≠ t + 2 by omega), hs_ne (show t + 1 ≠ t + 2 by omega), hs_ne (show t + 3 ≠ t + 2 by omega), hs_ne (show t + 4 ≠ t + 2 by omega), hs_ne (show t + 5 ≠ t + 2 by omega), hs_ne (show t + 6 ≠ t + 2 by omega), hs_ne (show t + 7 ≠ t + 2 by omega), hs_ne (show t + 8 ≠ t + 2 by omega), hs_ne (show t + 9 ≠ t + 2 by omega)]
  rw [e 0 (by omega), e 1 (by omega), e 2 (by omega), e 3 (by omega), e 4 (by omega)]
  obtain ⟨a0, a1, a2, a3, a4, a5, a6, a7, a8, a9, a10, a11, a12, a13⟩ := hW
  refine ⟨a0, a1, a2, a3, a4, fun q hq => by rw [e _ (by omega)]; exact a5 q hq, fun q hq => ?_, fun q hq => by rw [e _ (by omega)]; exact a7 q hq, fun q hq => by rw [e _ (by omega)]; exact a8 q hq, fun q hq => by rw [e _ (by omega)]; exact a9 q hq, fun q hq => by rw [e _ (by omega)]; exact a10 q hq, fun q hq => by rw [e _ (by omega)]; exact a11 q hq, fun q hq => by rw [e _ (by omega)]; exact a12 q hq, fun q hq => by rw [e _ (by omega)]; exact a13 q hq⟩
  by_cases z : q = c
  · subst z; rw [hs_same, up_same]
  · rw [hs_ix z, up_ne (by omega)]; exact a6 q hq
theorem TW.tol {c v : Nat} (hW : TW h t T) (hO : OKT T) (hc : c < T 0) : TW (hs h (t + 3) c (nI v)) t (up T (15 + c) v) := by
  obtain ⟨o0, o1, o2, o3, o4, o5, o6, o7, o8⟩ := id hO
  unfold TW at hW ⊢
  have e : ∀ j, (j < 15 ∨ 20 ≤ j) → up T (15 + c) v j = T j := fun j hj => up_ne (by omega)
  rw [hs_ne (show t ≠ t + 3 by omega), hs_ne (show t + 1 ≠ t + 3 by omega), hs_ne (show t + 2 ≠ t + 3 by omega), hs_ne (show t + 4 ≠ t + 3 by omega), hs_ne (show t + 5 ≠ t + 3 by omega), hs_ne (show t + 6 ≠ t + 3 by omega), hs_ne (show t + 7 ≠ t + 3 by omega), hs_ne (show t + 8 ≠ t + 3 by omega), hs_ne (show t + 9 ≠ t + 3 by omega)]
  rw [e 0 (by omega), e 1 (by omega), e 2 (by omega), e 3 (by omega), e 4 (by omega)]
  obtain ⟨a0, a1, a2, a3, a4, a5, a6, a7, a8, a9, a10, a11, a12, a13⟩ := hW
  refine ⟨a0, a1, a2, a3, a4, fun q hq => by rw [e _ (by omega)]; exact a5 q hq, fun q hq => by rw [e _ (by omega)]; exact a6 q hq, fun q hq => ?_, fun q hq => by rw [e _ (by omega)]; exact a8 q hq, fun q hq => by rw [e _ (by omega)]; exact a9 q hq, fun q hq => by rw [e _ (by omega)]; exact a10 q hq, fun q hq => by rw [e _ (by omega)]; exact a11 q hq, fun q hq => by rw [e _ (by omega)]; exact a12 q hq, fun q hq => by rw [e _ (by omega)]; exact a13 q hq⟩
  by_cases z : q = c
  · subst z; rw [hs_same, up_same]
  · rw [hs_ix z, up_ne (by omega)]; exact a7 q hq
theorem OKT.fed {c v : Nat} (hO : OKT T) (hc : c < T 0) (hv : v ≤ 99) : OKT (up T (5 + c) v) := by
  obtain ⟨o0, o1, o2, o3, o4, o5, o6, o7, o8⟩ := id hO
  have e : ∀ j, (j < 5 ∨ 10 ≤ j) → up T (5 + c) v j = T j := fun j hj => up_ne (by omega)
  unfold OKT
  rw [e 0 (by omega), e 1 (by omega), e 2 (by omega), e 3 (by omega), e 4 (by omega)]
  refine ⟨o0, o1, o2, o3, o4, o5, fun q hq => ⟨?_, by rw [e _ (by omega)]; exact (o6 q hq).2.1, by rw [e _ (by omega)]; exact (o6 q hq).2.2⟩, fun g hg => ?_, fun q h1 h2 => ?_⟩
  · by_cases z : q = c
    · subst z; rw [up_same]; exact hv
    · rw [up_ne (by omega)]; exact (o6 q hq).1
  · rw [e _ (by omega), e _ (by omega), e _ (by omega), e _ (by omega), e _ (by omega), e _ (by omega)]; exact o7 g hg
  · rw [up_ne (by omega), e _ (by omega)]; exact o8 q h1 h2
theorem OKT.spo {c v : Nat} (hO : OKT T) (hc : c < T 0) (hv : v ≤ 20) : OKT (up T (10 + c) v) := by
  obtain ⟨o0, o1, o2, o3, o4, o5, o6, o7, o8⟩ := id hO
  have e : ∀ j, (j < 10 ∨ 15 ≤ j) → up T (10 + c) v j = T j := fun j hj => up_ne (by omega)
  unfold OKT
  rw [e 0 (by omega), e 1 (by omega), e 2 (by omega), e 3 (by omega), e 4 (by omega)]
  refine ⟨o0, o1, o2, o3, o4, o5, fun q hq => ⟨by rw [e _ (by omega)]; exact (o6 q hq).1, ?_, by rw [e _ (by omega)]; exact (o6 q hq).2.2⟩, fun g hg => ?_, fun q h1 h2 => ?_⟩
  · by_cases z : q = c
    · subst z; rw [up_same]; exact hv
    · rw [up_ne (by omega)]; exact (o6 q hq).2.1
  · rw [e _ (by omega), e _ (by omega), e _ (by omega), e _ (by omega), e _ (by omega), e _ (by omega)]; exact o7 g hg
  · rw [e _ (by omega), up_ne (by omega)]; exact o8 q h1 h2
theorem OKT.tol {c v : Nat} (hO : OKT T) (hc : c < T 0) (hv : v < 64) : OKT (up T (15 + c) v) := by
  obtain ⟨o0, o1, o2, o3, o4, o5, o6, o7, o8⟩ := id hO
  have e : ∀ j, (j < 15 ∨ 20 ≤ j) → up T (15 + c) v j = T j := fun j hj => up_ne (by omega)
  unfold OKT
  rw [e 0 (by omega), e 1 (by omega), e 2 (by omega), e 3 (by omega), e 4 (by omega)]
  refine ⟨o0, o1, o2, o3, o4, o5, fun q hq => ⟨by rw [e _ (by omega)]; exact (o6 q hq).1, by rw [e _ (by omega)]; exact (o6 q hq).2.1, ?_⟩, fun g hg => ?_, fun q h1 h2 => ?_⟩
  · by_cases z : q = c
    · subst z; rw [up_same]; exact hv
    · rw [up_ne (by omega)]; exact (o6 q hq).2.2
  · rw [e _ (by omega), e _ (by omega), e _ (by omega), e _ (by omega), e _ (by omega), e _ (by omega)]; exact o7 g hg
  · rw [e _ (by omega), e _ (by omega)]; exact o8 q h1 h2
end TOWN3
