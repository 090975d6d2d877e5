/-! numbers: rows over naturals -/
def bI (b : Bool) : Int32 := if b then 1 else 0
theorem bI_01 (b : Bool) : bI b = 0 ∨ bI b = 1 := by cases b <;> simp [bI]
theorem bI_t : bI true = 1 := rfl
theorem bI_f : bI false = 0 := rfl
theorem ofInt_nat (n : Nat) : Int32.ofInt (n : Int) = nI n := rfl
theorem nI_and (a b : Nat) : nI a &&& nI b = nI (a &&& b) := by
  apply Int32.toBitVec_inj.mp
  show BitVec.ofNat 32 a &&& BitVec.ofNat 32 b = BitVec.ofNat 32 (a &&& b)
  simp [BitVec.ofNat_and]
theorem nI_or (a b : Nat) : nI a ||| nI b = nI (a ||| b) := by
  apply Int32.toBitVec_inj.mp
  show BitVec.ofNat 32 a ||| BitVec.ofNat 32 b = BitVec.ofNat 32 (a ||| b)
  simp [BitVec.ofNat_or]
theorem nI_xor (a b : Nat) : nI a ^^^ nI b = nI (a ^^^ b) := by
  apply Int32.toBitVec_inj.mp
  show BitVec.ofNat 32 a ^^^ BitVec.ofNat 32 b = BitVec.ofNat 32 (a ^^^ b)
  simp [BitVec.ofNat_xor]
theorem sh31 : ∀ n, n < 32 → ((nI n &&& 31).toBitVec.smod 32).toNat = n := by decide +kernel
theorem nI_mod (a : Nat) : nI (a % 2 ^ 32) = nI a := by
  apply Int32.toBitVec_inj.mp
  show BitVec.ofNat 32 (a % 2 ^ 32) = BitVec.ofNat 32 a
  apply BitVec.eq_of_toNat_eq
  simp
theorem nI_shl (a : Nat) {k : Nat} (hk : k < 32) : nI a <<< (nI k &&& 31) = nI (a * 2 ^ k) := by
  apply Int32.toBitVec_inj.mp
  apply BitVec.eq_of_toNat_eq
  rw [pk_shl (nI a) (nI k &&& 31) k (sh31 k hk)]
  show (BitVec.ofNat 32 a).toNat * 2 ^ k % 2 ^ 32 = (BitVec.ofNat 32 (a * 2 ^ k)).toNat
  rw [BitVec.toNat_ofNat, BitVec.toNat_ofNat, Nat.mod_mul_mod]
theorem nI_shr {a : Nat} (ha : a < 2 ^ 31) {k : Nat} (hk : k < 32) : nI a >>> (nI k &&& 31) = nI (a / 2 ^ k) := pk_shrN ha (nI k &&& 31) k (sh31 k hk)
section WPN
variable {G : Gt} {d : Nat} {M : Mt} {Q : Option Value → Hp → Prop} {pc : Nat} {L : List (Option Value)} {S : List Value} {h : Hp}
theorem wp_iaddN {a b : Nat} (hd : decode M.2.1 pc = .ok (.iadd, 1)) (k : WP G d M Q (pc + 1) L (.int (nI (a + b)) :: S) h) : WP G d M Q pc L (.int (nI b) :: .int (nI a) :: S) h := wp_iadd hd (by rw [nI_add]; exact k)
theorem wp_imulN {a b : Nat} (hd : decode M.2.1 pc = .ok (.imul, 1)) (k : WP G d M Q (pc + 1) L (.int (nI (a * b)) :: S) h) : WP G d M Q pc L (.int (nI b) :: .int (nI a) :: S) h := wp_imul hd (by rw [pk_mul]; exact k)
theorem wp_iandN {a b : Nat} (hd : decode M.2.1 pc = .ok (.iand, 1)) (k : WP G d M Q (pc + 1) L (.int (nI (a &&& b)) :: S) h) : WP G d M Q pc L (.int (nI b) :: .int (nI a) :: S) h := wp_iand hd (by rw [nI_and]; exact k)
theorem wp_iorN {a b : Nat} (hd : decode M.2.1 pc = .ok (.ior, 1)) (k : WP G d M Q (pc + 1) L (.int (nI (a ||| b)) :: S) h) : WP G d M Q pc L (.int (nI b) :: .int (nI a) :: S) h := wp_ior hd (by rw [nI_or]; exact k)
theorem wp_ixorN {a b : Nat} (hd : decode M.2.1 pc = .ok (.ixor, 1)) (k : WP G d M Q (pc + 1) L (.int (nI (a ^^^ b)) :: S) h) : WP G d M Q pc L (.int (nI b) :: .int (nI a) :: S) h := wp_ixor hd (by rw [nI_xor]; exact k)
theorem wp_isubN {a b : Nat} (hd : decode M.2.1 pc = .ok (.isub, 1)) (hb : b ≤ a) (k : WP G d M Q (pc + 1) L (.int (nI (a - b)) :: S) h) : WP G d M Q pc L (.int (nI b) :: .int (nI a) :: S) h := wp_isub hd (by rw [pk_sub hb]; exact k)
theorem wp_ishlN {a b : Nat} (hd : decode M.2.1 pc = .ok (.ishl, 1)) (hb : b < 32) (k : WP G d M Q (pc + 1) L (.int (nI (a * 2 ^ b)) :: S) h) : WP G d M Q pc L (.int (nI b) :: .int (nI a) :: S) h := wp_ishl hd (by rw [nI_shl a hb]; exact k)
theorem wp_ishrN {a b : Nat} (hd : decode M.2.1 pc = .ok (.ishr, 1)) (ha : a < 2 ^ 31) (hb : b < 32) (k : WP G d M Q (pc + 1) L (.int (nI (a / 2 ^ b)) :: S) h) : WP G d M Q pc L (.int (nI b) :: .int (nI a) :: S) h := wp_ishr hd (by rw [nI_shr ha hb]; exact k)
theorem wp_idivN {a b : Nat} (hd : decode M.2.1 pc = .ok (.idiv, 1)) (h0 : 0 < b) (ha : a < 2 ^ 31) (hb : b < 2 ^ 31) (k : WP G d M Q (pc + 1) L (.int (nI (a / b)) :: S) h) : WP G d M Q pc L (.int (nI b) :: .int (nI a) :: S) h := wp_idiv hd (nI_ne0 h0 hb) (by rw [pk_div ha h0 hb]; exact k)
theorem wp_iremN {a b : Nat} (hd : decode M.2.1 pc = .ok (.irem, 1)) (h0 : 0 < b) (ha : a < 2 ^ 31) (hb : b < 2 ^ 31) (k : WP G d M Q (pc + 1) L (.int (nI (a % b)) :: S) h) : WP G d M Q pc L (.int (nI b) :: .int (nI a) :: S) h := wp_irem hd (nI_ne0 h0 hb) (by rw [pk_rem ha h0 hb]; exact k)
theorem wp_icmp_eqN {a b : Nat} {off : Int} {tgt : Nat} (hd : decode M.2.1 pc = .ok (.if_icmp .eq off, 3)) (ht : (pc : Int) + off = (tgt : Int)) (ha : a < 2 ^ 31) (hb : b < 2 ^ 31) (kt : a = b → WP G d M Q tgt L S h) (kf : ¬ a = b → WP G d M Q (pc + 3) L S h) : WP G d M Q pc L (.int (nI b) :: .int (nI a) :: S) h := wp_icmp_eq hd ht (fun q => kt ((nI_eq ha hb).mp q)) (fun q => kf (fun z => q ((nI_eq ha hb).mpr z)))
theorem wp_if_eqN {a : Nat} {off : Int} {tgt : Nat} (hd : decode M.2.1 pc = .ok (.ifCond .eq off, 3)) (ht : (pc : Int) + off = (tgt : Int)) (ha : a < 2 ^ 31) (kt : a = 0 → WP G d M Q tgt L S h) (kf : ¬ a = 0 → WP G d M Q (pc + 3) L S h) : WP G d M Q pc L (.int (nI a) :: S) h := wp_if_eq hd ht (fun q => kt ((nI_eq ha (show 0 < 2 ^ 31 by decide)).mp q)) (fun q => kf (fun z => q ((nI_eq ha (show 0 < 2 ^ 31 by decide)).mpr z)))
theorem wp_icmp_neN {a b : Nat} {off : Int} {tgt : Nat} (hd : decode M.2.1 pc = .ok (.if_icmp .ne off, 3)) (ht : (pc : Int) + off = (tgt : Int)) (ha : a < 2 ^ 31) (hb : b < 2 ^ 31) (kt : ¬ a = b → WP G d M Q tgt L S h) (kf : a = b → WP G d M Q (pc + 3) L S h) : WP G d M Q pc L (.int (nI b) :: .int (nI a) :: S) h := wp_icmp_ne hd ht (fun q => kt (fun z => q ((nI_eq ha hb).mpr z))) (fun q => kf ((nI_eq ha hb).mp q))
theorem wp_if_neN {a : Nat} {off : Int} {tgt : Nat} (hd : decode M.2.1 pc = .ok (.ifCond .ne off, 3)) (ht : (pc : Int) + off = (tgt : Int)) (ha : a < 2 ^ 31) (kt : ¬ a = 0 → WP G d M Q tgt L S h) (kf : a = 0 → WP G d M Q (pc + 3) L S h) : WP G d M Q pc L (.int (nI a) :: S) h := wp_if_ne hd ht (fun q => kt (fun z => q ((nI_eq ha (show 0 < 2 ^ 31 by decide)).mpr z))) (fun q => kf ((nI_eq ha (show 0 < 2 ^ 31 by decide)).mp q))
theorem wp_icmp_ltN {a b : Nat} {off : Int} {tgt : Nat} (hd : decode M.2.1 pc = .ok (.if_icmp .lt off, 3)) (ht : (pc : Int) + off = (tgt : Int)) (ha : a < 2 ^ 31) (hb : b < 2 ^ 31) (kt : a < b → WP G d M Q tgt L S h) (kf : ¬ a < b → WP G d M Q (pc + 3) L S h) : WP G d M Q pc L (.int (nI b) :: .int (nI a) :: S) h := wp_icmp_lt hd ht (fun q => kt ((nI_ltI ha hb).mp q)) (fun q => kf (fun z => q ((nI_ltI ha hb).mpr z)))
theorem wp_if_ltN {a : Nat} {off : Int} {tgt : Nat} (hd : decode M.2.1 pc = .ok (.ifCond .lt off, 3)) (ht : (pc : Int) + off = (tgt : Int)) (ha : a < 2 ^ 31) (kt : a < 0 → WP G d M Q tgt L S h) (kf : ¬ a < 0 → WP G d M Q (pc + 3) L S h) : WP G d M Q pc L (.int (nI a) :: S) h := wp_if_lt hd ht (fun q => kt ((nI_ltI ha (show 0 < 2 ^ 31 by decide)).mp q)) (fun q => kf (fun z => q ((nI_ltI ha (show 0 < 2 ^ 31 by decide)).mpr z)))
theorem wp_icmp_geN {a b : Nat} {off : Int} {tgt : Nat} (hd : decode M.2.1 pc = .ok (.if_icmp .ge off, 3)) (ht : (pc : Int) + off = (tgt : Int)) (ha : a < 2 ^ 31) (hb : b < 2 ^ 31) (kt : b ≤ a → WP G d M Q tgt L S h) (kf : ¬ b ≤ a → WP G d M Q (pc + 3) L S h) : WP G d M Q pc L (.int (nI b) :: .int (nI a) :: S) h := wp_icmp_ge hd ht (fun q => kt ((nI_leI hb ha).mp q)) (fun q => kf (fun z => q ((nI_leI hb ha).mpr z)))
theorem wp_if_geN {a : Nat} {off : Int} {tgt : Nat} (hd : decode M.2.1 pc = .ok (.ifCond .ge off, 3)) (ht : (pc : Int) + off = (tgt : Int)) (ha : a < 2 ^ 31) (kt : 0 ≤ a → WP G d M Q tgt L S h) (kf : ¬ 0 ≤ a → WP G d M Q (pc + 3) L S h) : WP G d M Q pc L (.int (nI a) :: S) h := wp_if_ge hd ht (fun q => kt ((nI_leI (show 0 < 2 ^ 31 by decide) ha).mp q)) (fun q => kf (fun z => q ((nI_leI (show 0 < 2 ^ 31 by decide) ha).mpr z)))
theorem wp_icmp_gtN {a b : Nat} {off : Int} {tgt : Nat} (hd : decode M.2.1 pc = .ok (.if_icmp .gt off, 3)) (ht : (pc : Int) + off = (tgt : Int)) (ha : a < 2 ^ 31) (hb : b < 2 ^ 31) (kt : b < a → WP G d M Q tgt L S h) (kf : ¬ b < a → WP G d M Q (pc + 3) L S h) : WP G d M Q pc L (.int (nI b) :: .int (nI a) :: S) h := wp_icmp_gt hd ht (fun q => kt ((nI_ltI hb ha).mp q)) (fun q => kf (fun z => q ((nI_ltI hb ha).mpr z)))
theorem wp_if_gtN {a : Nat} {off : Int} {tgt : Nat} (hd : decode M.2.1 pc = .ok (.ifCond .gt off, 3)) (ht : (pc : Int) + off = (tgt : Int)) (ha : a < 2 ^ 31) (kt : 0 < a → WP G d M Q tgt L S h) (kf : ¬ 0 < a → WP G d M Q (pc + 3) L S h) : WP G d M Q pc L (.int (nI a) :: S) h := wp_if_gt hd ht (fun q => kt ((nI_ltI (show 0 < 2 ^ 31 by decide) ha).mp q)) (fun q => kf (fun z => q ((nI_ltI (show 0 < 2 ^ 31 by decide) ha).mpr z)))
theorem wp_icmp_leN {a b : Nat} {off : Int} {tgt : Nat} (hd : decode M.2.1 pc = .ok (.if_icmp .le off, 3)) (ht : (pc : Int) + off = (tgt : Int)) (ha : a < 2 ^ 31) (hb : b < 2 ^ 31) (kt : a ≤ b → WP G d M Q tgt L S h) (kf : ¬ a ≤ b → WP G d M Q (pc + 3) L S h) : WP G d M Q pc L (.int (nI b) :: .int (nI a) :: S) h := wp_icmp_le hd ht (fun q => kt ((nI_leI ha hb).mp q)) (fun q => kf (fun z => q ((nI_leI ha hb).mpr z)))
theorem wp_if_leN {a : Nat} {off : Int} {tgt : Nat} (hd : decode M.2.1 pc = .ok (.ifCond .le off, 3)) (ht : (pc : Int) + off = (tgt : Int)) (ha : a < 2 ^ 31) (kt : a ≤ 0 → WP G d M Q tgt L S h) (kf : ¬ a ≤ 0 → WP G d M Q (pc + 3) L S h) : WP G d M Q pc L (.int (nI a) :: S) h := wp_if_le hd ht (fun q => kt ((nI_leI ha (show 0 < 2 ^ 31 by decide)).mp q)) (fun q => kf (fun z => q ((nI_leI ha (show 0 < 2 ^ 31 by decide)).mpr z)))
theorem wp_if_eqB {b : Bool} {off : Int} {tgt : Nat} (hd : decode M.2.1 pc = .ok (.ifCond .eq off, 3)) (ht : (pc : Int) + off = (tgt : Int)) (kt : b = false → WP G d M Q tgt L S h) (kf : b = true → WP G d M Q (pc + 3) L S h) : WP G d M Q pc L (.int (bI b) :: S) h := wp_if_eq hd ht (fun q => kt (by cases b with | false => rfl | true => exact absurd q (by decide))) (fun q => kf (by cases b with | false => exact absurd rfl q | true => rfl))
theorem wp_if_neB {b : Bool} {off : Int} {tgt : Nat} (hd : decode M.2.1 pc = .ok (.ifCond .ne off, 3)) (ht : (pc : Int) + off = (tgt : Int)) (kt : b = true → WP G d M Q tgt L S h) (kf : b = false → WP G d M Q (pc + 3) L S h) : WP G d M Q pc L (.int (bI b) :: S) h := wp_if_ne hd ht (fun q => kt (by cases b with | false => exact absurd rfl q | true => rfl)) (fun q => kf (by cases b with | false => rfl | true => exact absurd q (by decide)))
theorem wp_iincN {i a n : Nat} {L1 : List (Option Value)} (hd : decode M.2.1 pc = .ok (.iinc i (n : Int), 3)) (hx : L[i]? = some (some (.int (nI a)))) (hn : nl L i = true) (hb : i < M.2.2.1) (hL : L.set i (some (.int (nI (a + n)))) = L1) (k : WP G d M Q (pc + 3) L1 S h) : WP G d M Q pc L S h := wp_iinc hd hx (by rw [ofInt_nat, nI_add]) hn hb hL k
theorem wp_idecN {i a : Nat} {L1 : List (Option Value)} (hd : decode M.2.1 pc = .ok (.iinc i (-1), 3)) (hx : L[i]? = some (some (.int (nI a)))) (ha : 0 < a) (hn : nl L i = true) (hb : i < M.2.2.1) (hL : L.set i (some (.int (nI (a - 1)))) = L1) (k : WP G d M Q (pc + 3) L1 S h) : WP G d M Q pc L S h := wp_iinc hd hx (by show nI a + (-1) = nI (a - 1); exact sb_m1 ha) hn hb hL k
theorem shp_small {a n : Nat} {fl : List (Option Nat)} {x : Nat} (hsh : shp[a]? = some (x, n, fl)) : n < 2 ^ 31 := by
  have h : shp.all (fun q => Nat.blt q.2.1 2000) = true := by decide +kernel
  have := List.all_eq_true.mp h _ (List.mem_of_getElem? hsh)
  have h2 : n < 2000 := by simpa using this
  omega
theorem wp_ialdN {a n j : Nat} {fl : List (Option Nat)} (hd : decode M.2.1 pc = .ok (.iaload, 1)) (hsh : shp[a]? = some (1, n, fl)) (hin : j < n) {v : Int32} (hv : h a j = v) (k : WP G d M Q (pc + 1) L (.int v :: S) h) : WP G d M Q pc L (.int (nI j) :: .ref a :: S) h := wp_iald hd hsh (vp_in_nI hin (shp_small hsh)) (by rw [nI_clamp (Nat.lt_trans hin (shp_small hsh))]; exact hv) k
theorem wp_baldN {a n j : Nat} {fl : List (Option Nat)} (hd : decode M.2.1 pc = .ok (.baload, 1)) (hsh : shp[a]? = some (2, n, fl)) (hin : j < n) {v : Int32} (hv : h a j = v) (k : WP G d M Q (pc + 1) L (.int v :: S) h) : WP G d M Q pc L (.int (nI j) :: .ref a :: S) h := wp_bald hd hsh (vp_in_nI hin (shp_small hsh)) (by rw [nI_clamp (Nat.lt_trans hin (shp_small hsh))]; exact hv) k
theorem wp_iastN {a n j : Nat} {fl : List (Option Nat)} {x : Int32} (hd : decode M.2.1 pc = .ok (.iastore, 1)) (hsh : shp[a]? = some (1, n, fl)) (hin : j < n) (k : WP G d M Q (pc + 1) L S (hs h a j x)) : WP G d M Q pc L (.int x :: .int (nI j) :: .ref a :: S) h := wp_iast hd hsh (vp_in_nI hin (shp_small hsh)) (nI_clamp (Nat.lt_trans hin (shp_small hsh))) k
theorem wp_bastN {a n j : Nat} {fl : List (Option Nat)} {x : Int32} (hd : decode M.2.1 pc = .ok (.bastore, 1)) (hsh : shp[a]? = some (2, n, fl)) (hin : j < n) (hx : vp_nar .boolean x = x) (k : WP G d M Q (pc + 1) L S (hs h a j x)) : WP G d M Q pc L (.int x :: .int (nI j) :: .ref a :: S) h := wp_bast hd hsh (vp_in_nI hin (shp_small hsh)) hx (nI_clamp (Nat.lt_trans hin (shp_small hsh))) k
theorem wp_aaldN {a n b j : Nat} (hd : decode M.2.1 pc = .ok (.aaload, 1)) (hsh : shp[a]? = some (3, n, [some b])) (hin : j < n) (hb : b + n ≤ 112) (k : WP G d M Q (pc + 1) L (.ref (b + j) :: S) h) : WP G d M Q pc L (.int (nI j) :: .ref a :: S) h := wp_aald hd hsh (vp_in_nI hin (shp_small hsh)) (nI_clamp (Nat.lt_trans hin (shp_small hsh))) hb k
theorem wp_maxN {ix a b : Nat} (hw : Cond.methodLink M.1.cls ix Lib.Math.max.name ∈ wAll ∧ Cond.static Lib.Math.max.name ∈ wAll ∧ Cond.initialized "java/lang/Math" ∈ wAll ∧ Cond.code Lib.Math.max.name Lib.Math.max.code 2 (some .int) ∈ wAll) (hd : decode M.2.1 pc = .ok (.invokestatic ix, 3)) (ha : a < 2 ^ 31) (hb : b < 2 ^ 31) (hr : Nat.ble ((S.map fun v => v.category).sum) 8 = true) (k : WP G (d + 1) M Q (pc + 3) L (.int (nI (max a b)) :: S) h) : WP G (d + 1) M Q pc L (.int (nI b) :: .int (nI a) :: S) h := wp_max hw hd hr (by
  rw [show (if nI a < nI b then nI b else nI a) = nI (max a b) by
    by_cases q : a < b
    · rw [if_pos ((nI_ltI ha hb).mpr q), Nat.max_eq_right (Nat.le_of_lt q)]
    · rw [if_neg (fun z => q ((nI_ltI ha hb).mp z)), Nat.max_eq_left (by omega)]]
  exact k)
theorem wp_minN {ix a b : Nat} (hw : Cond.methodLink M.1.cls ix Lib.Math.min.name ∈ wAll ∧ Cond.static Lib.Math.min.name ∈ wAll ∧ Cond.initialized "java/lang/Math" ∈ wAll ∧ Cond.code Lib.Math.min.name Lib.Math.min.code 2 (some .int) ∈ wAll) (hd : decode M.2.1 pc = .ok (.invokestatic ix, 3)) (ha : a < 2 ^ 31) (hb : b < 2 ^ 31) (hr : Nat.ble ((S.map fun v => v.category).sum) 8 = true) (k : WP G (d + 1) M Q (pc + 3) L (.int (nI (min a b)) :: S) h) : WP G (d + 1) M Q pc L (.int (nI b) :: .int (nI a) :: S) h := wp_min hw hd hr (by
  rw [show (if nI b < nI a then nI b else nI a) = nI (min a b) by
    by_cases q : b < a
    · rw [if_pos ((nI_ltI hb ha).mpr q), Nat.min_eq_right (Nat.le_of_lt q)]
    · rw [if_neg (fun z => q ((nI_ltI hb ha).mp z)), Nat.min_eq_left (by omega)]]
  exact k)
theorem wp_i2lN {a : Nat} (hd : decode M.2.1 pc = .ok (.i2l, 1)) (ha : a < 2 ^ 31) (k : WP G d M Q (pc + 1) L (.long (lN a) :: S) h) : WP G d M Q pc L (.int (nI a) :: S) h := wp_i2l hd (nI_l ha) k
end WPN
