/-! the reference's limits -/
def zsa (f : Nat → Int32) : Nat → Int64
  | 0 => 0
  | n + 1 => zsa f n + Int32.toInt64 (f n)
theorem zfac0 {s : Nat} (h : s < 5) : v_X4_factor (nI (s + 2)) 1880 1023 729 577 483 = zTab 0 s := by
  match s, h with
  | 0, _ => decide
  | 1, _ => decide
  | 2, _ => decide
  | 3, _ => decide
  | 4, _ => decide
  | s + 5, h => exact absurd h (by omega)
theorem zfac1 {s : Nat} (h : s < 5) : v_X4_factor (nI (s + 2)) 3267 2574 2282 2114 2004 = zTab 1 s := by
  match s, h with
  | 0, _ => decide
  | 1, _ => decide
  | 2, _ => decide
  | 3, _ => decide
  | 4, _ => decide
  | s + 5, h => exact absurd h (by omega)
theorem zfac2 {s : Nat} (h : s < 5) : v_X4_factor (nI (s + 2)) 1128 1693 2059 2326 2534 = zTab 2 s := by
  match s, h with
  | 0, _ => decide
  | 1, _ => decide
  | 2, _ => decide
  | 3, _ => decide
  | 4, _ => decide
  | s + 5, h => exact absurd h (by omega)
theorem znz {a b : Nat} (ha : 0 < a) (hb : 0 < b) (ha2 : a < 100) (hb2 : b < 100) : ¬ 2 * (Int32.toInt64 (nI a) * Int32.toInt64 (nI b)) = 0 := by
  rw [nI_l (by omega), nI_l (by omega), lN_mul, show (2 : Int64) = lN 2 from rfl, lN_mul, show (0 : Int64) = lN 0 from rfl]
  have h1 : 0 < a * b := Nat.mul_pos ha hb
  have h2 : a * b < 100 * 100 := Nat.mul_lt_mul'' ha2 hb2
  rw [pk_lEQ (by omega) (by omega)]
  omega
theorem znz1 {b : Nat} (hb : 0 < b) (hb2 : b < 100) : ¬ 2 * Int32.toInt64 (nI b) = 0 := by
  rw [nI_l (by omega), show (2 : Int64) = lN 2 from rfl, lN_mul, show (0 : Int64) = lN 0 from rfl, pk_lEQ (by omega) (by omega)]
  omega
def zSF (μ : zM) (ph : Nat → Nat) (t d : Nat) (a : Nat) : Nat → Int32 := fun j => μ.1 a (zpx ph (μ.1 24) t d j)
def zWd (s : Nat) (i : Nat) (m : Int32) : Int32 := zrdM (Int32.toInt64 (zTab i s) * Int32.toInt64 m) 1000
def zLCp (μ : zM) (ph : Nat → Nat) (t d s : Nat) : Int32 := zrdM (1000 * zsa (zSF μ ph t d 22) (zpc ph (μ.1 24) t d)) (Int32.toInt64 (nI (s + 2)) * Int32.toInt64 (nI (zpc ph (μ.1 24) t d)))
def zLRp (μ : zM) (ph : Nat → Nat) (t d : Nat) : Int32 := zrdM (1000 * zsa (zSF μ ph t d 23) (zpc ph (μ.1 24) t d)) (Int32.toInt64 (nI (zpc ph (μ.1 24) t d)))
def zLC (μ : zM) (ph : Nat → Nat) (t d s : Nat) : Int32 := if μ.1 26 t = 0 then zLCp μ ph t d s else μ.1 27 t
def zLR (μ : zM) (ph : Nat → Nat) (t d : Nat) : Int32 := if μ.1 26 t = 0 then zLRp μ ph t d else μ.1 28 t
def zLmM (μ : zM) (ph : Nat → Nat) (t d s : Nat) (C m : Int32) : zM := zu (zu (zu (zu (zu (zpM μ ph t d) 21 15 1) 21 16 C) 21 17 m) 21 18 (zWd s 0 m)) 21 19 (zWd s 1 m)
def zHas (μ : zM) (ph : Nat → Nat) (t d : Nat) : Prop := ¬ μ.1 26 t = 0 ∨ 0 < zpc ph (μ.1 24) t d
set_option maxRecDepth 100000 in
set_option maxHeartbeats 4000000 in
theorem l_X4_laysLimits {x : zX} {g : zG} {t : Nat} {μ : zM} {d c s : Nat} {ph fs : Nat → Nat}  (S : zS x g 7 cX4_laysLimits RX4) (hn : zn g = 32) (h : zMP μ d c ph fs) (hd : μ.1 21 1 = nI d) (hd60 : d ≤ 60) (hs : μ.1 21 0 = nI (s + 2)) (hs5 : s < 5)  (ht : t < c) (hk : zK x g ({ frames := 3, cells := 0, slots := 0, locals := 71 } : Room) 7 0 0 64 [some (.ref (za g 21)), some (.int (nI t)), some (.long (zsa (zSF μ ph t d 22) (zpc ph (μ.1 24) t d))), none, some (.long (zsa (zSF μ ph t d 23) (zpc ph (μ.1 24) t d))), none, some (.int (nI (zpc ph (μ.1 24) t d)))] [] (zpM μ ph t d)) : ∀ (m n : Nat), n + m = zpc ph (μ.1 24) t d → zK x g ({ frames := 3, cells := 0, slots := 0, locals := 71 } : Room) 7 0 0 15 [some (.ref (za g 21)), some (.int (nI t)), some (.long (zsa (zSF μ ph t d 22) n)), none, some (.long (zsa (zSF μ ph t d 23) n)), none, some (.int (nI n))] [] (zpM μ ph t d) := by
  intro m
  induction m with
  | zero =>
    intro n h1
    have e9 : n = zpc ph (μ.1 24) t d := by omega
    refine k_iload6 S dX4_laysLimits_15 (n := 17) rfl ?_
    refine k_aload0 S dX4_laysLimits_17 (n := 18) rfl ?_
    refine k_getv (v := nI (zpc ph (μ.1 24) t d)) (T := TX4) (j := 20) S dX4_laysLimits_18 (by rw [hn]; decide) (by decide) (ci := 4) rfl rfl (by decide) in_4 m_692 rfl rfl (zpM_n μ ph t d) (n := 21) rfl ?_
    refine k_icmp_ge S dX4_laysLimits_21 (tgt := 64) (by decide) (n := 24) rfl (fun _ => ?_) (fun h9 => absurd (nI_le (by omega) (by have := zpc_le ph (μ.1 24) t d; omega)) h9)
    rw [e9]
    exact hk
  | succ m ih =>
    intro n h1
    have hle := zpc_le ph (μ.1 24) t d
    have hx := zpx_lt ph (μ.1 24) t d n (by omega)
    refine k_iload6 S dX4_laysLimits_15 (n := 17) rfl ?_
    refine k_aload0 S dX4_laysLimits_17 (n := 18) rfl ?_
    refine k_getv (v := nI (zpc ph (μ.1 24) t d)) (T := TX4) (j := 20) S dX4_laysLimits_18 (by rw [hn]; decide) (by decide) (ci := 4) rfl rfl (by decide) in_4 m_692 rfl rfl (zpM_n μ ph t d) (n := 21) rfl ?_
    refine k_icmp_ge S dX4_laysLimits_21 (tgt := 64) (by decide) (n := 24) rfl (fun h9 => absurd h9 (nI_ge (by omega) (by omega))) (fun _ => ?_)
    refine k_lload2 S dX4_laysLimits_24 (n := 25) rfl ?_
    refine k_aload0 S dX4_laysLimits_25 (n := 26) rfl ?_
    refine k_getr (r := 22) (T := TX4) (j := 6) S dX4_laysLimits_26 (by rw [hn]; decide) (by decide) (ci := 4) rfl rfl (by decide) in_4 m_678 rfl rfl (n := 29) rfl ?_
    refine k_aload0 S dX4_laysLimits_29 (n := 30) rfl ?_
    refine k_getr (r := 29) (T := TX4) (j := 21) S dX4_laysLimits_30 (by rw [hn]; decide) (by decide) (ci := 4) rfl rfl (by decide) in_4 m_693 rfl rfl (n := 33) rfl ?_
    refine k_iload6 S dX4_laysLimits_33 (n := 35) rfl ?_
    refine k_ialdv (v := nI (zpx ph (μ.1 24) t d n)) S dX4_laysLimits_35 (j := n) (by rw [hn]; decide) (by decide) rfl (show n < 60 by omega) (by decide) (zpM_pt μ ph t d n (by omega)).1 (n := 36) rfl ?_
    refine k_ialdv (v := zSF μ ph t d 22 n) S dX4_laysLimits_36 (j := (zpx ph (μ.1 24) t d n)) (by rw [hn]; decide) (by decide) rfl (show zpx ph (μ.1 24) t d n < 60 by omega) (by decide) (zpM_off μ ph t (by decide) (by decide) (Or.inl (by decide)) d) (n := 37) rfl ?_
    refine k_i2l S dX4_laysLimits_37 (n := 38) rfl ?_
    refine k_ladd S dX4_laysLimits_38 (n := 39) rfl ?_
    refine k_lstore2 S dX4_laysLimits_39 (by decide) rfl (n := 40) rfl ?_
    refine k_lload4 S dX4_laysLimits_40 (n := 42) rfl ?_
    refine k_aload0 S dX4_laysLimits_42 (n := 43) rfl ?_
    refine k_getr (r := 23) (T := TX4) (j := 7) S dX4_laysLimits_43 (by rw [hn]; decide) (by decide) (ci := 4) rfl rfl (by decide) in_4 m_679 rfl rfl (n := 46) rfl ?_
    refine k_aload0 S dX4_laysLimits_46 (n := 47) rfl ?_
    refine k_getr (r := 29) (T := TX4) (j := 21) S dX4_laysLimits_47 (by rw [hn]; decide) (by decide) (ci := 4) rfl rfl (by decide) in_4 m_693 rfl rfl (n := 50) rfl ?_
    refine k_iload6 S dX4_laysLimits_50 (n := 52) rfl ?_
    refine k_ialdv (v := nI (zpx ph (μ.1 24) t d n)) S dX4_laysLimits_52 (j := n) (by rw [hn]; decide) (by decide) rfl (show n < 60 by omega) (by decide) (zpM_pt μ ph t d n (by omega)).1 (n := 53) rfl ?_
    refine k_ialdv (v := zSF μ ph t d 23 n) S dX4_laysLimits_53 (j := (zpx ph (μ.1 24) t d n)) (by rw [hn]; decide) (by decide) rfl (show zpx ph (μ.1 24) t d n < 60 by omega) (by decide) (zpM_off μ ph t (by decide) (by decide) (Or.inl (by decide)) d) (n := 54) rfl ?_
    refine k_i2l S dX4_laysLimits_54 (n := 55) rfl ?_
    refine k_ladd S dX4_laysLimits_55 (n := 56) rfl ?_
    refine k_lstore4 S dX4_laysLimits_56 (by decide) rfl (n := 58) rfl ?_
    refine k_iinc6 S dX4_laysLimits_58 (v := nI (n + 1)) (zi1 n) (by decide) (n := 61) rfl ?_
    refine k_goto S dX4_laysLimits_61 (tgt := 15) (by decide) ?_
    exact ih (n + 1) (by omega)
set_option maxRecDepth 100000 in
set_option maxHeartbeats 4000000 in
theorem c_X4_laysLimits_fz {l : Launch} {g : zG} {t : Nat} {μ : zM} {d c s : Nat} {ph fs : Nat → Nat}  (hn : zn g = 32) (h : zMP μ d c ph fs) (hd : μ.1 21 1 = nI d) (hd60 : d ≤ 60) (hs : μ.1 21 0 = nI (s + 2)) (hs5 : s < 5) (ht : t < c) (hz : ¬ μ.1 26 t = 0) : zC l g yX4_laysLimits cX4_laysLimits 7 none ({ frames := 3, cells := 0, slots := 0, locals := 71 } : Room) 0 0 [.ref (za g 21), .int (nI t)] μ (zRv none (zLmM μ ph t d s (μ.1 27 t) (μ.1 28 t))) zNX := by
  refine zC_of (L0 := [some (.ref (za g 21)), some (.int (nI t)), none, none, none, none, none]) (plainFor_of_name (by decide)) (Nat.le_of_ble_eq_true rfl) rfl ?_
  intro x S Y hxl
  subst hxl
  refine k_aload0 S dX4_laysLimits_0 (n := 1) rfl ?_
  refine k_iload1 S dX4_laysLimits_1 (n := 2) rfl ?_
  refine k_bipush S dX4_laysLimits_2 (v := 59) (by decide) (n := 4) rfl ?_
  refine k_callV (As := [.int (nI t), .int 59]) (rest := []) (p := 21) S (c_X4_laysPoints (t := t) (q := 59) (N := d) hn h hd hd60 (by have := h.2.1; omega) (by decide) (Nat.le_refl d) (by omega) (Or.inl rfl) hs hs5) mv_X4_laysPoints m_777 dX4_laysLimits_4 rfl rfl ⟨by decide, by decide⟩ (by rw [hn]; decide) (by decide) (ci := 4) rfl rfl rfl (Nat.le_of_ble_eq_true rfl) ⟨by decide, by decide⟩ (n := 7) rfl (fun _ _ h => h.elim) (fun v9 ν9 h9 => ?_)
  rw [h9.1, h9.2]
  show zK x g ({ frames := 3, cells := 0, slots := 0, locals := 71 } : Room) 7 0 0 7 [some (.ref (za g 21)), some (.int (nI t)), none, none, none, none, none] [] (zpM μ ph t d)
  refine k_lconst S dX4_laysLimits_7 (v := 0) (by decide) (n := 8) rfl ?_
  refine k_lstore2 S dX4_laysLimits_8 (by decide) rfl (n := 9) rfl ?_
  refine k_lconst S dX4_laysLimits_9 (v := 0) (by decide) (n := 10) rfl ?_
  refine k_lstore4 S dX4_laysLimits_10 (by decide) rfl (n := 12) rfl ?_
  refine k_iconst S dX4_laysLimits_12 (v := 0) (by decide) (n := 13) rfl ?_
  refine k_istore6 S dX4_laysLimits_13 (by decide) rfl (n := 15) rfl ?_
  refine l_X4_laysLimits S hn h hd hd60 hs hs5 ht ?_ (zpc ph (μ.1 24) t d) 0 (Nat.zero_add _)
  have h10 := h.2.1
  have hpd := zpc_le ph (μ.1 24) t d
  refine k_aload0 S dX4_laysLimits_64 (n := 65) rfl ?_
  refine k_aload0 S dX4_laysLimits_65 (n := 66) rfl ?_
  refine k_getr (r := 26) (T := TX4) (j := 11) S dX4_laysLimits_66 (by rw [hn]; decide) (by decide) (ci := 4) rfl rfl (by decide) in_4 m_683 rfl rfl (n := 69) rfl ?_
  refine k_iload1 S dX4_laysLimits_69 (n := 70) rfl ?_
  refine k_zaldv (v := μ.1 26 t) S dX4_laysLimits_70 (j := t) (by rw [hn]; decide) (by decide) rfl (show t < 10 by omega) (by decide) (by first | exact (zpM_off μ ph t (by decide) (by decide) (Or.inl (by decide)) d) | (simp [zu]; exact (zpM_off μ ph t (by decide) (by decide) (Or.inl (by decide)) d))) (n := 71) rfl ?_
  refine k_if_ne S dX4_laysLimits_71 (tgt := 81) (by decide) (n := 74) rfl (fun _ => ?_) (fun h9 => absurd h9 (hz))
  refine k_iconst S dX4_laysLimits_81 (v := 1) (by decide) (n := 82) rfl ?_
  refine k_goto S dX4_laysLimits_82 (tgt := 86) (by decide) ?_
  refine k_put (T := TX4) (j := 15) S dX4_laysLimits_86 (by rw [hn]; decide) (by decide) (ci := 4) rfl rfl (by decide) in_4 m_687 rfl rfl (ty0 := tyX4) tyX4_ok nmX4 rfl rfl rfl (n := 89) rfl ?_
  refine k_aload0 S dX4_laysLimits_89 (n := 90) rfl ?_
  refine k_getv (v := 1) (T := TX4) (j := 15) S dX4_laysLimits_90 (by rw [hn]; decide) (by decide) (ci := 4) rfl rfl (by decide) in_4 m_687 rfl rfl (by simp [zu, zset, upd]) (n := 93) rfl ?_
  refine k_if_eq S dX4_laysLimits_93 (tgt := 251) (by decide) (n := 96) rfl (fun h9 => absurd h9 (by decide)) (fun _ => ?_)
  refine k_aload0 S dX4_laysLimits_96 (n := 97) rfl ?_
  refine k_aload0 S dX4_laysLimits_97 (n := 98) rfl ?_
  refine k_getr (r := 26) (T := TX4) (j := 11) S dX4_laysLimits_98 (by rw [hn]; decide) (by decide) (ci := 4) rfl rfl (by decide) in_4 m_683 rfl rfl (n := 101) rfl ?_
  refine k_iload1 S dX4_laysLimits_101 (n := 102) rfl ?_
  refine k_zaldv (v := μ.1 26 t) S dX4_laysLimits_102 (j := t) (by rw [hn]; decide) (by decide) rfl (show t < 10 by omega) (by decide) (by first | exact (zpM_off μ ph t (by decide) (by decide) (Or.inl (by decide)) d) | (simp [zu]; exact (zpM_off μ ph t (by decide) (by decide) (Or.inl (by decide)) d))) (n := 103) rfl ?_
  refine k_if_eq S dX4_laysLimits_103 (tgt := 115) (by decide) (n := 106) rfl (fun h9 => absurd h9 (hz)) (fun _ => ?_)
  refine k_aload0 S dX4_laysLimits_106 (n := 107) rfl ?_
  refine k_getr (r := 27) (T := TX4) (j := 12) S dX4_laysLimits_107 (by rw [hn]; decide) (by decide) (ci := 4) rfl rfl (by decide) in_4 m_684 rfl rfl (n := 110) rfl ?_
  refine k_iload1 S dX4_laysLimits_110 (n := 111) rfl ?_
  refine k_ialdv (v := μ.1 27 t) S dX4_laysLimits_111 (j := t) (by rw [hn]; decide) (by decide) rfl (show t < 10 by omega) (by decide) (by simp [zu]; exact (zpM_off μ ph t (by decide) (by decide) (Or.inl (by decide)) d)) (n := 112) rfl ?_
  refine k_goto S dX4_laysLimits_112 (tgt := 134) (by decide) ?_
  refine k_put (T := TX4) (j := 16) S dX4_laysLimits_134 (by rw [hn]; decide) (by decide) (ci := 4) rfl rfl (by decide) in_4 m_688 rfl rfl (ty0 := tyX4) tyX4_ok nmX4 rfl rfl rfl (n := 137) rfl ?_
  refine k_aload0 S dX4_laysLimits_137 (n := 138) rfl ?_
  refine k_aload0 S dX4_laysLimits_138 (n := 139) rfl ?_
  refine k_getr (r := 26) (T := TX4) (j := 11) S dX4_laysLimits_139 (by rw [hn]; decide) (by decide) (ci := 4) rfl rfl (by decide) in_4 m_683 rfl rfl (n := 142) rfl ?_
  refine k_iload1 S dX4_laysLimits_142 (n := 143) rfl ?_
  refine k_zaldv (v := μ.1 26 t) S dX4_laysLimits_143 (j := t) (by rw [hn]; decide) (by decide) rfl (show t < 10 by omega) (by decide) (by first | exact (zpM_off μ ph t (by decide) (by decide) (Or.inl (by decide)) d) | (simp [zu]; exact (zpM_off μ ph t (by decide) (by decide) (Or.inl (by decide)) d))) (n := 144) rfl ?_
  refine k_if_eq S dX4_laysLimits_144 (tgt := 156) (by decide) (n := 147) rfl (fun h9 => absurd h9 (hz)) (fun _ => ?_)
  refine k_aload0 S dX4_laysLimits_147 (n := 148) rfl ?_
  refine k_getr (r := 28) (T := TX4) (j := 13) S dX4_laysLimits_148 (by rw [hn]; decide) (by decide) (ci := 4) rfl rfl (by decide) in_4 m_685 rfl rfl (n := 151) rfl ?_
  refine k_iload1 S dX4_laysLimits_151 (n := 152) rfl ?_
  refine k_ialdv (v := μ.1 28 t) S dX4_laysLimits_152 (j := t) (by rw [hn]; decide) (by decide) rfl (show t < 10 by omega) (by decide) (by simp [zu]; exact (zpM_off μ ph t (by decide) (by decide) (Or.inl (by decide)) d)) (n := 153) rfl ?_
  refine k_goto S dX4_laysLimits_153 (tgt := 170) (by decide) ?_
  refine k_put (T := TX4) (j := 17) S dX4_laysLimits_170 (by rw [hn]; decide) (by decide) (ci := 4) rfl rfl (by decide) in_4 m_689 rfl rfl (ty0 := tyX4) tyX4_ok nmX4 rfl rfl rfl (n := 173) rfl ?_
  refine k_aload0 S dX4_laysLimits_173 (n := 174) rfl ?_
  refine k_aload0 S dX4_laysLimits_174 (n := 175) rfl ?_
  refine k_getv (v := nI (s + 2)) (T := TX4) (j := 0) S dX4_laysLimits_175 (by rw [hn]; decide) (by decide) (ci := 4) rfl rfl (by decide) in_4 m_672 rfl rfl (by simp [zu]; rw [zpM_off μ ph t (by decide) (by decide) (Or.inr (by decide)) d]; exact hs) (n := 178) rfl ?_
  refine k_sipush S dX4_laysLimits_178 (v := 1880) (by decide) (n := 181) rfl ?_
  refine k_sipush S dX4_laysLimits_181 (v := 1023) (by decide) (n := 184) rfl ?_
  refine k_sipush S dX4_laysLimits_184 (v := 729) (by decide) (n := 187) rfl ?_
  refine k_sipush S dX4_laysLimits_187 (v := 577) (by decide) (n := 190) rfl ?_
  refine k_sipush S dX4_laysLimits_190 (v := 483) (by decide) (n := 193) rfl ?_
  refine k_callS (As := [.int (nI (s + 2)), .int 1880, .int 1023, .int 729, .int 577, .int 483]) (rest := [.ref (za g 21)]) S (c_X4_factor) mv_X4_factor m_793 dX4_laysLimits_193 rfl rfl ⟨by decide, by decide⟩ rfl rfl (Nat.le_of_ble_eq_true rfl) ⟨by decide, by decide⟩ (n := 196) rfl (fun _ _ h => h.elim) (fun v9 ν9 h9 => ?_)
  rw [h9.1, h9.2]
  show zK x g ({ frames := 3, cells := 0, slots := 0, locals := 71 } : Room) 7 0 0 196 [some (.ref (za g 21)), some (.int (nI t)), some (.long (zsa (zSF μ ph t d 22) (zpc ph (μ.1 24) t d))), none, some (.long (zsa (zSF μ ph t d 23) (zpc ph (μ.1 24) t d))), none, some (.int (nI (zpc ph (μ.1 24) t d)))] [.int (v_X4_factor (nI (s + 2)) 1880 1023 729 577 483), .ref (za g 21)] (zu (zu (zu (zpM μ ph t d) 21 15 1) 21 16 (μ.1 27 t)) 21 17 (μ.1 28 t))
  rw [zfac0 hs5]
  refine k_i2l S dX4_laysLimits_196 (n := 197) rfl ?_
  refine k_aload0 S dX4_laysLimits_197 (n := 198) rfl ?_
  refine k_getv (v := μ.1 28 t) (T := TX4) (j := 17) S dX4_laysLimits_198 (by rw [hn]; decide) (by decide) (ci := 4) rfl rfl (by decide) in_4 m_689 rfl rfl (by simp [zu, zset, upd]) (n := 201) rfl ?_
  refine k_i2l S dX4_laysLimits_201 (n := 202) rfl ?_
  refine k_lmul S dX4_laysLimits_202 (n := 203) rfl ?_
  refine k_ldc2 S dX4_laysLimits_203 (v := 1000) m_785 (n := 206) rfl ?_
  refine k_callS (As := [.long ((Int32.toInt64 (zTab 0 s)) * (Int32.toInt64 (μ.1 28 t))), .long 1000]) (rest := [.ref (za g 21)]) S (c_X4_rounded (by decide)) mv_X4_rounded m_786 dX4_laysLimits_206 rfl rfl ⟨by decide, by decide⟩ rfl rfl (Nat.le_of_ble_eq_true rfl) ⟨by decide, by decide⟩ (n := 209) rfl (fun _ _ h => h.elim) (fun v9 ν9 h9 => ?_)
  rw [h9.1, h9.2]
  show zK x g ({ frames := 3, cells := 0, slots := 0, locals := 71 } : Room) 7 0 0 209 [some (.ref (za g 21)), some (.int (nI t)), some (.long (zsa (zSF μ ph t d 22) (zpc ph (μ.1 24) t d))), none, some (.long (zsa (zSF μ ph t d 23) (zpc ph (μ.1 24) t d))), none, some (.int (nI (zpc ph (μ.1 24) t d)))] [.int (zrdM ((Int32.toInt64 (zTab 0 s)) * (Int32.toInt64 (μ.1 28 t))) 1000), .ref (za g 21)] (zu (zu (zu (zpM μ ph t d) 21 15 1) 21 16 (μ.1 27 t)) 21 17 (μ.1 28 t))
  refine k_put (T := TX4) (j := 18) S dX4_laysLimits_209 (by rw [hn]; decide) (by decide) (ci := 4) rfl rfl (by decide) in_4 m_690 rfl rfl (ty0 := tyX4) tyX4_ok nmX4 rfl rfl rfl (n := 212) rfl ?_
  refine k_aload0 S dX4_laysLimits_212 (n := 213) rfl ?_
  refine k_aload0 S dX4_laysLimits_213 (n := 214) rfl ?_
  refine k_getv (v := nI (s + 2)) (T := TX4) (j := 0) S dX4_laysLimits_214 (by rw [hn]; decide) (by decide) (ci := 4) rfl rfl (by decide) in_4 m_672 rfl rfl (by simp [zu]; rw [zpM_off μ ph t (by decide) (by decide) (Or.inr (by decide)) d]; exact hs) (n := 217) rfl ?_
  refine k_sipush S dX4_laysLimits_217 (v := 3267) (by decide) (n := 220) rfl ?_
  refine k_sipush S dX4_laysLimits_220 (v := 2574) (by decide) (n := 223) rfl ?_
  refine k_sipush S dX4_laysLimits_223 (v := 2282) (by decide) (n := 226) rfl ?_
  refine k_sipush S dX4_laysLimits_226 (v := 2114) (by decide) (n := 229) rfl ?_
  refine k_sipush S dX4_laysLimits_229 (v := 2004) (by decide) (n := 232) rfl ?_
  refine k_callS (As := [.int (nI (s + 2)), .int 3267, .int 2574, .int 2282, .int 2114, .int 2004]) (rest := [.ref (za g 21)]) S (c_X4_factor) mv_X4_factor m_793 dX4_laysLimits_232 rfl rfl ⟨by decide, by decide⟩ rfl rfl (Nat.le_of_ble_eq_true rfl) ⟨by decide, by decide⟩ (n := 235) rfl (fun _ _ h => h.elim) (fun v9 ν9 h9 => ?_)
  rw [h9.1, h9.2]
  show zK x g ({ frames := 3, cells := 0, slots := 0, locals := 71 } : Room) 7 0 0 235 [some (.ref (za g 21)), some (.int (nI t)), some (.long (zsa (zSF μ ph t d 22) (zpc ph (μ.1 24) t d))), none, some (.long (zsa (zSF μ ph t d 23) (zpc ph (μ.1 24) t d))), none, some (.int (nI (zpc ph (μ.1 24) t d)))] [.int (v_X4_factor (nI (s + 2)) 3267 2574 2282 2114 2004), .ref (za g 21)] (zu (zu (zu (zu (zpM μ ph t d) 21 15 1) 21 16 (μ.1 27 t)) 21 17 (μ.1 28 t)) 21 18 (zrdM ((Int32.toInt64 (zTab 0 s)) * (Int32.toInt64 (μ.1 28 t))) 1000))
  rw [zfac1 hs5]
  refine k_i2l S dX4_laysLimits_235 (n := 236) rfl ?_
  refine k_aload0 S dX4_laysLimits_236 (n := 237) rfl ?_
  refine k_getv (v := μ.1 28 t) (T := TX4) (j := 17) S dX4_laysLimits_237 (by rw [hn]; decide) (by decide) (ci := 4) rfl rfl (by decide) in_4 m_689 rfl rfl (by simp [zu, zset, upd]) (n := 240) rfl ?_
  refine k_i2l S dX4_laysLimits_240 (n := 241) rfl ?_
  refine k_lmul S dX4_laysLimits_241 (n := 242) rfl ?_
  refine k_ldc2 S dX4_laysLimits_242 (v := 1000) m_785 (n := 245) rfl ?_
  refine k_callS (As := [.long ((Int32.toInt64 (zTab 1 s)) * (Int32.toInt64 (μ.1 28 t))), .long 1000]) (rest := [.ref (za g 21)]) S (c_X4_rounded (by decide)) mv_X4_rounded m_786 dX4_laysLimits_245 rfl rfl ⟨by decide, by decide⟩ rfl rfl (Nat.le_of_ble_eq_true rfl) ⟨by decide, by decide⟩ (n := 248) rfl (fun _ _ h => h.elim) (fun v9 ν9 h9 => ?_)
  rw [h9.1, h9.2]
  show zK x g ({ frames := 3, cells := 0, slots := 0, locals := 71 } : Room) 7 0 0 248 [some (.ref (za g 21)), some (.int (nI t)), some (.long (zsa (zSF μ ph t d 22) (zpc ph (μ.1 24) t d))), none, some (.long (zsa (zSF μ ph t d 23) (zpc ph (μ.1 24) t d))), none, some (.int (nI (zpc ph (μ.1 24) t d)))] [.int (zrdM ((Int32.toInt64 (zTab 1 s)) * (Int32.toInt64 (μ.1 28 t))) 1000), .ref (za g 21)] (zu (zu (zu (zu (zpM μ ph t d) 21 15 1) 21 16 (μ.1 27 t)) 21 17 (μ.1 28 t)) 21 18 (zrdM ((Int32.toInt64 (zTab 0 s)) * (Int32.toInt64 (μ.1 28 t))) 1000))
  refine k_put (T := TX4) (j := 19) S dX4_laysLimits_248 (by rw [hn]; decide) (by decide) (ci := 4) rfl rfl (by decide) in_4 m_691 rfl rfl (ty0 := tyX4) tyX4_ok nmX4 rfl rfl rfl (n := 251) rfl ?_
  exact k_vret S Y dX4_laysLimits_251 (by decide) (by decide) (⟨rfl, rfl⟩)
set_option maxRecDepth 100000 in
set_option maxHeartbeats 4000000 in
theorem c_X4_laysLimits_pt {l : Launch} {g : zG} {t : Nat} {μ : zM} {d c s : Nat} {ph fs : Nat → Nat}  (hn : zn g = 32) (h : zMP μ d c ph fs) (hd : μ.1 21 1 = nI d) (hd60 : d ≤ 60) (hs : μ.1 21 0 = nI (s + 2)) (hs5 : s < 5) (ht : t < c) (hz : μ.1 26 t = 0) (hp : 0 < zpc ph (μ.1 24) t d) : zC l g yX4_laysLimits cX4_laysLimits 7 none ({ frames := 3, cells := 0, slots := 0, locals := 71 } : Room) 0 0 [.ref (za g 21), .int (nI t)] μ (zRv none (zLmM μ ph t d s (zLCp μ ph t d s) (zLRp μ ph t d))) zNX := by
  refine zC_of (L0 := [some (.ref (za g 21)), some (.int (nI t)), none, none, none, none, none]) (plainFor_of_name (by decide)) (Nat.le_of_ble_eq_true rfl) rfl ?_
  intro x S Y hxl
  subst hxl
  refine k_aload0 S dX4_laysLimits_0 (n := 1) rfl ?_
  refine k_iload1 S dX4_laysLimits_1 (n := 2) rfl ?_
  refine k_bipush S dX4_laysLimits_2 (v := 59) (by decide) (n := 4) rfl ?_
  refine k_callV (As := [.int (nI t), .int 59]) (rest := []) (p := 21) S (c_X4_laysPoints (t := t) (q := 59) (N := d) hn h hd hd60 (by have := h.2.1; omega) (by decide) (Nat.le_refl d) (by omega) (Or.inl rfl) hs hs5) mv_X4_laysPoints m_777 dX4_laysLimits_4 rfl rfl ⟨by decide, by decide⟩ (by rw [hn]; decide) (by decide) (ci := 4) rfl rfl rfl (Nat.le_of_ble_eq_true rfl) ⟨by decide, by decide⟩ (n := 7) rfl (fun _ _ h => h.elim) (fun v9 ν9 h9 => ?_)
  rw [h9.1, h9.2]
  show zK x g ({ frames := 3, cells := 0, slots := 0, locals := 71 } : Room) 7 0 0 7 [some (.ref (za g 21)), some (.int (nI t)), none, none, none, none, none] [] (zpM μ ph t d)
  refine k_lconst S dX4_laysLimits_7 (v := 0) (by decide) (n := 8) rfl ?_
  refine k_lstore2 S dX4_laysLimits_8 (by decide) rfl (n := 9) rfl ?_
  refine k_lconst S dX4_laysLimits_9 (v := 0) (by decide) (n := 10) rfl ?_
  refine k_lstore4 S dX4_laysLimits_10 (by decide) rfl (n := 12) rfl ?_
  refine k_iconst S dX4_laysLimits_12 (v := 0) (by decide) (n := 13) rfl ?_
  refine k_istore6 S dX4_laysLimits_13 (by decide) rfl (n := 15) rfl ?_
  refine l_X4_laysLimits S hn h hd hd60 hs hs5 ht ?_ (zpc ph (μ.1 24) t d) 0 (Nat.zero_add _)
  have h10 := h.2.1
  have hpd := zpc_le ph (μ.1 24) t d
  refine k_aload0 S dX4_laysLimits_64 (n := 65) rfl ?_
  refine k_aload0 S dX4_laysLimits_65 (n := 66) rfl ?_
  refine k_getr (r := 26) (T := TX4) (j := 11) S dX4_laysLimits_66 (by rw [hn]; decide) (by decide) (ci := 4) rfl rfl (by decide) in_4 m_683 rfl rfl (n := 69) rfl ?_
  refine k_iload1 S dX4_laysLimits_69 (n := 70) rfl ?_
  refine k_zaldv (v := μ.1 26 t) S dX4_laysLimits_70 (j := t) (by rw [hn]; decide) (by decide) rfl (show t < 10 by omega) (by decide) (by first | exact (zpM_off μ ph t (by decide) (by decide) (Or.inl (by decide)) d) | (simp [zu]; exact (zpM_off μ ph t (by decide) (by decide) (Or.inl (by decide)) d))) (n := 71) rfl ?_
  refine k_if_ne S dX4_laysLimits_71 (tgt := 81) (by decide) (n := 74) rfl (fun h9 => absurd (hz) h9) (fun _ => ?_)
  refine k_aload0 S dX4_laysLimits_74 (n := 75) rfl ?_
  refine k_getv (v := nI (zpc ph (μ.1 24) t d)) (T := TX4) (j := 20) S dX4_laysLimits_75 (by rw [hn]; decide) (by decide) (ci := 4) rfl rfl (by decide) in_4 m_692 rfl rfl (by first | exact zpM_n μ ph t d | (simp [zu]; exact zpM_n μ ph t d)) (n := 78) rfl ?_
  refine k_if_le S dX4_laysLimits_78 (tgt := 85) (by decide) (n := 81) rfl (fun h9 => absurd h9 (nI_nle hp (by omega))) (fun _ => ?_)
  refine k_iconst S dX4_laysLimits_81 (v := 1) (by decide) (n := 82) rfl ?_
  refine k_goto S dX4_laysLimits_82 (tgt := 86) (by decide) ?_
  refine k_put (T := TX4) (j := 15) S dX4_laysLimits_86 (by rw [hn]; decide) (by decide) (ci := 4) rfl rfl (by decide) in_4 m_687 rfl rfl (ty0 := tyX4) tyX4_ok nmX4 rfl rfl rfl (n := 89) rfl ?_
  refine k_aload0 S dX4_laysLimits_89 (n := 90) rfl ?_
  refine k_getv (v := 1) (T := TX4) (j := 15) S dX4_laysLimits_90 (by rw [hn]; decide) (by decide) (ci := 4) rfl rfl (by decide) in_4 m_687 rfl rfl (by simp [zu, zset, upd]) (n := 93) rfl ?_
  refine k_if_eq S dX4_laysLimits_93 (tgt := 251) (by decide) (n := 96) rfl (fun h9 => absurd h9 (by decide)) (fun _ => ?_)
  refine k_aload0 S dX4_laysLimits_96 (n := 97) rfl ?_
  refine k_aload0 S dX4_laysLimits_97 (n := 98) rfl ?_
  refine k_getr (r := 26) (T := TX4) (j := 11) S dX4_laysLimits_98 (by rw [hn]; decide) (by decide) (ci := 4) rfl rfl (by decide) in_4 m_683 rfl rfl (n := 101) rfl ?_
  refine k_iload1 S dX4_laysLimits_101 (n := 102) rfl ?_
  refine k_zaldv (v := μ.1 26 t) S dX4_laysLimits_102 (j := t) (by rw [hn]; decide) (by decide) rfl (show t < 10 by omega) (by decide) (by first | exact (zpM_off μ ph t (by decide) (by decide) (Or.inl (by decide)) d) | (simp [zu]; exact (zpM_off μ ph t (by decide) (by decide) (Or.inl (by decide)) d))) (n := 103) rfl ?_
  refine k_if_eq S dX4_laysLimits_103 (tgt := 115) (by decide) (n := 106) rfl (fun _ => ?_) (fun h9 => absurd (hz) h9)
  refine k_ldc2 S dX4_laysLimits_115 (v := 1000) m_785 (n := 118) rfl ?_
  refine k_lload2 S dX4_laysLimits_118 (n := 119) rfl ?_
  refine k_lmul S dX4_laysLimits_119 (n := 120) rfl ?_
  refine k_aload0 S dX4_laysLimits_120 (n := 121) rfl ?_
  refine k_getv (v := nI (s + 2)) (T := TX4) (j := 0) S dX4_laysLimits_121 (by rw [hn]; decide) (by decide) (ci := 4) rfl rfl (by decide) in_4 m_672 rfl rfl (by simp [zu]; rw [zpM_off μ ph t (by decide) (by decide) (Or.inr (by decide)) d]; exact hs) (n := 124) rfl ?_
  refine k_i2l S dX4_laysLimits_124 (n := 125) rfl ?_
  refine k_aload0 S dX4_laysLimits_125 (n := 126) rfl ?_
  refine k_getv (v := nI (zpc ph (μ.1 24) t d)) (T := TX4) (j := 20) S dX4_laysLimits_126 (by rw [hn]; decide) (by decide) (ci := 4) rfl rfl (by decide) in_4 m_692 rfl rfl (by first | exact zpM_n μ ph t d | (simp [zu]; exact zpM_n μ ph t d)) (n := 129) rfl ?_
  refine k_i2l S dX4_laysLimits_129 (n := 130) rfl ?_
  refine k_lmul S dX4_laysLimits_130 (n := 131) rfl ?_
  refine k_callS (As := [.long (1000 * (zsa (zSF μ ph t d 22) (zpc ph (μ.1 24) t d))), .long ((Int32.toInt64 (nI (s + 2))) * (Int32.toInt64 (nI (zpc ph (μ.1 24) t d))))]) (rest := [.ref (za g 21)]) S (c_X4_rounded (znz (by omega) (by omega) (by omega) (by omega))) mv_X4_rounded m_786 dX4_laysLimits_131 rfl rfl ⟨by decide, by decide⟩ rfl rfl (Nat.le_of_ble_eq_true rfl) ⟨by decide, by decide⟩ (n := 134) rfl (fun _ _ h => h.elim) (fun v9 ν9 h9 => ?_)
  rw [h9.1, h9.2]
  show zK x g ({ frames := 3, cells := 0, slots := 0, locals := 71 } : Room) 7 0 0 134 [some (.ref (za g 21)), some (.int (nI t)), some (.long (zsa (zSF μ ph t d 22) (zpc ph (μ.1 24) t d))), none, some (.long (zsa (zSF μ ph t d 23) (zpc ph (μ.1 24) t d))), none, some (.int (nI (zpc ph (μ.1 24) t d)))] [.int (zrdM (1000 * (zsa (zSF μ ph t d 22) (zpc ph (μ.1 24) t d))) ((Int32.toInt64 (nI (s + 2))) * (Int32.toInt64 (nI (zpc ph (μ.1 24) t d))))), .ref (za g 21)] (zu (zpM μ ph t d) 21 15 1)
  refine k_put (T := TX4) (j := 16) S dX4_laysLimits_134 (by rw [hn]; decide) (by decide) (ci := 4) rfl rfl (by decide) in_4 m_688 rfl rfl (ty0 := tyX4) tyX4_ok nmX4 rfl rfl rfl (n := 137) rfl ?_
  refine k_aload0 S dX4_laysLimits_137 (n := 138) rfl ?_
  refine k_aload0 S dX4_laysLimits_138 (n := 139) rfl ?_
  refine k_getr (r := 26) (T := TX4) (j := 11) S dX4_laysLimits_139 (by rw [hn]; decide) (by decide) (ci := 4) rfl rfl (by decide) in_4 m_683 rfl rfl (n := 142) rfl ?_
  refine k_iload1 S dX4_laysLimits_142 (n := 143) rfl ?_
  refine k_zaldv (v := μ.1 26 t) S dX4_laysLimits_143 (j := t) (by rw [hn]; decide) (by decide) rfl (show t < 10 by omega) (by decide) (by first | exact (zpM_off μ ph t (by decide) (by decide) (Or.inl (by decide)) d) | (simp [zu]; exact (zpM_off μ ph t (by decide) (by decide) (Or.inl (by decide)) d))) (n := 144) rfl ?_
  refine k_if_eq S dX4_laysLimits_144 (tgt := 156) (by decide) (n := 147) rfl (fun _ => ?_) (fun h9 => absurd (hz) h9)
  refine k_ldc2 S dX4_laysLimits_156 (v := 1000) m_785 (n := 159) rfl ?_
  refine k_lload4 S dX4_laysLimits_159 (n := 161) rfl ?_
  refine k_lmul S dX4_laysLimits_161 (n := 162) rfl ?_
  refine k_aload0 S dX4_laysLimits_162 (n := 163) rfl ?_
  refine k_getv (v := nI (zpc ph (μ.1 24) t d)) (T := TX4) (j := 20) S dX4_laysLimits_163 (by rw [hn]; decide) (by decide) (ci := 4) rfl rfl (by decide) in_4 m_692 rfl rfl (by first | exact zpM_n μ ph t d | (simp [zu]; exact zpM_n μ ph t d)) (n := 166) rfl ?_
  refine k_i2l S dX4_laysLimits_166 (n := 167) rfl ?_
  refine k_callS (As := [.long (1000 * (zsa (zSF μ ph t d 23) (zpc ph (μ.1 24) t d))), .long (Int32.toInt64 (nI (zpc ph (μ.1 24) t d)))]) (rest := [.ref (za g 21)]) S (c_X4_rounded (znz1 (by omega) (by omega))) mv_X4_rounded m_786 dX4_laysLimits_167 rfl rfl ⟨by decide, by decide⟩ rfl rfl (Nat.le_of_ble_eq_true rfl) ⟨by decide, by decide⟩ (n := 170) rfl (fun _ _ h => h.elim) (fun v9 ν9 h9 => ?_)
  rw [h9.1, h9.2]
  show zK x g ({ frames := 3, cells := 0, slots := 0, locals := 71 } : Room) 7 0 0 170 [some (.ref (za g 21)), some (.int (nI t)), some (.long (zsa (zSF μ ph t d 22) (zpc ph (μ.1 24) t d))), none, some (.long (zsa (zSF μ ph t d 23) (zpc ph (μ.1 24) t d))), none, some (.int (nI (zpc ph (μ.1 24) t d)))] [.int (zrdM (1000 * (zsa (zSF μ ph t d 23) (zpc ph (μ.1 24) t d))) (Int32.toInt64 (nI (zpc ph (μ.1 24) t d)))), .ref (za g 21)] (zu (zu (zpM μ ph t d) 21 15 1) 21 16 (zrdM (1000 * (zsa (zSF μ ph t d 22) (zpc ph (μ.1 24) t d))) ((Int32.toInt64 (nI (s + 2))) * (Int32.toInt64 (nI (zpc ph (μ.1 24) t d))))))
  refine k_put (T := TX4) (j := 17) S dX4_laysLimits_170 (by rw [hn]; decide) (by decide) (ci := 4) rfl rfl (by decide) in_4 m_689 rfl rfl (ty0 := tyX4) tyX4_ok nmX4 rfl rfl rfl (n := 173) rfl ?_
  refine k_aload0 S dX4_laysLimits_173 (n := 174) rfl ?_
  refine k_aload0 S dX4_laysLimits_174 (n := 175) rfl ?_
  refine k_getv (v := nI (s + 2)) (T := TX4) (j := 0) S dX4_laysLimits_175 (by rw [hn]; decide) (by decide) (ci := 4) rfl rfl (by decide) in_4 m_672 rfl rfl (by simp [zu]; rw [zpM_off μ ph t (by decide) (by decide) (Or.inr (by decide)) d]; exact hs) (n := 178) rfl ?_
  refine k_sipush S dX4_laysLimits_178 (v := 1880) (by decide) (n := 181) rfl ?_
  refine k_sipush S dX4_laysLimits_181 (v := 1023) (by decide) (n := 184) rfl ?_
  refine k_sipush S dX4_laysLimits_184 (v := 729) (by decide) (n := 187) rfl ?_
  refine k_sipush S dX4_laysLimits_187 (v := 577) (by decide) (n := 190) rfl ?_
  refine k_sipush S dX4_laysLimits_190 (v := 483) (by decide) (n := 193) rfl ?_
  refine k_callS (As := [.int (nI (s + 2)), .int 1880, .int 1023, .int 729, .int 577, .int 483]) (rest := [.ref (za g 21)]) S (c_X4_factor) mv_X4_factor m_793 dX4_laysLimits_193 rfl rfl ⟨by decide, by decide⟩ rfl rfl (Nat.le_of_ble_eq_true rfl) ⟨by decide, by decide⟩ (n := 196) rfl (fun _ _ h => h.elim) (fun v9 ν9 h9 => ?_)
  rw [h9.1, h9.2]
  show zK x g ({ frames := 3, cells := 0, slots := 0, locals := 71 } : Room) 7 0 0 196 [some (.ref (za g 21)), some (.int (nI t)), some (.long (zsa (zSF μ ph t d 22) (zpc ph (μ.1 24) t d))), none, some (.long (zsa (zSF μ ph t d 23) (zpc ph (μ.1 24) t d))), none, some (.int (nI (zpc ph (μ.1 24) t d)))] [.int (v_X4_factor (nI (s + 2)) 1880 1023 729 577 483), .ref (za g 21)] (zu (zu (zu (zpM μ ph t d) 21 15 1) 21 16 (zrdM (1000 * (zsa (zSF μ ph t d 22) (zpc ph (μ.1 24) t d))) ((Int32.toInt64 (nI (s + 2))) * (Int32.toInt64 (nI (zpc ph (μ.1 24) t d)))))) 21 17 (zrdM (1000 * (zsa (zSF μ ph t d 23) (zpc ph (μ.1 24) t d))) (Int32.toInt64 (nI (zpc ph (μ.1 24) t d)))))
  rw [zfac0 hs5]
  refine k_i2l S dX4_laysLimits_196 (n := 197) rfl ?_
  refine k_aload0 S dX4_laysLimits_197 (n := 198) rfl ?_
  refine k_getv (v := zrdM (1000 * (zsa (zSF μ ph t d 23) (zpc ph (μ.1 24) t d))) (Int32.toInt64 (nI (zpc ph (μ.1 24) t d)))) (T := TX4) (j := 17) S dX4_laysLimits_198 (by rw [hn]; decide) (by decide) (ci := 4) rfl rfl (by decide) in_4 m_689 rfl rfl (by simp [zu, zset, upd]) (n := 201) rfl ?_
  refine k_i2l S dX4_laysLimits_201 (n := 202) rfl ?_
  refine k_lmul S dX4_laysLimits_202 (n := 203) rfl ?_
  refine k_ldc2 S dX4_laysLimits_203 (v := 1000) m_785 (n := 206) rfl ?_
  refine k_callS (As := [.long ((Int32.toInt64 (zTab 0 s)) * (Int32.toInt64 (zrdM (1000 * (zsa (zSF μ ph t d 23) (zpc ph (μ.1 24) t d))) (Int32.toInt64 (nI (zpc ph (μ.1 24) t d)))))), .long 1000]) (rest := [.ref (za g 21)]) S (c_X4_rounded (by decide)) mv_X4_rounded m_786 dX4_laysLimits_206 rfl rfl ⟨by decide, by decide⟩ rfl rfl (Nat.le_of_ble_eq_true rfl) ⟨by decide, by decide⟩ (n := 209) rfl (fun _ _ h => h.elim) (fun v9 ν9 h9 => ?_)
  rw [h9.1, h9.2]
  show zK x g ({ frames := 3, cells := 0, slots := 0, locals := 71 } : Room) 7 0 0 209 [some (.ref (za g 21)), some (.int (nI t)), some (.long (zsa (zSF μ ph t d 22) (zpc ph (μ.1 24) t d))), none, some (.long (zsa (zSF μ ph t d 23) (zpc ph (μ.1 24) t d))), none, some (.int (nI (zpc ph (μ.1 24) t d)))] [.int (zrdM ((Int32.toInt64 (zTab 0 s)) * (Int32.toInt64 (zrdM (1000 * (zsa (zSF μ ph t d 23) (zpc ph (μ.1 24) t d))) (Int32.toInt64 (nI (zpc ph (μ.1 24) t d)))))) 1000), .ref (za g 21)] (zu (zu (zu (zpM μ ph t d) 21 15 1) 21 16 (zrdM (1000 * (zsa (zSF μ ph t d 22) (zpc ph (μ.1 24) t d))) ((Int32.toInt64 (nI (s + 2))) * (Int32.toInt64 (nI (zpc ph (μ.1 24) t d)))))) 21 17 (zrdM (1000 * (zsa (zSF μ ph t d 23) (zpc ph (μ.1 24) t d))) (Int32.toInt64 (nI (zpc ph (μ.1 24) t d)))))
  refine k_put (T := TX4) (j := 18) S dX4_laysLimits_209 (by rw [hn]; decide) (by decide) (ci := 4) rfl rfl (by decide) in_4 m_690 rfl rfl (ty0 := tyX4) tyX4_ok nmX4 rfl rfl rfl (n := 212) rfl ?_
  refine k_aload0 S dX4_laysLimits_212 (n := 213) rfl ?_
  refine k_aload0 S dX4_laysLimits_213 (n := 214) rfl ?_
  refine k_getv (v := nI (s + 2)) (T := TX4) (j := 0) S dX4_laysLimits_214 (by rw [hn]; decide) (by decide) (ci := 4) rfl rfl (by decide) in_4 m_672 rfl rfl (by simp [zu]; rw [zpM_off μ ph t (by decide) (by decide) (Or.inr (by decide)) d]; exact hs) (n := 217) rfl ?_
  refine k_sipush S dX4_laysLimits_217 (v := 3267) (by decide) (n := 220) rfl ?_
  refine k_sipush S dX4_laysLimits_220 (v := 2574) (by decide) (n := 223) rfl ?_
  refine k_sipush S dX4_laysLimits_223 (v := 2282) (by decide) (n := 226) rfl ?_
  refine k_sipush S dX4_laysLimits_226 (v := 2114) (by decide) (n := 229) rfl ?_
  refine k_sipush S dX4_laysLimits_229 (v := 2004) (by decide) (n := 232) rfl ?_
  refine k_callS (As := [.int (nI (s + 2)), .int 3267, .int 2574, .int 2282, .int 2114, .int 2004]) (rest := [.ref (za g 21)]) S (c_X4_factor) mv_X4_factor m_793 dX4_laysLimits_232 rfl rfl ⟨by decide, by decide⟩ rfl rfl (Nat.le_of_ble_eq_true rfl) ⟨by decide, by decide⟩ (n := 235) rfl (fun _ _ h => h.elim) (fun v9 ν9 h9 => ?_)
  rw [h9.1, h9.2]
  show zK x g ({ frames := 3, cells := 0, slots := 0, locals := 71 } : Room) 7 0 0 235 [some (.ref (za g 21)), some (.int (nI t)), some (.long (zsa (zSF μ ph t d 22) (zpc ph (μ.1 24) t d))), none, some (.long (zsa (zSF μ ph t d 23) (zpc ph (μ.1 24) t d))), none, some (.int (nI (zpc ph (μ.1 24) t d)))] [.int (v_X4_factor (nI (s + 2)) 3267 2574 2282 2114 2004), .ref (za g 21)] (zu (zu (zu (zu (zpM μ ph t d) 21 15 1) 21 16 (zrdM (1000 * (zsa (zSF μ ph t d 22) (zpc ph (μ.1 24) t d))) ((Int32.toInt64 (nI (s + 2))) * (Int32.toInt64 (nI (zpc ph (μ.1 24) t d)))))) 21 17 (zrdM (1000 * (zsa (zSF μ ph t d 23) (zpc ph (μ.1 24) t d))) (Int32.toInt64 (nI (zpc ph (μ.1 24) t d))))) 21 18 (zrdM ((Int32.toInt64 (zTab 0 s)) * (Int32.toInt64 (zrdM (1000 * (zsa (zSF μ ph t d 23) (zpc ph (μ.1 24) t d))) (Int32.toInt64 (nI (zpc ph (μ.1 24) t d)))))) 1000))
  rw [zfac1 hs5]
  refine k_i2l S dX4_laysLimits_235 (n := 236) rfl ?_
  refine k_aload0 S dX4_laysLimits_236 (n := 237) rfl ?_
  refine k_getv (v := zrdM (1000 * (zsa (zSF μ ph t d 23) (zpc ph (μ.1 24) t d))) (Int32.toInt64 (nI (zpc ph (μ.1 24) t d)))) (T := TX4) (j := 17) S dX4_laysLimits_237 (by rw [hn]; decide) (by decide) (ci := 4) rfl rfl (by decide) in_4 m_689 rfl rfl (by simp [zu, zset, upd]) (n := 240) rfl ?_
  refine k_i2l S dX4_laysLimits_240 (n := 241) rfl ?_
  refine k_lmul S dX4_laysLimits_241 (n := 242) rfl ?_
  refine k_ldc2 S dX4_laysLimits_242 (v := 1000) m_785 (n := 245) rfl ?_
  refine k_callS (As := [.long ((Int32.toInt64 (zTab 1 s)) * (Int32.toInt64 (zrdM (1000 * (zsa (zSF μ ph t d 23) (zpc ph (μ.1 24) t d))) (Int32.toInt64 (nI (zpc ph (μ.1 24) t d)))))), .long 1000]) (rest := [.ref (za g 21)]) S (c_X4_rounded (by decide)) mv_X4_rounded m_786 dX4_laysLimits_245 rfl rfl ⟨by decide, by decide⟩ rfl rfl (Nat.le_of_ble_eq_true rfl) ⟨by decide, by decide⟩ (n := 248) rfl (fun _ _ h => h.elim) (fun v9 ν9 h9 => ?_)
  rw [h9.1, h9.2]
  show zK x g ({ frames := 3, cells := 0, slots := 0, locals := 71 } : Room) 7 0 0 248 [some (.ref (za g 21)), some (.int (nI t)), some (.long (zsa (zSF μ ph t d 22) (zpc ph (μ.1 24) t d))), none, some (.long (zsa (zSF μ ph t d 23) (zpc ph (μ.1 24) t d))), none, some (.int (nI (zpc ph (μ.1 24) t d)))] [.int (zrdM ((Int32.toInt64 (zTab 1 s)) * (Int32.toInt64 (zrdM (1000 * (zsa (zSF μ ph t d 23) (zpc ph (μ.1 24) t d))) (Int32.toInt64 (nI (zpc ph (μ.1 24) t d)))))) 1000), .ref (za g 21)] (zu (zu (zu (zu (zpM μ ph t d) 21 15 1) 21 16 (zrdM (1000 * (zsa (zSF μ ph t d 22) (zpc ph (μ.1 24) t d))) ((Int32.toInt64 (nI (s + 2))) * (Int32.toInt64 (nI (zpc ph (μ.1 24) t d)))))) 21 17 (zrdM (1000 * (zsa (zSF μ ph t d 23) (zpc ph (μ.1 24) t d))) (Int32.toInt64 (nI (zpc ph (μ.1 24) t d))))) 21 18 (zrdM ((Int32.toInt64 (zTab 0 s)) * (Int32.toInt64 (zrdM (1000 * (zsa (zSF μ ph t d 23) (zpc ph (μ.1 24) t d))) (Int32.toInt64 (nI (zpc ph (μ.1 24) t d)))))) 1000))
  refine k_put (T := TX4) (j := 19) S dX4_laysLimits_248 (by rw [hn]; decide) (by decide) (ci := 4) rfl rfl (by decide) in_4 m_691 rfl rfl (ty0 := tyX4) tyX4_ok nmX4 rfl rfl rfl (n := 251) rfl ?_
  exact k_vret S Y dX4_laysLimits_251 (by decide) (by decide) (⟨rfl, rfl⟩)
set_option maxRecDepth 100000 in
set_option maxHeartbeats 4000000 in
theorem c_X4_laysLimits_no {l : Launch} {g : zG} {t : Nat} {μ : zM} {d c s : Nat} {ph fs : Nat → Nat}  (hn : zn g = 32) (h : zMP μ d c ph fs) (hd : μ.1 21 1 = nI d) (hd60 : d ≤ 60) (hs : μ.1 21 0 = nI (s + 2)) (hs5 : s < 5) (ht : t < c) (hz : μ.1 26 t = 0) (hp : zpc ph (μ.1 24) t d = 0) : zC l g yX4_laysLimits cX4_laysLimits 7 none ({ frames := 3, cells := 0, slots := 0, locals := 71 } : Room) 0 0 [.ref (za g 21), .int (nI t)] μ (zRv none (zu (zpM μ ph t d) 21 15 0)) zNX := by
  refine zC_of (L0 := [some (.ref (za g 21)), some (.int (nI t)), none, none, none, none, none]) (plainFor_of_name (by decide)) (Nat.le_of_ble_eq_true rfl) rfl ?_
  intro x S Y hxl
  subst hxl
  refine k_aload0 S dX4_laysLimits_0 (n := 1) rfl ?_
  refine k_iload1 S dX4_laysLimits_1 (n := 2) rfl ?_
  refine k_bipush S dX4_laysLimits_2 (v := 59) (by decide) (n := 4) rfl ?_
  refine k_callV (As := [.int (nI t), .int 59]) (rest := []) (p := 21) S (c_X4_laysPoints (t := t) (q := 59) (N := d) hn h hd hd60 (by have := h.2.1; omega) (by decide) (Nat.le_refl d) (by omega) (Or.inl rfl) hs hs5) mv_X4_laysPoints m_777 dX4_laysLimits_4 rfl rfl ⟨by decide, by decide⟩ (by rw [hn]; decide) (by decide) (ci := 4) rfl rfl rfl (Nat.le_of_ble_eq_true rfl) ⟨by decide, by decide⟩ (n := 7) rfl (fun _ _ h => h.elim) (fun v9 ν9 h9 => ?_)
  rw [h9.1, h9.2]
  show zK x g ({ frames := 3, cells := 0, slots := 0, locals := 71 } : Room) 7 0 0 7 [some (.ref (za g 21)), some (.int (nI t)), none, none, none, none, none] [] (zpM μ ph t d)
  refine k_lconst S dX4_laysLimits_7 (v := 0) (by decide) (n := 8) rfl ?_
  refine k_lstore2 S dX4_laysLimits_8 (by decide) rfl (n := 9) rfl ?_
  refine k_lconst S dX4_laysLimits_9 (v := 0) (by decide) (n := 10) rfl ?_
  refine k_lstore4 S dX4_laysLimits_10 (by decide) rfl (n := 12) rfl ?_
  refine k_iconst S dX4_laysLimits_12 (v := 0) (by decide) (n := 13) rfl ?_
  refine k_istore6 S dX4_laysLimits_13 (by decide) rfl (n := 15) rfl ?_
  refine l_X4_laysLimits S hn h hd hd60 hs hs5 ht ?_ (zpc ph (μ.1 24) t d) 0 (Nat.zero_add _)
  have h10 := h.2.1
  have hpd := zpc_le ph (μ.1 24) t d
  refine k_aload0 S dX4_laysLimits_64 (n := 65) rfl ?_
  refine k_aload0 S dX4_laysLimits_65 (n := 66) rfl ?_
  refine k_getr (r := 26) (T := TX4) (j := 11) S dX4_laysLimits_66 (by rw [hn]; decide) (by decide) (ci := 4) rfl rfl (by decide) in_4 m_683 rfl rfl (n := 69) rfl ?_
  refine k_iload1 S dX4_laysLimits_69 (n := 70) rfl ?_
  refine k_zaldv (v := μ.1 26 t) S dX4_laysLimits_70 (j := t) (by rw [hn]; decide) (by decide) rfl (show t < 10 by omega) (by decide) (by first | exact (zpM_off μ ph t (by decide) (by decide) (Or.inl (by decide)) d) | (simp [zu]; exact (zpM_off μ ph t (by decide) (by decide) (Or.inl (by decide)) d))) (n := 71) rfl ?_
  refine k_if_ne S dX4_laysLimits_71 (tgt := 81) (by decide) (n := 74) rfl (fun h9 => absurd (hz) h9) (fun _ => ?_)
  refine k_aload0 S dX4_laysLimits_74 (n := 75) rfl ?_
  refine k_getv (v := nI (zpc ph (μ.1 24) t d)) (T := TX4) (j := 20) S dX4_laysLimits_75 (by rw [hn]; decide) (by decide) (ci := 4) rfl rfl (by decide) in_4 m_692 rfl rfl (by first | exact zpM_n μ ph t d | (simp [zu]; exact zpM_n μ ph t d)) (n := 78) rfl ?_
  refine k_if_le S dX4_laysLimits_78 (tgt := 85) (by decide) (n := 81) rfl (fun _ => ?_) (fun h9 => absurd (by rw [hp]; decide) h9)
  refine k_iconst S dX4_laysLimits_85 (v := 0) (by decide) (n := 86) rfl ?_
  refine k_put (T := TX4) (j := 15) S dX4_laysLimits_86 (by rw [hn]; decide) (by decide) (ci := 4) rfl rfl (by decide) in_4 m_687 rfl rfl (ty0 := tyX4) tyX4_ok nmX4 rfl rfl rfl (n := 89) rfl ?_
  refine k_aload0 S dX4_laysLimits_89 (n := 90) rfl ?_
  refine k_getv (v := 0) (T := TX4) (j := 15) S dX4_laysLimits_90 (by rw [hn]; decide) (by decide) (ci := 4) rfl rfl (by decide) in_4 m_687 rfl rfl (by simp [zu, zset, upd]) (n := 93) rfl ?_
  refine k_if_eq S dX4_laysLimits_93 (tgt := 251) (by decide) (n := 96) rfl (fun _ => ?_) (fun h9 => absurd (by decide) h9)
  exact k_vret S Y dX4_laysLimits_251 (by decide) (by decide) (⟨rfl, rfl⟩)
theorem c_X4_laysLimits_ok {l : Launch} {g : zG} {t : Nat} {μ : zM} {d c s : Nat} {ph fs : Nat → Nat}  (hn : zn g = 32) (h : zMP μ d c ph fs) (hd : μ.1 21 1 = nI d) (hd60 : d ≤ 60) (hs : μ.1 21 0 = nI (s + 2)) (hs5 : s < 5)  (ht : t < c) (hl : zHas μ ph t d) : zC l g yX4_laysLimits cX4_laysLimits 7 none ({ frames := 3, cells := 0, slots := 0, locals := 71 } : Room) 0 0 [.ref (za g 21), .int (nI t)] μ (zRv none (zLmM μ ph t d s (zLC μ ph t d s) (zLR μ ph t d))) zNX := by
  by_cases hz : μ.1 26 t = 0
  · have hp : 0 < zpc ph (μ.1 24) t d := hl.elim (fun q => absurd hz q) id
    have q := c_X4_laysLimits_pt (l := l) (g := g) hn h hd hd60 hs hs5 ht hz hp
    rw [show zLC μ ph t d s = zLCp μ ph t d s from if_pos hz, show zLR μ ph t d = zLRp μ ph t d from if_pos hz]
    exact q
  · have q := c_X4_laysLimits_fz (l := l) (g := g) hn h hd hd60 hs hs5 ht hz
    rw [show zLC μ ph t d s = μ.1 27 t from if_neg hz, show zLR μ ph t d = μ.1 28 t from if_neg hz]
    exact q
