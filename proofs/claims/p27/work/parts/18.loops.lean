/-! THE DESK'S CALLS WITH LOOPS. rs: the reasons, ms: the means; f: a phase's first subgroup -/
def zrcF (rs ms : Nat → Int32) (f : Nat) (ce w : Int32) (c0 : Nat → Int32) : Nat → (Nat → Int32)
  | 0 => c0
  | n + 1 => if rs (f + n) = 0 then r_X1_take (zrcF rs ms f ce w c0 n) (ms (f + n)) ce w else zrcF rs ms f ce w c0 n
def zaN (pn : Nat → Int32) : Nat → Int32
  | 0 => -1
  | n + 1 => pn n
def zaR (pn : Nat → Int32) (n : Nat) (F : Nat → Int32) : Nat → Int32 := if pn n = zaN pn n then F else r_X1_restart F
def zaF (rs ms pn ce w : Nat → Int32) (c0 : Nat → Int32) : Nat → (Nat → Int32)
  | 0 => c0
  | n + 1 => if rs n = 0 then r_X1_take (zaR pn n (zaF rs ms pn ce w c0 n)) (ms n) (ce n) (w n) else zaR pn n (zaF rs ms pn ce w c0 n)
def zaC (rs ms pn ce w : Nat → Int32) (c0 : Nat → Int32) : Nat → Int32
  | 0 => 0
  | n + 1 => if rs n = 0 then zaC rs ms pn ce w c0 n + (if v_X1_brokenRules (zaF rs ms pn ce w c0 (n + 1)) = 0 then 0 else 1) else zaC rs ms pn ce w c0 n
def zwt (rs ms : Nat → Int32) (f : Nat) (ce wt : Int32) : Nat → Int32
  | 0 => ce
  | n + 1 => if rs (f + n) = 0 then zwt rs ms f ce wt n + zfd (wt * (ms (f + n) - zwt rs ms f ce wt n)) 10 else zwt rs ms f ce wt n
def zcu (rs ms : Nat → Int32) (f : Nat) (ce h b : Int32) : Nat → Int32
  | 0 => 0
  | n + 1 => if rs (f + n) = 0 then zmax 0 (zcu rs ms f ce h b n + (if b = 0 then ce - ms (f + n) else ms (f + n) - ce) - h) else zcu rs ms f ce h b n
noncomputable def zbs (P : Nat → Prop) : Nat → Int32
  | 0 => 0
  | r + 1 => @ite Int32 (P (r + 1)) (Classical.propDecidable _) (zbs P r ||| ((1 : Int32) <<< (nI (r + 1) &&& 31))) (zbs P r)
theorem zbs_t {P : Nat → Prop} {r : Nat} (h : P (r + 1)) : zbs P (r + 1) = zbs P r ||| ((1 : Int32) <<< (nI (r + 1) &&& 31)) := @if_pos _ (Classical.propDecidable _) h _ _ _
theorem zbs_f {P : Nat → Prop} {r : Nat} (h : ¬ P (r + 1)) : zbs P (r + 1) = zbs P r := @if_neg _ (Classical.propDecidable _) h _ _ _
def zlc (rs : Nat → Int32) (i : Nat) : Nat → Nat
  | 0 => 0
  | n + 1 => if zlc rs i n < 15 then (if rs (i - n) = 0 then zlc rs i n + 1 else zlc rs i n) else zlc rs i n
def zlM (μ : zM) (i : Nat) : Nat → zM
  | 0 => zu μ 8 2 0
  | n + 1 => if zlc (μ.1 4) i n < 15 then (if μ.1 4 (i - n) = 0 then zu (zu (zu (zlM μ i n) 9 (zlc (μ.1 4) i n) (nI (i - n))) 10 (zlc (μ.1 4) i n) (μ.1 3 (i - n))) 8 2 (nI (zlc (μ.1 4) i n + 1)) else zlM μ i n) else zlM μ i n
theorem zlc_s (rs : Nat → Int32) (i n : Nat) : zlc rs i (n + 1) = if zlc rs i n < 15 then (if rs (i - n) = 0 then zlc rs i n + 1 else zlc rs i n) else zlc rs i n := rfl
theorem zlM_s (μ : zM) (i n : Nat) : zlM μ i (n + 1) = if zlc (μ.1 4) i n < 15 then (if μ.1 4 (i - n) = 0 then zu (zu (zu (zlM μ i n) 9 (zlc (μ.1 4) i n) (nI (i - n))) 10 (zlc (μ.1 4) i n) (μ.1 3 (i - n))) 8 2 (nI (zlc (μ.1 4) i n + 1)) else zlM μ i n) else zlM μ i n := rfl
theorem zlc_le (rs : Nat → Int32) (i : Nat) : ∀ n, zlc rs i n ≤ 15
  | 0 => Nat.zero_le _
  | n + 1 => by
    have h := zlc_le rs i n
    rw [zlc_s]
    split
    · split
      · omega
      · exact h
    · exact h
theorem zlM_off (μ : zM) (i : Nat) {a : Nat} (h8 : a ≠ 8) (h9 : a ≠ 9) (h10 : a ≠ 10) : ∀ n, (zlM μ i n).1 a = μ.1 a
  | 0 => zu_off _ _ _ _ h8
  | n + 1 => by
    have h := zlM_off μ i h8 h9 h10 n
    rw [zlM_s]
    split
    · split
      · rw [zu_off _ _ _ _ h8, zu_off _ _ _ _ h10, zu_off _ _ _ _ h9, h]
      · exact h
    · exact h
theorem zlM_2 (μ : zM) (i : Nat) : ∀ n, (zlM μ i n).2 = μ.2
  | 0 => rfl
  | n + 1 => by
    have h := zlM_2 μ i n
    rw [zlM_s]
    split
    · split
      · exact h
      · exact h
    · exact h
theorem zlM_n (μ : zM) (i : Nat) : ∀ n, (zlM μ i n).1 8 2 = nI (zlc (μ.1 4) i n)
  | 0 => rfl
  | n + 1 => by
    have h := zlM_n μ i n
    rw [zlM_s, zlc_s]
    split
    · split
      · simp [zu]
      · exact h
    · exact h
theorem zlM_full (μ : zM) (i n : Nat) (h : ¬ zlc (μ.1 4) i n < 15) : ∀ m, zlM μ i (n + m) = zlM μ i n ∧ zlc (μ.1 4) i (n + m) = zlc (μ.1 4) i n
  | 0 => ⟨rfl, rfl⟩
  | m + 1 => by
    obtain ⟨h1, h2⟩ := zlM_full μ i n h m
    constructor
    · show zlM μ i ((n + m) + 1) = _
      rw [zlM_s, h2, if_neg h, h1]
    · show zlc (μ.1 4) i ((n + m) + 1) = _
      rw [zlc_s, h2, if_neg h]
set_option maxRecDepth 100000 in
set_option maxHeartbeats 4000000 in
theorem l_X3_signals {x : zX} {g : zG} {μ : zM} {i k f d : Nat} {ce w : Int32} {RT : Option Value → zM → Prop} {XT : String → zM → Prop} (S : zS x g 4 cX3_signals RX3) (Y : zR x g (some .int) 1 6 [] RT XT) (hd : μ.1 0 6 = nI d) (hd60 : d ≤ 60) (hi : i < d) (hfi : f ≤ i) (hk : k < 10) (hk7 : 11 + k ≠ 7) (hc : μ.1 (11 + k) 5 = ce) (hw : μ.1 (11 + k) 7 = w) (hRT : RT (some (.int (v_X1_brokenRules (zrcF (μ.1 4) (μ.1 3) f ce w (r_X1_restart (μ.1 7)) (i + 1 - f))))) (zset μ 7 (zrcF (μ.1 4) (μ.1 3) f ce w (r_X1_restart (μ.1 7)) (i + 1 - f)))) : ∀ (m n : Nat), n + m = i + 1 - f → zK x g ({ frames := 7, cells := 1, slots := 6, locals := 103 } : Room) 4 1 6 33 [some (.ref (za g 0)), some (.int (nI i)), some (.ref (za g (11 + k))), some (.int (nI (f + n)))] [] (zset μ 7 (zrcF (μ.1 4) (μ.1 3) f ce w (r_X1_restart (μ.1 7)) n)) := by
  intro m
  induction m with
  | zero =>
    intro n h1
    have e9 : n = i + 1 - f := by omega
    refine k_iload3 S dX3_signals_33 (n := 34) rfl ?_
    refine k_iload1 S dX3_signals_34 (n := 35) rfl ?_
    refine k_icmp_gt S dX3_signals_35 (tgt := 66) (by decide) (n := 38) rfl (fun _ => ?_) (fun h9 => absurd (nI_lt (by omega) (by omega)) h9)
    refine k_aload0 S dX3_signals_66 (n := 67) rfl ?_
    refine k_getr (r := 7) (T := TX3) (j := 14) S dX3_signals_67 (zlt S (by decide)) (by decide) (ci := 3) rfl rfl (by decide) in_3 m_159 rfl rfl (n := 70) rfl ?_
    refine k_callV (As := []) (rest := []) (p := 7) S (c_X1_brokenRules) mv_X1_brokenRules m_394 dX3_signals_70 rfl rfl ⟨by decide, by decide⟩ (zlt S (by decide)) (by decide) (ci := 1) rfl rfl rfl (Nat.le_of_ble_eq_true rfl) ⟨by decide, by decide⟩ (n := 73) rfl (fun _ _ h => h.elim) (fun v9 ν9 h9 => ?_)
    rw [h9.1, h9.2]
    show zK x g ({ frames := 7, cells := 1, slots := 6, locals := 103 } : Room) 4 1 6 73 [some (.ref (za g 0)), some (.int (nI i)), some (.ref (za g (11 + k))), some (.int (nI (f + n)))] [.int (v_X1_brokenRules (zrcF (μ.1 4) (μ.1 3) f ce w (r_X1_restart (μ.1 7)) n))] (zset μ 7 (zrcF (μ.1 4) (μ.1 3) f ce w (r_X1_restart (μ.1 7)) n))
    exact k_iret S Y dX3_signals_73 (by decide) (by decide) rfl (by rw [e9]; exact hRT)
  | succ m ih =>
    intro n h1
    refine k_iload3 S dX3_signals_33 (n := 34) rfl ?_
    refine k_iload1 S dX3_signals_34 (n := 35) rfl ?_
    refine k_icmp_gt S dX3_signals_35 (tgt := 66) (by decide) (n := 38) rfl (fun h9 => absurd h9 (nI_nlt (by omega) (by omega))) (fun _ => ?_)
    refine k_aload0 S dX3_signals_38 (n := 39) rfl ?_
    refine k_iload3 S dX3_signals_39 (n := 40) rfl ?_
    refine k_callV (As := [.int (nI (f + n))]) (rest := []) (p := 0) S (c_X3_isPoint (i := f + n) (by rw [zset_off _ _ (by decide)]; exact hd) hd60 (show f + n < d by omega)) mv_X3_isPoint m_359 dX3_signals_40 rfl rfl ⟨by decide, by decide⟩ (zlt S (by decide)) (by decide) (ci := 3) rfl rfl rfl (Nat.le_of_ble_eq_true rfl) ⟨by decide, by decide⟩ (n := 43) rfl (fun _ _ h => h.elim) (fun v9 ν9 h9 => ?_)
    rw [h9.1, h9.2]
    show zK x g ({ frames := 7, cells := 1, slots := 6, locals := 103 } : Room) 4 1 6 43 [some (.ref (za g 0)), some (.int (nI i)), some (.ref (za g (11 + k))), some (.int (nI (f + n)))] [.int ((if μ.1 4 (f + n) = 0 then (1 : Int32) else 0))] (zset μ 7 (zrcF (μ.1 4) (μ.1 3) f ce w (r_X1_restart (μ.1 7)) n))
    refine k_if_eq S dX3_signals_43 (tgt := 60) (by decide) (n := 46) rfl (fun c1 => ?_) (fun c1 => ?_)
    ·
      have e1 : zrcF (μ.1 4) (μ.1 3) f ce w (r_X1_restart (μ.1 7)) (n + 1) = zrcF (μ.1 4) (μ.1 3) f ce w (r_X1_restart (μ.1 7)) n := if_neg (zi0n c1)
      refine k_iinc3 S dX3_signals_60 (v := nI (f + n + 1)) (zi1 (f + n)) (by decide) (n := 63) rfl ?_
      refine k_goto S dX3_signals_63 (tgt := 33) (by decide) ?_
      have q9 := ih (n + 1) (by omega)
      rw [e1] at q9
      exact q9
    ·
      have e1 : zrcF (μ.1 4) (μ.1 3) f ce w (r_X1_restart (μ.1 7)) (n + 1) = r_X1_take (zrcF (μ.1 4) (μ.1 3) f ce w (r_X1_restart (μ.1 7)) n) (μ.1 3 (f + n)) ce w := if_pos (zi0 c1)
      refine k_aload0 S dX3_signals_46 (n := 47) rfl ?_
      refine k_getr (r := 7) (T := TX3) (j := 14) S dX3_signals_47 (zlt S (by decide)) (by decide) (ci := 3) rfl rfl (by decide) in_3 m_159 rfl rfl (n := 50) rfl ?_
      refine k_aload0 S dX3_signals_50 (n := 51) rfl ?_
      refine k_getr (r := 3) (T := TX3) (j := 9) S dX3_signals_51 (zlt S (by decide)) (by decide) (ci := 3) rfl rfl (by decide) in_3 m_154 rfl rfl (n := 54) rfl ?_
      refine k_iload3 S dX3_signals_54 (n := 55) rfl ?_
      refine k_ialdv (v := μ.1 3 ((f + n))) S dX3_signals_55 (j := (f + n)) (zlt S (by decide)) (by decide) rfl (show f + n < 60 by omega) (by decide) (by simp [zu, zset, upd]) (n := 56) rfl ?_
      refine k_aload2 S dX3_signals_56 (n := 57) rfl ?_
      refine k_callV (As := [.int (μ.1 3 ((f + n))), .ref (za g (11 + k))]) (rest := []) (p := 7) S (c_X1_take hk hk7 hc hw) mv_X1_take m_363 dX3_signals_57 rfl rfl ⟨by decide, by decide⟩ (zlt S (by decide)) (by decide) (ci := 1) rfl rfl rfl (Nat.le_of_ble_eq_true rfl) ⟨by decide, by decide⟩ (n := 60) rfl (fun _ _ h => h.elim) (fun v9 ν9 h9 => ?_)
      rw [h9.1, h9.2]
      show zK x g ({ frames := 7, cells := 1, slots := 6, locals := 103 } : Room) 4 1 6 60 [some (.ref (za g 0)), some (.int (nI i)), some (.ref (za g (11 + k))), some (.int (nI (f + n)))] [] (zset μ 7 (r_X1_take (zrcF (μ.1 4) (μ.1 3) f ce w (r_X1_restart (μ.1 7)) n) (μ.1 3 ((f + n))) ce w))
      refine k_iinc3 S dX3_signals_60 (v := nI (f + n + 1)) (zi1 (f + n)) (by decide) (n := 63) rfl ?_
      refine k_goto S dX3_signals_63 (tgt := 33) (by decide) ?_
      have q9 := ih (n + 1) (by omega)
      rw [e1] at q9
      exact q9
set_option maxRecDepth 100000 in
set_option maxHeartbeats 4000000 in
theorem c_X3_signals {l : Launch} {g : zG} {μ : zM} {v : Int32} {d c : Nat} {ph fs : Nat → Nat}  (hd : μ.1 0 6 = nI d) (hd60 : d ≤ 60) (hph : ∀ i, i < d → μ.1 5 i = nI (ph i) ∧ ph i < c) (hcc : μ.1 0 12 = nI c) (hc10 : c ≤ 10) (hfs : ∀ k, k < c → μ.1 (11 + k) 0 = nI (fs k)) (hfi : ∀ i, i < d → fs (ph i) ≤ i) : zC l g yX3_signals cX3_signals 4 (some .int) ({ frames := 7, cells := 1, slots := 6, locals := 103 } : Room) 1 6 [.ref (za g 0), .int v] μ (fun r ν => ∃ i, i < d ∧ v = nI i ∧ ((¬ μ.1 4 i = 0 ∧ r = some (.int 0) ∧ ν = μ) ∨ (μ.1 4 i = 0 ∧ r = some (.int (v_X1_brokenRules (zrcF (μ.1 4) (μ.1 3) (fs (ph i)) (μ.1 (11 + ph i) 5) (μ.1 (11 + ph i) 7) (r_X1_restart (μ.1 7)) (i + 1 - fs (ph i))))) ∧ ν = zset μ 7 (zrcF (μ.1 4) (μ.1 3) (fs (ph i)) (μ.1 (11 + ph i) 5) (μ.1 (11 + ph i) 7) (r_X1_restart (μ.1 7)) (i + 1 - fs (ph i)))))) (zXc (¬ zIn v d) "java/lang/IndexOutOfBoundsException" μ) := by
  refine zC_of (L0 := [some (.ref (za g 0)), some (.int v), none, none]) (plainFor_of_name (by decide)) (Nat.le_of_ble_eq_true rfl) rfl ?_
  intro x S Y hxl
  subst hxl
  refine k_aload0 S dX3_signals_0 (n := 1) rfl ?_
  refine k_iload1 S dX3_signals_1 (n := 2) rfl ?_
  refine k_callV (As := [.int v]) (rest := []) (p := 0) S (c_X3_checkSubgroup (d := d) hd hd60) mv_X3_checkSubgroup m_475 dX3_signals_2 rfl rfl ⟨by decide, by decide⟩ (zlt S (by decide)) (by decide) (ci := 3) rfl rfl rfl (Nat.le_of_ble_eq_true rfl) ⟨by decide, by decide⟩ (n := 5) rfl (fun E9 ν9 h9 => k_out S Y (by decide) (by decide) (h9)) (fun v9 ν9 h9 => ?_)
  obtain ⟨⟨i, hi, e9⟩, e1, e2⟩ := h9
  subst e9
  rw [e1, e2]
  show zK x g ({ frames := 7, cells := 1, slots := 6, locals := 103 } : Room) 4 1 6 5 [some (.ref (za g 0)), some (.int (nI i)), none, none] [] μ
  refine k_aload0 S dX3_signals_5 (n := 6) rfl ?_
  refine k_iload1 S dX3_signals_6 (n := 7) rfl ?_
  refine k_callV (As := [.int (nI i)]) (rest := []) (p := 0) S (c_X3_isPoint hd hd60 hi) mv_X3_isPoint m_359 dX3_signals_7 rfl rfl ⟨by decide, by decide⟩ (zlt S (by decide)) (by decide) (ci := 3) rfl rfl rfl (Nat.le_of_ble_eq_true rfl) ⟨by decide, by decide⟩ (n := 10) rfl (fun _ _ h => h.elim) (fun v9 ν9 h9 => ?_)
  rw [h9.1, h9.2]
  show zK x g ({ frames := 7, cells := 1, slots := 6, locals := 103 } : Room) 4 1 6 10 [some (.ref (za g 0)), some (.int (nI i)), none, none] [.int ((if μ.1 4 i = 0 then (1 : Int32) else 0))] μ
  refine k_if_ne S dX3_signals_10 (tgt := 15) (by decide) (n := 13) rfl (fun c1 => ?_) (fun c1 => ?_)
  ·
    have hk := (hph i hi).2
    have hf9 := hfi i hi
    have q7 : zset μ 7 (μ.1 7) = μ := zset_self μ 7
    refine k_aload0 S dX3_signals_15 (n := 16) rfl ?_
    refine k_iload1 S dX3_signals_16 (n := 17) rfl ?_
    refine k_callV (As := [.int (nI i)]) (rest := []) (p := 0) S (c_X3_phaseHolding (show i < 60 by omega) (hph i hi).1 hcc (hph i hi).2 hc10) mv_X3_phaseHolding m_314 dX3_signals_17 rfl rfl ⟨by decide, by decide⟩ (zlt S (by decide)) (by decide) (ci := 3) rfl rfl rfl (Nat.le_of_ble_eq_true rfl) ⟨by decide, by decide⟩ (n := 20) rfl (fun _ _ h => h.elim) (fun v9 ν9 h9 => ?_)
    rw [h9.1, h9.2]
    show zK x g ({ frames := 7, cells := 1, slots := 6, locals := 103 } : Room) 4 1 6 20 [some (.ref (za g 0)), some (.int (nI i)), none, none] [.ref (za g (11 + ph i))] μ
    refine k_astore2 S dX3_signals_20 (by decide) rfl (n := 21) rfl ?_
    refine k_aload0 S dX3_signals_21 (n := 22) rfl ?_
    refine k_getr (r := 7) (T := TX3) (j := 14) S dX3_signals_22 (zlt S (by decide)) (by decide) (ci := 3) rfl rfl (by decide) in_3 m_159 rfl rfl (n := 25) rfl ?_
    rw [← q7]
    refine k_callV (As := []) (rest := []) (p := 7) S (c_X1_restart (f := μ.1 7)) mv_X1_restart m_355 dX3_signals_25 rfl rfl ⟨by decide, by decide⟩ (zlt S (by decide)) (by decide) (ci := 1) rfl rfl rfl (Nat.le_of_ble_eq_true rfl) ⟨by decide, by decide⟩ (n := 28) rfl (fun _ _ h => h.elim) (fun v9 ν9 h9 => ?_)
    rw [h9.1, h9.2]
    show zK x g ({ frames := 7, cells := 1, slots := 6, locals := 103 } : Room) 4 1 6 28 [some (.ref (za g 0)), some (.int (nI i)), some (.ref (za g (11 + ph i))), none] [] (zset μ 7 (r_X1_restart (μ.1 7)))
    refine k_aload2 S dX3_signals_28 (n := 29) rfl ?_
    refine k_getv (v := nI (fs (ph i))) (T := TX0) (j := 0) S dX3_signals_29 (zlt S (by omega)) (zki_ph (by omega)) (ci := 0) rfl rfl (by decide) in_0 m_29 rfl rfl (by rw [zset_off _ _ (by omega)]; exact hfs _ hk) (n := 32) rfl ?_
    refine k_istore3 S dX3_signals_32 (by decide) rfl (n := 33) rfl ?_
    exact l_X3_signals S Y hd hd60 hi hf9 (by omega) (by omega) rfl rfl ⟨i, hi, rfl, Or.inr ⟨zi0 c1, rfl, rfl⟩⟩ (i + 1 - fs (ph i)) 0 (by omega)
  ·
    refine k_iconst S dX3_signals_13 (v := 0) (by decide) (n := 14) rfl ?_
    exact k_iret S Y dX3_signals_14 (by decide) (by decide) rfl (⟨i, hi, rfl, Or.inl ⟨zi0n c1, rfl, rfl⟩⟩)
set_option maxRecDepth 100000 in
set_option maxHeartbeats 4000000 in
theorem l_X3_lookBack {x : zX} {g : zG} {μ : zM} {i k f d : Nat} (S : zS x g 4 cX3_lookBack RX3) (Y : zR x g none 0 0 [] (zRv none (zlM μ i (i + 1 - f))) zNX) (hd : μ.1 0 6 = nI d) (hd60 : d ≤ 60) (hi : i < d) (hfi : f ≤ i) (hk : k < 10) (hf : μ.1 (11 + k) 0 = nI f) : ∀ (m n : Nat) (j : Int32), n + m = i + 1 - f → j = nI i - nI n → zK x g ({ frames := 2, cells := 0, slots := 0, locals := 42 } : Room) 4 0 0 9 [some (.ref (za g 0)), some (.int (nI i)), some (.ref (za g (11 + k))), some (.int j)] [] (zlM μ i n) := by
  intro m
  induction m with
  | zero =>
    intro n j h1 hj
    have e9 : n = i + 1 - f := by omega
    refine k_iload3 S dX3_lookBack_9 (n := 10) rfl ?_
    refine k_aload2 S dX3_lookBack_10 (n := 11) rfl ?_
    refine k_getv (v := nI f) (T := TX0) (j := 0) S dX3_lookBack_11 (zlt S (by omega)) (zki_ph (show k < 10 by omega)) (ci := 0) rfl rfl (by decide) in_0 m_29 rfl rfl (by rw [zlM_off μ i (by omega) (by omega) (by omega) n]; exact hf) (n := 14) rfl ?_
    refine k_icmp_lt S dX3_lookBack_14 (tgt := 55) (by decide) (n := 17) rfl (fun _ => ?_) (fun h9 => absurd (by rw [hj, Int32.lt_iff_toInt_lt, pk_sub_toInt (by omega) (by omega), nI_toInt (by omega)]; omega) h9)
    exact k_vret S Y dX3_lookBack_55 (by decide) (by decide) (⟨rfl, by rw [e9]⟩)
  | succ m ih =>
    intro n j h1 hj
    have e8 : j = nI (i - n) := by rw [hj]; exact pk_sub (by omega)
    subst e8
    refine k_iload3 S dX3_lookBack_9 (n := 10) rfl ?_
    refine k_aload2 S dX3_lookBack_10 (n := 11) rfl ?_
    refine k_getv (v := nI f) (T := TX0) (j := 0) S dX3_lookBack_11 (zlt S (by omega)) (zki_ph (show k < 10 by omega)) (ci := 0) rfl rfl (by decide) in_0 m_29 rfl rfl (by rw [zlM_off μ i (by omega) (by omega) (by omega) n]; exact hf) (n := 14) rfl ?_
    refine k_icmp_lt S dX3_lookBack_14 (tgt := 55) (by decide) (n := 17) rfl (fun h9 => absurd h9 (nI_nlt (by omega) (by omega))) (fun _ => ?_)
    refine k_aload0 S dX3_lookBack_17 (n := 18) rfl ?_
    refine k_getr (r := 8) (T := TX3) (j := 15) S dX3_lookBack_18 (zlt S (by decide)) (by decide) (ci := 3) rfl rfl (by decide) in_3 m_160 rfl rfl (n := 21) rfl ?_
    refine k_callV (As := []) (rest := []) (p := 8) S (c_X2_isFull) mv_X2_isFull m_534 dX3_lookBack_21 rfl rfl ⟨by decide, by decide⟩ (zlt S (by decide)) (by decide) (ci := 2) rfl rfl rfl (Nat.le_of_ble_eq_true rfl) ⟨by decide, by decide⟩ (n := 24) rfl (fun _ _ h => h.elim) (fun v9 ν9 h9 => ?_)
    rw [h9.1, h9.2]
    show zK x g ({ frames := 2, cells := 0, slots := 0, locals := 42 } : Room) 4 0 0 24 [some (.ref (za g 0)), some (.int (nI i)), some (.ref (za g (11 + k))), some (.int (nI (i - n)))] [.int (v_X2_isFull (zlM μ i n))] (zlM μ i n)
    refine k_if_ne S dX3_lookBack_24 (tgt := 55) (by decide) (n := 27) rfl (fun c1 => ?_) (fun c1 => ?_)
    ·
      have h15 : ¬ zlc (μ.1 4) i n < 15 := fun q => c1 (zfull (zlM_n μ i n) q)
      exact k_vret S Y dX3_lookBack_55 (by decide) (by decide) (⟨rfl, by have q := (zlM_full μ i n h15 (m + 1)).1; rw [show n + (m + 1) = i + 1 - f by omega] at q; exact q.symm⟩)
    ·
      have h15 : zlc (μ.1 4) i n < 15 := Classical.byContradiction fun q => by rw [zfull1 (zlM_n μ i n) q (by have := zlc_le (μ.1 4) i n; omega)] at c1; exact absurd c1 (by decide)
      refine k_aload0 S dX3_lookBack_27 (n := 28) rfl ?_
      refine k_iload3 S dX3_lookBack_28 (n := 29) rfl ?_
      refine k_callV (As := [.int (nI (i - n))]) (rest := []) (p := 0) S (c_X3_isPoint (i := i - n) (d := d) (by rw [zlM_off μ i (by decide) (by decide) (by decide) n]; exact hd) hd60 (by omega)) mv_X3_isPoint m_359 dX3_lookBack_29 rfl rfl ⟨by decide, by decide⟩ (zlt S (by decide)) (by decide) (ci := 3) rfl rfl rfl (Nat.le_of_ble_eq_true rfl) ⟨by decide, by decide⟩ (n := 32) rfl (fun _ _ h => h.elim) (fun v9 ν9 h9 => ?_)
      rw [h9.1, h9.2]
      show zK x g ({ frames := 2, cells := 0, slots := 0, locals := 42 } : Room) 4 0 0 32 [some (.ref (za g 0)), some (.int (nI i)), some (.ref (za g (11 + k))), some (.int (nI (i - n)))] [.int ((if (zlM μ i n).1 4 (i - n) = 0 then (1 : Int32) else 0))] (zlM μ i n)
      refine k_if_eq S dX3_lookBack_32 (tgt := 49) (by decide) (n := 35) rfl (fun c2 => ?_) (fun c2 => ?_)
      ·
        have c3 : ¬ μ.1 4 (i - n) = 0 := by have q := zi0n c2; rw [zlM_off μ i (by decide) (by decide) (by decide) n] at q; exact q
        have e1 : zlM μ i (n + 1) = zlM μ i n := by rw [zlM, if_pos h15, if_neg c3]
        refine k_iinc3 S dX3_lookBack_49 (v := nI (i - n) + (-1)) rfl (by decide) (n := 52) rfl ?_
        refine k_goto S dX3_lookBack_52 (tgt := 9) (by decide) ?_
        have q9 := ih (n + 1) (nI (i - n) + (-1)) (by omega) (by rw [← pk_sub (show n ≤ i by omega), nI_succ, Int32.sub_eq_add_neg, Int32.sub_eq_add_neg, Int32.neg_add, Int32.sub_eq_add_neg, Int32.add_assoc])
        rw [e1] at q9
        exact q9
      ·
        have c3 : μ.1 4 (i - n) = 0 := by have q := zi0 c2; rw [zlM_off μ i (by decide) (by decide) (by decide) n] at q; exact q
        have e1 : zlM μ i (n + 1) = zu (zu (zu (zlM μ i n) 9 (zlc (μ.1 4) i n) (nI (i - n))) 10 (zlc (μ.1 4) i n) (μ.1 3 (i - n))) 8 2 (nI (zlc (μ.1 4) i n + 1)) := by rw [zlM, if_pos h15, if_pos c3]
        refine k_aload0 S dX3_lookBack_35 (n := 36) rfl ?_
        refine k_getr (r := 8) (T := TX3) (j := 15) S dX3_lookBack_36 (zlt S (by decide)) (by decide) (ci := 3) rfl rfl (by decide) in_3 m_160 rfl rfl (n := 39) rfl ?_
        refine k_iload3 S dX3_lookBack_39 (n := 40) rfl ?_
        refine k_aload0 S dX3_lookBack_40 (n := 41) rfl ?_
        refine k_getr (r := 3) (T := TX3) (j := 9) S dX3_lookBack_41 (zlt S (by decide)) (by decide) (ci := 3) rfl rfl (by decide) in_3 m_154 rfl rfl (n := 44) rfl ?_
        refine k_iload3 S dX3_lookBack_44 (n := 45) rfl ?_
        refine k_ialdv (v := μ.1 3 (i - n)) S dX3_lookBack_45 (j := (i - n)) (zlt S (by decide)) (by decide) rfl (show i - n < 60 by omega) (by decide) (by rw [zlM_off μ i (by decide) (by decide) (by decide) n]) (n := 46) rfl ?_
        refine k_callV (As := [.int (nI (i - n)), .int (μ.1 3 (i - n))]) (rest := []) (p := 8) S (c_X2_add (n := zlc (μ.1 4) i n) (zlM_n μ i n) h15) mv_X2_add m_538 dX3_lookBack_46 rfl rfl ⟨by decide, by decide⟩ (zlt S (by decide)) (by decide) (ci := 2) rfl rfl rfl (Nat.le_of_ble_eq_true rfl) ⟨by decide, by decide⟩ (n := 49) rfl (fun _ _ h => h.elim) (fun v9 ν9 h9 => ?_)
        rw [h9.1, h9.2]
        show zK x g ({ frames := 2, cells := 0, slots := 0, locals := 42 } : Room) 4 0 0 49 [some (.ref (za g 0)), some (.int (nI i)), some (.ref (za g (11 + k))), some (.int (nI (i - n)))] [] (zu (zu (zu (zlM μ i n) 9 (zlc (μ.1 4) i n) (nI (i - n))) 10 (zlc (μ.1 4) i n) (μ.1 3 (i - n))) 8 2 (nI (zlc (μ.1 4) i n + 1)))
        refine k_iinc3 S dX3_lookBack_49 (v := nI (i - n) + (-1)) rfl (by decide) (n := 52) rfl ?_
        refine k_goto S dX3_lookBack_52 (tgt := 9) (by decide) ?_
        have q9 := ih (n + 1) (nI (i - n) + (-1)) (by omega) (by rw [← pk_sub (show n ≤ i by omega), nI_succ, Int32.sub_eq_add_neg, Int32.sub_eq_add_neg, Int32.neg_add, Int32.sub_eq_add_neg, Int32.add_assoc])
        rw [e1] at q9
        exact q9
set_option maxRecDepth 100000 in
set_option maxHeartbeats 4000000 in
theorem c_X3_lookBack {l : Launch} {g : zG} {μ : zM} {i k f d : Nat} (hd : μ.1 0 6 = nI d) (hd60 : d ≤ 60) (hi : i < d) (hfi : f ≤ i) (hk : k < 10) (hf : μ.1 (11 + k) 0 = nI f) : zC l g yX3_lookBack cX3_lookBack 4 none ({ frames := 2, cells := 0, slots := 0, locals := 42 } : Room) 0 0 [.ref (za g 0), .int (nI i), .ref (za g (11 + k))] μ (zRv none (zlM μ i (i + 1 - f))) zNX := by
  refine zC_of (L0 := [some (.ref (za g 0)), some (.int (nI i)), some (.ref (za g (11 + k))), none]) (plainFor_of_name (by decide)) (Nat.le_of_ble_eq_true rfl) rfl ?_
  intro x S Y hxl
  subst hxl
  refine k_aload0 S dX3_lookBack_0 (n := 1) rfl ?_
  refine k_getr (r := 8) (T := TX3) (j := 15) S dX3_lookBack_1 (zlt S (by decide)) (by decide) (ci := 3) rfl rfl (by decide) in_3 m_160 rfl rfl (n := 4) rfl ?_
  refine k_callV (As := []) (rest := []) (p := 8) S (c_X2_restart) mv_X2_restart m_530 dX3_lookBack_4 rfl rfl ⟨by decide, by decide⟩ (zlt S (by decide)) (by decide) (ci := 2) rfl rfl rfl (Nat.le_of_ble_eq_true rfl) ⟨by decide, by decide⟩ (n := 7) rfl (fun _ _ h => h.elim) (fun v9 ν9 h9 => ?_)
  rw [h9.1, h9.2]
  show zK x g ({ frames := 2, cells := 0, slots := 0, locals := 42 } : Room) 4 0 0 7 [some (.ref (za g 0)), some (.int (nI i)), some (.ref (za g (11 + k))), none] [] (zu μ 8 2 0)
  refine k_iload1 S dX3_lookBack_7 (n := 8) rfl ?_
  refine k_istore3 S dX3_lookBack_8 (by decide) rfl (n := 9) rfl ?_
  exact l_X3_lookBack S Y hd hd60 hi hfi hk hf (i + 1 - f) 0 _ (by omega) (by rw [nI_0]; exact (Int32.sub_zero _).symm)
