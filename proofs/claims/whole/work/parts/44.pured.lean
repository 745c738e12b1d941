/-! THE COUPLING: a subgroup is done, the whole -/
theorem upd_eq (f : Nat → Int32) (i : Nat) (v : Int32) : upd f i v i = v := by simp [upd]
theorem upd_ne (f : Nat → Int32) {i j : Nat} (v : Int32) (h : j ≠ i) : upd f i v j = f j := by simp [upd, h]
theorem zJ.done {μ : zM} {s d c b w : Nat} {ph fs : Nat → Nat} {v : Int32} (h : zJ μ s d c b w ph fs) (h1 : -9999 ≤ v) (h2 : v ≤ 9999) (hb : b + 1 = s + 2) (hd : d < 60) : zJ (m_X0_settle (zDn μ v d s c) (c - 1) s) s (d + 1) c 0 w (zphN ph d (c - 1)) fs := by
  have hbd := zB_bd h.1.2.2.2.2 h.2.2.1 h1 h2
  have hvb := h.vb
  obtain ⟨⟨⟨m1, m2, m3, m4⟩, a2, a3, a4, a5⟩, ⟨b1, b2, b3, b4⟩, hB, hF, hF0, hR, hP⟩ := h
  obtain ⟨X, eX⟩ : ∃ X, X = zDn μ v d s c := ⟨_, rfl⟩
  have o : ∀ a, 6 ≤ a → a ≠ 11 + (c - 1) → a ≠ 21 → a ≠ 22 → a ≠ 23 → a ≠ 24 → X.1 a = μ.1 a := fun a q1 q2 q3 q4 q5 q6 => by rw [eX]; exact zDn_off μ v d s c q1 q2 q3 q4 q5 q6
  have xk := zDn_k μ v d s c m2
  obtain ⟨r1, r2, r3, r4, r5, r22, r23, r24⟩ := zDn_rows μ v d s c m2
  have x0 := zDn_0 μ v d s c
  have x21 := zDn_21 μ v d s c m2
  rw [← eX] at xk r1 r2 r3 r4 r5 r22 r23 r24 x0 x21 ⊢
  have S : ∀ a, a ≠ 11 + (c - 1) → (m_X0_settle X (c - 1) s).1 a = X.1 a := fun a q => settle_off X q
  have x21' : ∀ j, j ≠ 23 → j ≠ 3 → j ≠ 4 → j ≠ 5 → j ≠ 2 → j ≠ 1 → X.1 21 j = μ.1 21 j := fun j q1 q2 q3 q4 q5 q6 => by rw [x21, upd_ne _ _ q5, upd_ne _ _ q6, upd_ne _ _ q5, upd_ne _ _ q4, upd_ne _ _ q3, upd_ne _ _ q2, upd_ne _ _ q1]
  have x0' : ∀ j, j ≠ 3 → j ≠ 4 → j ≠ 5 → j ≠ 2 → j ≠ 6 → X.1 0 j = μ.1 0 j := fun j q2 q3 q4 q5 q6 => by rw [x0, upd_ne _ _ q6, upd_ne _ _ q5, upd_ne _ _ q5, upd_ne _ _ q4, upd_ne _ _ q3, upd_ne _ _ q2]
  have hrg : (zB5 μ v - zB4 μ v).toInt = (zB5 μ v).toInt - (zB4 μ v).toInt := z32s (by omega) (by omega)
  have p1 : ∀ i, i < d → zphN ph d (c - 1) i = ph i := fun i hi => if_neg (by omega)
  have p2 : zphN ph d (c - 1) d = c - 1 := if_pos rfl
  have q24 : ∀ i, i < d → X.1 24 i = μ.1 24 i := fun i hi => by rw [r24]; exact upd_ne _ _ (by omega)
  have d24 : X.1 24 d = 0 := by rw [r24]; exact upd_eq _ _ _
  have ec : ∀ k, zpc (zphN ph d (c - 1)) (X.1 24) k d = zpc ph (μ.1 24) k d := fun k => zpc_congr k d p1 q24
  have ex : ∀ k, zpx (zphN ph d (c - 1)) (X.1 24) k d = zpx ph (μ.1 24) k d := fun k => zpx_congr k d p1 q24
  have es2 : ∀ k, zSm (X.1 22) (zphN ph d (c - 1)) (X.1 24) k d = zSm (μ.1 22) ph (μ.1 24) k d := fun k => zSm_congr k d (fun i hi => by rw [r22]; exact upd_ne _ _ (by omega)) p1 q24
  have es3 : ∀ k, zSm (X.1 23) (zphN ph d (c - 1)) (X.1 24) k d = zSm (μ.1 23) ph (μ.1 24) k d := fun k => zSm_congr k d (fun i hi => by rw [r23]; exact upd_ne _ _ (by omega)) p1 q24
  have hbB : ((b : Int) + 1) = (s : Int) + 2 := by omega
  have hX : zVb X s (d + 1) := by
    intro i hi
    rw [r22, r23]
    by_cases e : i = d
    · subst e
      rw [upd_eq, upd_eq, hrg, ← hbB]
      exact ⟨hbd.1, by omega, by omega⟩
    · rw [upd_ne _ _ e, upd_ne _ _ e]
      exact hvb i (by omega)
  refine ⟨⟨⟨?_, m2, fun k hk => ?_, fun i hi => ?_⟩, ?_, by omega, ?_, a5⟩, ⟨?_, ?_, ?_, b4⟩, ?_, fun k hk => ?_, hF0, fun i hi => ?_, fun k hk => ?_⟩
  · rw [S 21 (by omega), x21' 9 (by decide) (by decide) (by decide) (by decide) (by decide) (by decide)]
    exact m1
  · rw [S 25 (by omega), o 25 (by decide) (by omega) (by decide) (by decide) (by decide) (by decide)]
    exact m3 k hk
  · by_cases e : i = d
    · subst e
      rw [p2]
      exact ⟨by omega, fun k hk => ⟨fun _ => by omega, fun _ => (hF k hk).2⟩⟩
    · rw [p1 i (by omega)]
      exact m4 i (by omega)
  · rw [S 21 (by omega), x21, upd_ne _ _ (by decide), upd_eq]
    exact nI_1 d
  · rw [S 21 (by omega), x21' 0 (by decide) (by decide) (by decide) (by decide) (by decide) (by decide)]
    exact a4
  · rw [S 0 (by omega), x0' 0 (by decide) (by decide) (by decide) (by decide) (by decide)]
    exact b1
  · rw [S 0 (by omega), x0, upd_eq]
    exact nI_1 d
  · rw [S 0 (by omega), x0' 12 (by decide) (by decide) (by decide) (by decide) (by decide)]
    exact b3
  · unfold zJB at hB ⊢
    obtain ⟨q1, q2, q3, q4, q5, q6, -⟩ := hB
    rw [S 0 (by omega), S 21 (by omega), x0' 1 (by decide) (by decide) (by decide) (by decide) (by decide), x21' 14 (by decide) (by decide) (by decide) (by decide) (by decide) (by decide), x0, x21]
    exact ⟨rfl, rfl, by omega, q4, q5, q6, rfl, rfl, rfl, fun q => absurd q (by decide)⟩
  · by_cases e : k = c - 1
    · subst e
      rw [settle_low X (by decide), xk]
      exact ⟨(hF _ hk).1, by have := (hF _ hk).2; omega⟩
    · rw [S _ (by omega), o _ (by omega) (by omega) (by omega) (by omega) (by omega) (by omega)]
      exact ⟨(hF k hk).1, by have := (hF k hk).2; omega⟩
  · have e21 : (m_X0_settle X (c - 1) s).1 21 0 = nI (s + 2) := by
      rw [S 21 (by omega), x21' 0 (by decide) (by decide) (by decide) (by decide) (by decide) (by decide)]
      exact a4
    by_cases e : i = d
    · subst e
      have zb := (zmn_bd (μ := m_X0_settle X (c - 1) s) (i := i) a5 e21 (by rw [S 22 (by omega)]; exact (hX i (by omega)).1)).2
      unfold zJR
      rw [← zb, S 1 (by omega), S 2 (by omega), S 3 (by omega), S 4 (by omega), S 5 (by omega), S 22 (by omega), S 23 (by omega), S 24 (by omega), p2, r1, r2, r3, r4, r5]
      have hx := hX i (by omega)
      rw [r22, r23] at hx ⊢
      rw [r24]
      rw [upd_eq, upd_eq, upd_eq, upd_eq, upd_eq, upd_eq, upd_eq, upd_eq]
      rw [upd_eq, upd_eq] at hx
      exact ⟨rfl, rfl, rfl, rfl, pk_sub (a := c) (b := 1) b4, by decide, hx⟩
    · have q := hR i (by omega)
      unfold zJR zmn at q ⊢
      rw [e21, S 1 (by omega), S 2 (by omega), S 3 (by omega), S 4 (by omega), S 5 (by omega), S 22 (by omega), S 23 (by omega), S 24 (by omega), p1 i (by omega), r1, r2, r3, r4, r5, r22, r23, r24]
      rw [upd_ne _ _ e, upd_ne _ _ e, upd_ne _ _ e, upd_ne _ _ e, upd_ne _ _ e, upd_ne _ _ e, upd_ne _ _ e, upd_ne _ _ e]
      rw [a4] at q
      exact q
  · by_cases e : k = c - 1
    · subst e
      obtain ⟨w1, w2, w3, w4, w5, w6, w7⟩ := hP _ hk
      have o26 := o 26 (by decide) (by omega) (by decide) (by decide) (by decide) (by decide)
      have o27 := o 27 (by decide) (by omega) (by decide) (by decide) (by decide) (by decide)
      have o28 := o 28 (by decide) (by omega) (by decide) (by decide) (by decide) (by decide)
      have hle := zpc_le ph (μ.1 24) (c - 1) d
      have c2 := zSm_bd (v := μ.1 22) (ph := ph) (rs := μ.1 24) (t := c - 1) (A := -60000) (B := 60000) d (fun j hj => by have := (hvb j hj).1; omega)
      have c3 := zSm_bd (v := μ.1 23) (ph := ph) (rs := μ.1 24) (t := c - 1) (A := -60000) (B := 60000) d (fun j hj => by have := (hvb j hj).2; omega)
      have v22 : X.1 22 d = zB3 μ v := by rw [r22]; exact upd_eq _ _ _
      have v23 : X.1 23 d = zB5 μ v - zB4 μ v := by rw [r23]; exact upd_eq _ _ _
      refine zJP_settle (by omega) a5 (by omega) hX ?_ ?_ ?_ ?_ (by rw [o26]; exact w5) (fun hz => ?_) (by rw [o26, o27, o28]; exact w7)
      · rw [xk, upd_ne _ _ (by decide), upd_ne _ _ (by decide), upd_eq, w1, zpc_s, if_pos p2, if_pos d24, ec]
        exact nI_1 _
      · rw [xk, upd_ne _ _ (by decide), upd_eq, zSm_s, if_pos p2, if_pos d24, es2, v22, Int32.one_mul, z32a (by omega) (by omega), w2]
      · rw [xk, upd_eq, zSm_s, if_pos p2, if_pos d24, es3, v23, Int32.one_mul, z32a (by omega) (by omega), w3]
      · rw [xk, upd_ne _ _ (by decide), upd_ne _ _ (by decide), upd_ne _ _ (by decide), o26]
        exact w4
      · rw [o26] at hz
        obtain ⟨l1, l2, l3, l4⟩ := w6 (Or.inl hz)
        have n1 : zLC X (zphN ph d (c - 1)) (c - 1) (d + 1) s = zLC μ ph (c - 1) d s := by
          rw [zLC, zLC, o26, o27, if_neg hz, if_neg hz]
        have n2 : zLR X (zphN ph d (c - 1)) (c - 1) (d + 1) = zLR μ ph (c - 1) d := by
          rw [zLR, zLR, o26, o28, if_neg hz, if_neg hz]
        unfold zlims
        rw [n1, n2, xk, upd_ne _ _ (by decide), upd_ne _ _ (by decide), upd_ne _ _ (by decide), upd_ne _ _ (by decide), upd_ne _ _ (by decide), upd_ne _ _ (by decide), upd_ne _ _ (by decide), upd_ne _ _ (by decide), upd_ne _ _ (by decide), upd_ne _ _ (by decide), upd_ne _ _ (by decide), upd_ne _ _ (by decide)]
        exact ⟨l1, l2, l3, l4⟩
    · have hne : ¬ zphN ph d (c - 1) d = k := by rw [p2]; omega
      have f24 : (m_X0_settle X (c - 1) s).1 24 = X.1 24 := S 24 (by omega)
      have f22 : (m_X0_settle X (c - 1) s).1 22 = X.1 22 := S 22 (by omega)
      have f23 : (m_X0_settle X (c - 1) s).1 23 = X.1 23 := S 23 (by omega)
      refine (hP k hk).frame ?_ ?_ (fun j hj => ?_) (fun j hj => ?_) ?_ ?_ ?_ ?_ ?_
      · rw [S _ (by omega)]
        exact o _ (by omega) (by omega) (by omega) (by omega) (by omega) (by omega)
      · rw [f24, zpc_s, if_neg hne, ec]
      · unfold zSF
        rw [f24, f22, zpx_s, if_neg hne, ex, r22, upd_ne _ _ (Nat.ne_of_lt (zpx_lt ph (μ.1 24) k d j hj))]
      · unfold zSF
        rw [f24, f23, zpx_s, if_neg hne, ex, r23, upd_ne _ _ (Nat.ne_of_lt (zpx_lt ph (μ.1 24) k d j hj))]
      · rw [f24, f22, zSm_s, if_neg hne, es2]
      · rw [f24, f23, zSm_s, if_neg hne, es3]
      · rw [S 26 (by omega), o 26 (by decide) (by omega) (by decide) (by decide) (by decide) (by decide)]
      · rw [S 27 (by omega), o 27 (by decide) (by omega) (by decide) (by decide) (by decide) (by decide)]
      · rw [S 28 (by omega), o 28 (by decide) (by omega) (by decide) (by decide) (by decide) (by decide)]
