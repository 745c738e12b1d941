/-! THE POINTS of a phase: the desk's walks from the phase's first subgroup on, and back -/
theorem zpx_at {ph : Nat → Nat} {rs : Nat → Int32} {t p : Nat} (h1 : ph p = t) (h2 : rs p = 0) : ∀ N, p < N → zpx ph rs t N (zpc ph rs t p) = p
  | 0, h => absurd h (Nat.not_lt_zero p)
  | N + 1, h => by
    rw [zpx_s]
    by_cases e : p = N
    · subst e
      rw [if_pos h1, if_pos h2]
      exact if_pos rfl
    · have ih := zpx_at (ph := ph) h1 h2 N (by omega)
      by_cases k1 : ph N = t
      · rw [if_pos k1]
        by_cases k2 : rs N = 0
        · rw [if_pos k2]
          have hm := zpc_mono ph rs t (show p + 1 ≤ N by omega)
          rw [zpc_s, if_pos h1, if_pos h2] at hm
          exact (if_neg (by omega)).trans ih
        · rw [if_neg k2]
          exact ih
      · rw [if_neg k1]
        exact ih
theorem zpc_none {ph : Nat → Nat} {rs : Nat → Int32} {t : Nat} : ∀ n, (∀ j, j < n → ph j ≠ t) → zpc ph rs t n = 0
  | 0, _ => rfl
  | n + 1, h => by
    rw [zpc_s, if_neg (h n (by omega))]
    exact zpc_none n (fun j hj => h j (by omega))
def zfo {α : Type} (st : α → Int32 → α) (c0 : α) (xs : Nat → Int32) : Nat → α
  | 0 => c0
  | n + 1 => st (zfo st c0 xs n) (xs n)
theorem zfo_congr {α : Type} {st : α → Int32 → α} {c0 : α} {xs xs' : Nat → Int32} : ∀ n, (∀ j, j < n → xs j = xs' j) → zfo st c0 xs n = zfo st c0 xs' n
  | 0, _ => rfl
  | n + 1, h => by
    show st (zfo st c0 xs n) (xs n) = st (zfo st c0 xs' n) (xs' n)
    rw [zfo_congr n (fun j hj => h j (by omega)), h n (by omega)]
theorem zfo_walk {α : Type} {st : α → Int32 → α} {c0 : α} {G : Nat → α} {ph : Nat → Nat} {rs ms : Nat → Int32} {t f : Nat} (G0 : G 0 = c0) (Gs : ∀ n, G (n + 1) = if rs (f + n) = 0 then st (G n) (ms (f + n)) else G n) (hb : ∀ j, j < f → ph j ≠ t) :
    ∀ n, (∀ j, f ≤ j → j < f + n → ph j = t) → G n = zfo st c0 (fun j => ms (zpx ph rs t (f + n) j)) (zpc ph rs t (f + n))
  | 0, _ => by
    rw [Nat.add_zero, zpc_none f hb]
    exact G0
  | n + 1, h => by
    have ih := zfo_walk (α := α) (st := st) G0 Gs hb n (fun j h1 h2 => h j h1 (by omega))
    have hp := h (f + n) (by omega) (by omega)
    rw [Gs, ← Nat.add_assoc, zpc_s, zpx_s, if_pos hp, if_pos hp]
    by_cases k : rs (f + n) = 0
    · rw [if_pos k, if_pos k, if_pos k]
      show st (G n) (ms (f + n)) = st (zfo st c0 (fun j => ms (if j = zpc ph rs t (f + n) then f + n else zpx ph rs t (f + n) j)) (zpc ph rs t (f + n))) (ms (if zpc ph rs t (f + n) = zpc ph rs t (f + n) then f + n else zpx ph rs t (f + n) (zpc ph rs t (f + n))))
      rw [if_pos rfl, ih]
      refine congrArg (fun z => st z (ms (f + n))) (zfo_congr _ (fun j hj => ?_))
      rw [if_neg (by omega)]
    · rw [if_neg k, if_neg k, if_neg k]
      exact ih
theorem zMP.walk {μ : zM} {d c i : Nat} {ph fs : Nat → Nat} (h : zMP μ d c ph fs) (hi : i < d) : fs (ph i) ≤ i ∧ (∀ j, j < fs (ph i) → ph j ≠ ph i) ∧ ∀ j, fs (ph i) ≤ j → j < i + 1 → ph j = ph i := by
  obtain ⟨-, -, -, h4⟩ := h
  obtain ⟨a1, a2⟩ := h4 i hi
  have f1 := (a2 (ph i) a1).mpr (Nat.le_refl _)
  refine ⟨f1, fun j hj e => ?_, fun j h1 h2 => ?_⟩
  · obtain ⟨b1, b2⟩ := h4 j (by omega)
    have := (b2 (ph i) a1).mpr (by omega)
    omega
  · obtain ⟨b1, b2⟩ := h4 j (by omega)
    have q1 := (b2 (ph i) a1).mp h1
    have q2 := (b2 (ph j) b1).mpr (Nat.le_refl _)
    have q3 := (a2 (ph j) b1).mp (by omega)
    omega
theorem zRI_fold {C W : Int32} {c0 : Nat → Int32} (h0 : ∀ y, zRI c0 0 y C W) (xs : Nat → Int32) : ∀ m, m ≤ 60 → ∃ y : Nat → Int32, (∀ j, j < m → y j = xs (m - 1 - j)) ∧ zRI (zfo (fun F a => r_X1_take F a C W) c0 xs m) m y C W
  | 0, _ => ⟨xs, fun j hj => absurd hj (Nat.not_lt_zero j), h0 xs⟩
  | m + 1, h => by
    obtain ⟨y, h1, h2⟩ := zRI_fold (C := C) (W := W) h0 xs m (by omega)
    refine ⟨zcons (xs m) y, fun j hj => ?_, zRI_go h2 (by omega)⟩
    match j, hj with
    | 0, _ => rfl
    | j + 1, hj =>
      refine (h1 j (by omega)).trans (congrArg xs ?_)
      omega
/-- what stands of the points of phase t up to subgroup n - 1 -/
theorem zJ.xb {μ : zM} {s d c b w : Nat} {ph fs : Nat → Nat} (h : zJ μ s d c b w ph fs) {j : Nat} (hj : j < d) : zBd (zmn μ j) ∧ μ.1 3 j = zmn μ j := by
  have q := h.2.2.2.2.2.1 j hj
  exact ⟨(zmn_bd h.1.2.2.2.2 h.1.2.2.2.1 q.2.2.2.2.2.2.1).1, q.2.2.2.1⟩
theorem zJ.pl {μ : zM} {s d c b w : Nat} {ph fs : Nat → Nat} (h : zJ μ s d c b w ph fs) {k : Nat} (hk : k < c) (hz : zHas μ ph k d) : (μ.1 (11 + k) 5 = zLC μ ph k d s ∧ μ.1 (11 + k) 6 = zLR μ ph k d ∧ μ.1 (11 + k) 7 = zWd s 0 (zLR μ ph k d) ∧ μ.1 (11 + k) 8 = zWd s 1 (zLR μ ph k d)) ∧ zBd (zLC μ ph k d s) ∧ (0 ≤ (zLR μ ph k d).toInt ∧ (zLR μ ph k d).toInt ≤ 19998000) ∧ zBw (zWd s 0 (zLR μ ph k d)) := by
  have q := h.2.2.2.2.2.2 k hk
  have hb := zL_bd h.1.2.2.1 h.1.2.2.2.2 h.vb q hz
  have ht := (zTab_bd h.1.2.2.2.2).1
  exact ⟨q.2.2.2.2.2.1 hz, hb.1, hb.2, zWd_bd ⟨ht.1, by omega⟩ hb.2.1 hb.2.2⟩
theorem zJ.has {μ : zM} {s d c b w : Nat} {ph fs : Nat → Nat} (_ : zJ μ s d c b w ph fs) {i : Nat} (hi : i < d) (hr : μ.1 24 i = 0) : zHas μ ph (ph i) d ∧ 0 < zpc ph (μ.1 24) (ph i) (i + 1) := ⟨Or.inr (zpc_pos ph (μ.1 24) hi hr), by rw [zpc_s, if_pos rfl, if_pos hr]; omega⟩
/-- counts that stand for the points of i's phase up to i tell what the reference tells -/
theorem zJ.told {μ : zM} {s d c b w : Nat} {ph fs : Nat → Nat} (h : zJ μ s d c b w ph fs) {i : Nat} (hi : i < d) (hr : μ.1 24 i = 0) {F y : Nat → Int32} (hy : ∀ j, j < zpc ph (μ.1 24) (ph i) (i + 1) → y j = zys μ ph (ph i) (i + 1) j)
    (hF : zRI F (zpc ph (μ.1 24) (ph i) (i + 1)) y (zLC μ ph (ph i) d s) (zWd s 0 (zLR μ ph (ph i) d))) : v_X1_brokenRules F = zBK μ ph i d s := by
  obtain ⟨hz, hm⟩ := h.has hi hr
  obtain ⟨-, hC, -, hW⟩ := h.pl (h.1.pc hi) hz
  unfold zBK
  rw [zSet_B8]
  refine zRI_rules hF hm (b := zbr (zpc ph (μ.1 24) (ph i) (i + 1)) (zys μ ph (ph i) (i + 1)) (zLC μ ph (ph i) d s) (zWd s 0 (zLR μ ph (ph i) d))) (fun r h1 h8 => ?_)
  have hys : ∀ j, j < zpc ph (μ.1 24) (ph i) (i + 1) → zBd (zys μ ph (ph i) (i + 1) j) := fun j hj => by
    have := zpx_lt ph (μ.1 24) (ph i) (i + 1) (zpc ph (μ.1 24) (ph i) (i + 1) - 1 - j) (by omega)
    exact (h.xb (by omega)).1
  rw [zWb_br hC hW hys h1 h8]
  exact (zWb_congr h1 h8 (Or.inl rfl) hy).symm
theorem zJ.pc4 {μ : zM} {s d c b w : Nat} {ph fs : Nat → Nat} (h : zJ μ s d c b w ph fs) {n : Nat} (hn : n ≤ d) (t : Nat) : zpc ph (μ.1 4) t n = zpc ph (μ.1 24) t n ∧ zpx ph (μ.1 4) t n = zpx ph (μ.1 24) t n := by
  have q : ∀ i, i < n → μ.1 4 i = μ.1 24 i := fun i hi => (h.2.2.2.2.2.1 i (by omega)).2.2.1
  exact ⟨zpc_congr t n (fun _ _ => rfl) q, zpx_congr t n (fun _ _ => rfl) q⟩
/-- SIGNALS -/
theorem zJ.signals {μ : zM} {s d c b w : Nat} {ph fs : Nat → Nat} (h : zJ μ s d c b w ph fs) {i : Nat} (hi : i < d) (hr : μ.1 24 i = 0) : v_X1_brokenRules (zrcF (μ.1 4) (μ.1 3) (fs (ph i)) (μ.1 (11 + ph i) 5) (μ.1 (11 + ph i) 7) (r_X1_restart (μ.1 7)) (i + 1 - fs (ph i))) = zBK μ ph i d s := by
  obtain ⟨w1, w2, w3⟩ := h.1.1.walk hi
  obtain ⟨hz, hm⟩ := h.has hi hr
  obtain ⟨⟨p5, -, p7, -⟩, -⟩ := h.pl (h.1.pc hi) hz
  obtain ⟨c1, c2⟩ := h.pc4 (n := i + 1) (by omega) (ph i)
  have hw := zfo_walk (st := fun F a => r_X1_take F a (μ.1 (11 + ph i) 5) (μ.1 (11 + ph i) 7)) (c0 := r_X1_restart (μ.1 7)) (G := zrcF (μ.1 4) (μ.1 3) (fs (ph i)) (μ.1 (11 + ph i) 5) (μ.1 (11 + ph i) 7) (r_X1_restart (μ.1 7))) (ms := μ.1 3) (rs := μ.1 4) rfl (fun n => rfl) w2 (i + 1 - fs (ph i)) (fun j h1 h2 => w3 j h1 (by omega))
  rw [show fs (ph i) + (i + 1 - fs (ph i)) = i + 1 by omega, c1, c2] at hw
  obtain ⟨y, y1, y2⟩ := zRI_fold (C := μ.1 (11 + ph i) 5) (W := μ.1 (11 + ph i) 7) (c0 := r_X1_restart (μ.1 7)) (fun y => zRI_0 _ _ _ _) (fun j => μ.1 3 (zpx ph (μ.1 24) (ph i) (i + 1) j)) (zpc ph (μ.1 24) (ph i) (i + 1)) (by have := zpc_le ph (μ.1 24) (ph i) (i + 1); have := h.1.2.2.1; omega)
  rw [hw]
  rw [p5, p7] at y2 ⊢
  refine h.told hi hr (y := y) (fun j hj => ?_) y2
  rw [y1 j hj]
  have := zpx_lt ph (μ.1 24) (ph i) (i + 1) (zpc ph (μ.1 24) (ph i) (i + 1) - 1 - j) (by omega)
  exact (h.xb (by omega)).2
/-- the window behind i -/
theorem zback {μ : zM} {ph : Nat → Nat} {i f t : Nat} (hp : ∀ j, f ≤ j → j < i + 1 → ph j = t) : ∀ n, n ≤ i + 1 - f → zlc (μ.1 4) i n = min 15 (zpc ph (μ.1 4) t (i + 1) - zpc ph (μ.1 4) t (i + 1 - n)) ∧
    ∀ j, j < zlc (μ.1 4) i n → (zlM μ i n).1 9 j = nI (zpx ph (μ.1 4) t (i + 1) (zpc ph (μ.1 4) t (i + 1) - 1 - j)) ∧ (zlM μ i n).1 10 j = μ.1 3 (zpx ph (μ.1 4) t (i + 1) (zpc ph (μ.1 4) t (i + 1) - 1 - j))
  | 0, _ => ⟨by show 0 = _; rw [Nat.sub_zero, Nat.sub_self]; rfl, fun j hj => absurd hj (Nat.not_lt_zero j)⟩
  | n + 1, h => by
    obtain ⟨g1, g2⟩ := zback (μ := μ) hp n (by omega)
    have e1 : i + 1 - n = (i - n) + 1 := by omega
    have e2 : i + 1 - (n + 1) = i - n := by omega
    have hpp := hp (i - n) (by omega) (by omega)
    have m1 := zpc_mono ph (μ.1 4) t (show i - n + 1 ≤ i + 1 by omega)
    have s1 := zpc_s ph (μ.1 4) t (i - n)
    rw [if_pos hpp] at s1
    rw [e1] at g1
    rw [zlc_s, zlM_s, e2]
    by_cases k1 : zlc (μ.1 4) i n < 15
    · rw [if_pos k1, if_pos k1]
      by_cases k2 : μ.1 4 (i - n) = 0
      · rw [if_pos k2] at s1
        rw [if_pos k2, if_pos k2]
        refine ⟨by omega, fun j hj => ?_⟩
        by_cases ej : j = zlc (μ.1 4) i n
        · have e3 : zpc ph (μ.1 4) t (i + 1) - 1 - j = zpc ph (μ.1 4) t (i - n) := by omega
          rw [e3, zpx_at hpp k2 (i + 1) (by omega), ej]
          constructor
          · rw [zu_off _ _ _ _ (by decide), zu_off _ _ _ _ (by decide), zu_at, upd_eq]
          · rw [zu_off _ _ _ _ (by decide), zu_at, upd_eq]
        · rw [zu_off _ _ _ _ (by decide), zu_off _ _ _ _ (by decide), zu_at, upd_ne _ _ ej, zu_off _ _ _ _ (by decide), zu_at, upd_ne _ _ ej, zu_off _ _ _ _ (by decide)]
          exact g2 j (by omega)
      · rw [if_neg k2] at s1
        rw [if_neg k2, if_neg k2]
        rw [s1] at g1
        exact ⟨g1, g2⟩
    · rw [if_neg k1, if_neg k1]
      refine ⟨?_, g2⟩
      have : zpc ph (μ.1 4) t (i - n) ≤ zpc ph (μ.1 4) t (i - n + 1) := zpc_mono ph (μ.1 4) t (by omega)
      omega
theorem zJ.window {μ : zM} {s d c b w : Nat} {ph fs : Nat → Nat} (h : zJ μ s d c b w ph fs) {i : Nat} (hi : i < d) : zlc (μ.1 4) i (i + 1 - fs (ph i)) = min 15 (zpc ph (μ.1 24) (ph i) (i + 1)) ∧
    ∀ j, j < zlc (μ.1 4) i (i + 1 - fs (ph i)) → (zlM μ i (i + 1 - fs (ph i))).1 9 j = nI (zpx ph (μ.1 24) (ph i) (i + 1) (zpc ph (μ.1 24) (ph i) (i + 1) - 1 - j)) ∧ (zlM μ i (i + 1 - fs (ph i))).1 10 j = zys μ ph (ph i) (i + 1) j := by
  obtain ⟨w1, w2, w3⟩ := h.1.1.walk hi
  obtain ⟨c1, c2⟩ := h.pc4 (n := i + 1) (by omega) (ph i)
  obtain ⟨g1, g2⟩ := zback (μ := μ) (f := fs (ph i)) (t := ph i) w3 (i + 1 - fs (ph i)) (Nat.le_refl _)
  rw [show i + 1 - (i + 1 - fs (ph i)) = fs (ph i) by omega, zpc_none (fs (ph i)) w2, Nat.sub_zero, c1] at g1
  rw [c1, c2] at g2
  refine ⟨g1, fun j hj => ⟨(g2 j hj).1, (g2 j hj).2.trans ?_⟩⟩
  have := zpx_lt ph (μ.1 24) (ph i) (i + 1) (zpc ph (μ.1 24) (ph i) (i + 1) - 1 - j) (by omega)
  exact (h.xb (by omega)).2
theorem zJ.wWb {μ : zM} {s d c b w : Nat} {ph fs : Nat → Nat} (h : zJ μ s d c b w ph fs) {i : Nat} (hi : i < d) (hr : μ.1 24 i = 0) {r : Nat} (h1 : 1 ≤ r) (h8 : r ≤ 8) : zWb r (zlc (μ.1 4) i (i + 1 - fs (ph i))) ((zlM μ i (i + 1 - fs (ph i))).1 10) (μ.1 (11 + ph i) 5) (μ.1 (11 + ph i) 7) ↔
    zbr (zpc ph (μ.1 24) (ph i) (i + 1)) (zys μ ph (ph i) (i + 1)) (zLC μ ph (ph i) d s) (zWd s 0 (zLR μ ph (ph i) d)) r = true := by
  obtain ⟨hz, hm⟩ := h.has hi hr
  obtain ⟨⟨p5, -, p7, -⟩, hC, -, hW⟩ := h.pl (h.1.pc hi) hz
  obtain ⟨g1, g2⟩ := h.window hi
  have hys : ∀ j, j < zpc ph (μ.1 24) (ph i) (i + 1) → zBd (zys μ ph (ph i) (i + 1) j) := fun j hj => by
    have := zpx_lt ph (μ.1 24) (ph i) (i + 1) (zpc ph (μ.1 24) (ph i) (i + 1) - 1 - j) (by omega)
    exact (h.xb (by omega)).1
  rw [zWb_br hC hW hys h1 h8, p5, p7]
  exact zWb_congr h1 h8 (by omega) (fun j hj => (g2 j hj).2)
theorem zbs_s {P : Nat → Prop} {r : Nat} {b : Bool} (h : P (r + 1) ↔ b = true) : zbs P (r + 1) = zbs P r ||| (if b = true then (1 : Int32) <<< (nI (r + 1) &&& 31) else 0) := by
  by_cases e : b = true
  · rw [if_pos e]
    exact if_pos (h.mpr e)
  · rw [if_neg e, Int32.or_zero]
    exact if_neg (fun q => e (h.mp q))
theorem zbs_B8 {P : Nat → Prop} {b : Nat → Bool} (h : ∀ r, 1 ≤ r → r ≤ 8 → (P r ↔ b r = true)) : zbs P 8 = zB8 (b 1) (b 2) (b 3) (b 4) (b 5) (b 6) (b 7) (b 8) := by
  rw [zbs_s (h 8 (by decide) (by decide)), zbs_s (h 7 (by decide) (by decide)), zbs_s (h 6 (by decide) (by decide)), zbs_s (h 5 (by decide) (by decide)), zbs_s (h 4 (by decide) (by decide)), zbs_s (h 3 (by decide) (by decide)), zbs_s (h 2 (by decide) (by decide)), zbs_s (h 1 (by decide) (by decide))]
  rfl
/-- SIGNALS BY WINDOWS -/
theorem zJ.windows {μ : zM} {s d c b w : Nat} {ph fs : Nat → Nat} (h : zJ μ s d c b w ph fs) {i : Nat} (hi : i < d) (hr : μ.1 24 i = 0) : zbs (fun r => zWb r (zlc (μ.1 4) i (i + 1 - fs (ph i))) ((zlM μ i (i + 1 - fs (ph i))).1 10) (μ.1 (11 + ph i) 5) (μ.1 (11 + ph i) 7)) 8 = zBK μ ph i d s := by
  unfold zBK
  rw [zSet_B8]
  exact zbs_B8 (b := zbr (zpc ph (μ.1 24) (ph i) (i + 1)) (zys μ ph (ph i) (i + 1)) (zLC μ ph (ph i) d s) (zWd s 0 (zLR μ ph (ph i) d))) (fun r h1 h8 => h.wWb hi hr h1 h8)
theorem zPt_N : ∀ q, q < 8 → zPt q = zNm (q + 1) ∧ 1 ≤ zNm (q + 1) ∧ zNm (q + 1) ≤ 15 := by decide +kernel
/-- FIRST OF -/
theorem zJ.firstOf {μ : zM} {s d c b w : Nat} {ph fs : Nat → Nat} (h : zJ μ s d c b w ph fs) {i q : Nat} (hi : i < d) (hq : q < 8) (hb : zbr (zpc ph (μ.1 24) (ph i) (i + 1)) (zys μ ph (ph i) (i + 1)) (zLC μ ph (ph i) d s) (zWd s 0 (zLR μ ph (ph i) d)) (q + 1) = true) :
    (zlM μ i (i + 1 - fs (ph i))).1 9 (zPt q - 1) = nI (zpx ph (μ.1 24) (ph i) (i + 1) (zpc ph (μ.1 24) (ph i) (i + 1) - zNm (q + 1))) := by
  obtain ⟨g1, g2⟩ := h.window hi
  obtain ⟨e1, e2, e3⟩ := zPt_N q hq
  have e4 := zbr_le hb
  rw [(g2 (zPt q - 1) (by omega)).1]
  exact congrArg (fun z => nI (zpx ph (μ.1 24) (ph i) (i + 1) z)) (by omega)
