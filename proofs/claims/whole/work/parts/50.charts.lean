/-! ALARMS -/
theorem zB8_le : ∀ b1 b2 b3 b4 b5 b6 b7 b8 : Bool, (zB8 b1 b2 b3 b4 b5 b6 b7 b8 ≤ 0 ↔ zB8 b1 b2 b3 b4 b5 b6 b7 b8 = 0) := by decide +kernel
theorem zBK_le {μ : zM} {ph : Nat → Nat} {i d s : Nat} : zBK μ ph i d s ≤ 0 ↔ zBK μ ph i d s = 0 := by
  unfold zBK
  rw [zSet_B8]
  exact zB8_le _ _ _ _ _ _ _ _
theorem zys_s {μ : zM} {ph : Nat → Nat} {n : Nat} {y : Nat → Int32} (hr : μ.1 24 n = 0) (hy : ∀ j, j < zpc ph (μ.1 24) (ph n) n → y j = zys μ ph (ph n) n j) : ∀ j, j < zpc ph (μ.1 24) (ph n) (n + 1) → zcons (zmn μ n) y j = zys μ ph (ph n) (n + 1) j := by
  intro j hj
  have c1 : zpc ph (μ.1 24) (ph n) (n + 1) = zpc ph (μ.1 24) (ph n) n + 1 := by rw [zpc_s, if_pos rfl, if_pos hr]
  have c2 : zpx ph (μ.1 24) (ph n) (n + 1) = fun j => if j = zpc ph (μ.1 24) (ph n) n then n else zpx ph (μ.1 24) (ph n) n j := by rw [zpx_s, if_pos rfl, if_pos hr]
  unfold zys
  rw [c1, c2]
  match j, hj with
  | 0, _ =>
    show zmn μ n = zmn μ (if zpc ph (μ.1 24) (ph n) n + 1 - 1 - 0 = zpc ph (μ.1 24) (ph n) n then n else _)
    rw [if_pos (by omega)]
  | j + 1, hj =>
    rw [c1] at hj
    show y j = zmn μ (if zpc ph (μ.1 24) (ph n) n + 1 - 1 - (j + 1) = zpc ph (μ.1 24) (ph n) n then n else zpx ph (μ.1 24) (ph n) n (zpc ph (μ.1 24) (ph n) n + 1 - 1 - (j + 1)))
    rw [if_neg (by omega), hy j (by omega)]
    unfold zys
    rw [show zpc ph (μ.1 24) (ph n) n + 1 - 1 - (j + 1) = zpc ph (μ.1 24) (ph n) n - 1 - j by omega]
theorem zys_o {μ : zM} {ph : Nat → Nat} {n : Nat} (hr : ¬ μ.1 24 n = 0) : zpc ph (μ.1 24) (ph n) (n + 1) = zpc ph (μ.1 24) (ph n) n ∧ zys μ ph (ph n) (n + 1) = zys μ ph (ph n) n := by
  have c1 : zpc ph (μ.1 24) (ph n) (n + 1) = zpc ph (μ.1 24) (ph n) n := by rw [zpc_s, if_pos rfl, if_neg hr]
  have c2 : zpx ph (μ.1 24) (ph n) (n + 1) = zpx ph (μ.1 24) (ph n) n := by rw [zpx_s, if_pos rfl, if_neg hr]
  refine ⟨c1, ?_⟩
  unfold zys
  rw [c1, c2]
/-- the counts stand for phase t's points up to subgroup n - 1 -/
def zAI (μ : zM) (ph : Nat → Nat) (F : Nat → Int32) (t n : Nat) : Prop := ∃ y : Nat → Int32, (∀ j, j < zpc ph (μ.1 24) t n → y j = zys μ ph t n j) ∧ zRI F (zpc ph (μ.1 24) t n) y (μ.1 (11 + t) 5) (μ.1 (11 + t) 7)
theorem zAI_0 {μ : zM} {ph : Nat → Nat} {t n : Nat} (F : Nat → Int32) (h : ∀ j, j < n → ph j ≠ t) : zAI μ ph (r_X1_restart F) t n := by
  unfold zAI
  rw [zpc_none n h]
  exact ⟨F, fun j hj => absurd hj (Nat.not_lt_zero j), zRI_0 _ _ _ _⟩
theorem zaF_s (rs ms pn ce w : Nat → Int32) (c0 : Nat → Int32) (n : Nat) : zaF rs ms pn ce w c0 (n + 1) = if rs n = 0 then r_X1_take (zaR pn n (zaF rs ms pn ce w c0 n)) (ms n) (ce n) (w n) else zaR pn n (zaF rs ms pn ce w c0 n) := rfl
theorem zaC_s (rs ms pn ce w : Nat → Int32) (c0 : Nat → Int32) (n : Nat) : zaC rs ms pn ce w c0 (n + 1) = if rs n = 0 then zaC rs ms pn ce w c0 n + (if v_X1_brokenRules (zaF rs ms pn ce w c0 (n + 1)) = 0 then 0 else 1) else zaC rs ms pn ce w c0 n := rfl
theorem zaM_s (μ : zM) (ph : Nat → Nat) (d s n : Nat) : zaM μ ph d s (n + 1) = zaM μ ph d s n + (if zbk μ ph n d s ≤ 0 then (0 : Int32) else (1 : Int32)) := rfl
/-- before subgroup n is looked at, and behind it -/
theorem zJ.alF {μ : zM} {s d c b w : Nat} {ph fs : Nat → Nat} (h : zJ μ s d c b w ph fs) : ∀ n, n < d → zAI μ ph (zaR (μ.1 5) n (zaA μ ph n)) (ph n) n ∧ zAI μ ph (zaA μ ph (n + 1)) (ph n) (n + 1) := by
  have step : ∀ n, n < d → zAI μ ph (zaR (μ.1 5) n (zaA μ ph n)) (ph n) n → zAI μ ph (zaA μ ph (n + 1)) (ph n) (n + 1) := by
    intro n hn ⟨y, y1, y2⟩
    have q := h.2.2.2.2.2.1 n hn
    have d60 := h.1.2.2.1
    unfold zaA at y2 ⊢
    rw [zaF_s]
    by_cases k : μ.1 4 n = 0
    · rw [if_pos k]
      have k2 : μ.1 24 n = 0 := q.2.2.1.symm.trans k
      refine ⟨zcons (zmn μ n) y, zys_s k2 y1, ?_⟩
      rw [show zpc ph (μ.1 24) (ph n) (n + 1) = zpc ph (μ.1 24) (ph n) n + 1 by rw [zpc_s, if_pos rfl, if_pos k2], q.2.2.2.1]
      have := zpc_le ph (μ.1 24) (ph n) n
      exact zRI_go y2 (by omega)
    · rw [if_neg k]
      obtain ⟨o1, o2⟩ := zys_o (μ := μ) (ph := ph) (n := n) (fun z => k (q.2.2.1.trans z))
      refine ⟨y, ?_, ?_⟩
      · rw [o1, o2]
        exact y1
      · rw [o1]
        exact y2
  intro n
  induction n with
  | zero =>
    intro hn
    have q := h.2.2.2.2.2.1 0 hn
    have hp := h.1.pc hn
    have hc := h.1.c10
    have z : zAI μ ph (zaR (μ.1 5) 0 (zaA μ ph 0)) (ph 0) 0 := by
      unfold zaR
      rw [if_neg]
      · exact zAI_0 _ (fun j hj => absurd hj (Nat.not_lt_zero j))
      · rw [q.2.2.2.2.1]
        show ¬ nI (ph 0) = -1
        intro e
        have e2 := congrArg Int32.toInt e
        rw [nI_toInt (by omega), show (-1 : Int32).toInt = -1 from rfl] at e2
        omega
    exact ⟨z, step 0 hn z⟩
  | succ k ih =>
    intro hn
    obtain ⟨-, i2⟩ := ih (by omega)
    have q := h.2.2.2.2.2.1 (k + 1) hn
    have q' := h.2.2.2.2.2.1 k (by omega)
    have hp := h.1.pc hn
    have hp' := h.1.pc (show k < d by omega)
    have hc := h.1.c10
    have z : zAI μ ph (zaR (μ.1 5) (k + 1) (zaA μ ph (k + 1))) (ph (k + 1)) (k + 1) := by
      unfold zaR
      rw [show zaN (μ.1 5) (k + 1) = μ.1 5 k from rfl, q.2.2.2.2.1, q'.2.2.2.2.1]
      by_cases e : ph (k + 1) = ph k
      · rw [if_pos (by rw [e]), e]
        exact i2
      · rw [if_neg (fun z => e ((nI_eq (by omega) (by omega)).mp z))]
        refine zAI_0 _ (fun j hj ej => e ?_)
        obtain ⟨-, -, -, h4⟩ := h.1.1
        obtain ⟨a1, a2⟩ := h4 j (by omega)
        obtain ⟨b1, b2⟩ := h4 k (by omega)
        obtain ⟨c1, c2⟩ := h4 (k + 1) hn
        have r1 := (a2 (ph (k + 1)) c1).mpr (by omega)
        have r2 := (b2 (ph (k + 1)) c1).mp (by omega)
        have r3 := (b2 (ph k) b1).mpr (Nat.le_refl _)
        have r4 := (c2 (ph k) b1).mp (by omega)
        omega
    exact ⟨z, step (k + 1) hn z⟩
theorem zJ.alarms {μ : zM} {s d c b w : Nat} {ph fs : Nat → Nat} (h : zJ μ s d c b w ph fs) : zaK μ ph d = zaM μ ph d s d := by
  have key : ∀ n, n ≤ d → zaK μ ph n = zaM μ ph d s n := by
    intro n
    induction n with
    | zero => exact fun _ => rfl
    | succ n ih =>
      intro hn
      have ih' := ih (by omega)
      obtain ⟨-, y, y1, y2⟩ := h.alF n (by omega)
      have q := h.2.2.2.2.2.1 n (by omega)
      unfold zaK at ih' ⊢
      rw [zaC_s, zaM_s]
      by_cases k : μ.1 4 n = 0
      · have k2 : μ.1 24 n = 0 := q.2.2.1.symm.trans k
        obtain ⟨hz, hm⟩ := h.has (show n < d by omega) k2
        obtain ⟨⟨p5, -, p7, -⟩, -⟩ := h.pl (h.1.pc (show n < d by omega)) hz
        rw [p5, p7] at y2
        have e := h.told (show n < d by omega) k2 y1 y2
        unfold zaA at e
        rw [if_pos k, ih', e, show zbk μ ph n d s = zBK μ ph n d s from if_pos k2]
        by_cases z : zBK μ ph n d s = 0
        · rw [if_pos z, if_pos (zBK_le.mpr z)]
        · rw [if_neg z, if_neg (fun x => z (zBK_le.mp x))]
      · rw [if_neg k, ih', show zbk μ ph n d s = 0 from if_neg (fun z => k (q.2.2.1.trans z)), if_pos (by decide), Int32.add_zero]
  exact key d (Nat.le_refl d)
/-! WEIGHTED -/
theorem zfd10 {x z : Int32} {w : Nat} (hx : zBd x) (hz : zBd z) (h1 : 1 ≤ w) (h2 : w ≤ 10) : zBd (z + zfd (nI w * (x - z)) 10) ∧ Int32.toInt64 (z + zfd (nI w * (x - z)) 10) = Int32.toInt64 z + zflM (Int32.toInt64 (nI w) * (Int32.toInt64 x - Int32.toInt64 z)) 10 := by
  have ed := zdf hx hz
  obtain ⟨x1, x2⟩ := hx
  obtain ⟨z1, z2⟩ := hz
  have tw : (nI w).toInt = (w : Int) := nI_toInt (by omega)
  have t10 : (10 : Int32).toInt = 10 := rfl
  have t64 : (10 : Int64).toInt = 10 := rfl
  have hb : -199980000 ≤ (w : Int) * (x.toInt - z.toInt) ∧ (w : Int) * (x.toInt - z.toInt) ≤ 199980000 ∧ (z.toInt ≤ x.toInt → 0 ≤ (w : Int) * (x.toInt - z.toInt) ∧ (w : Int) * (x.toInt - z.toInt) ≤ 10 * (x.toInt - z.toInt)) ∧ (x.toInt ≤ z.toInt → 10 * (x.toInt - z.toInt) ≤ (w : Int) * (x.toInt - z.toInt) ∧ (w : Int) * (x.toInt - z.toInt) ≤ 0) := by
    have : w = 1 ∨ w = 2 ∨ w = 3 ∨ w = 4 ∨ w = 5 ∨ w = 6 ∨ w = 7 ∨ w = 8 ∨ w = 9 ∨ w = 10 := by omega
    rcases this with rfl | rfl | rfl | rfl | rfl | rfl | rfl | rfl | rfl | rfl <;> omega
  have em : (nI w * (x - z)).toInt = (w : Int) * (x.toInt - z.toInt) := by
    rw [z32m (by rw [tw, ed]; omega) (by rw [tw, ed]; omega), tw, ed]
  have ef : (zfd (nI w * (x - z)) 10).toInt = (w : Int) * (x.toInt - z.toInt) / 10 := by
    rw [zfd_eq (by rw [t10]; decide), em, t10]
  have bz : -9999000 ≤ z.toInt + (w : Int) * (x.toInt - z.toInt) / 10 ∧ z.toInt + (w : Int) * (x.toInt - z.toInt) / 10 ≤ 9999000 := by
    obtain ⟨-, -, b3, b4⟩ := hb
    generalize (w : Int) * (x.toInt - z.toInt) = P at b3 b4
    by_cases e : z.toInt ≤ x.toInt
    · have := b3 e
      omega
    · have := b4 (by omega)
      omega
  have ea : (z + zfd (nI w * (x - z)) 10).toInt = z.toInt + (w : Int) * (x.toInt - z.toInt) / 10 := by
    rw [z32a (by rw [ef]; omega) (by rw [ef]; omega), ef]
  refine ⟨by unfold zBd; rw [ea]; exact bz, Int64.toInt_inj.mp ?_⟩
  have e1 : (Int32.toInt64 x - Int32.toInt64 z).toInt = x.toInt - z.toInt := by
    rw [z64s (by rw [Int32.toInt_toInt64, Int32.toInt_toInt64]; omega) (by rw [Int32.toInt_toInt64, Int32.toInt_toInt64]; omega), Int32.toInt_toInt64, Int32.toInt_toInt64]
  have e2 : (Int32.toInt64 (nI w) * (Int32.toInt64 x - Int32.toInt64 z)).toInt = (w : Int) * (x.toInt - z.toInt) := by
    rw [z64m (by rw [Int32.toInt_toInt64, tw, e1]; omega) (by rw [Int32.toInt_toInt64, tw, e1]; omega), Int32.toInt_toInt64, tw, e1]
  have e3 : (zflM (Int32.toInt64 (nI w) * (Int32.toInt64 x - Int32.toInt64 z)) 10).toInt = (w : Int) * (x.toInt - z.toInt) / 10 := by
    rw [zflM_eq (by rw [t64]; decide), e2, t64]
  rw [Int32.toInt_toInt64, ea, z64a (by rw [Int32.toInt_toInt64, e3]; omega) (by rw [Int32.toInt_toInt64, e3]; omega), Int32.toInt_toInt64, e3]
theorem zwt_M {C : Int32} {xs : Nat → Int32} {w : Nat} (hC : zBd C) (h1 : 1 ≤ w) (h2 : w ≤ 10) : ∀ m, (∀ j, j < m → zBd (xs j)) → zBd (zfo (fun z a => z + zfd (nI w * (a - z)) 10) C xs m) ∧ Int32.toInt64 (zfo (fun z a => z + zfd (nI w * (a - z)) 10) C xs m) = zwM (Int32.toInt64 (nI w)) xs C m
  | 0, _ => ⟨hC, rfl⟩
  | m + 1, h => by
    obtain ⟨i1, i2⟩ := zwt_M (xs := xs) hC h1 h2 m (fun j hj => h j (by omega))
    obtain ⟨q1, q2⟩ := zfd10 (h m (by omega)) i1 h1 h2
    refine ⟨q1, q2.trans ?_⟩
    rw [i2]
    rfl
theorem zJ.weighted {μ : zM} {s d c b w : Nat} {ph fs : Nat → Nat} (h : zJ μ s d c b w ph fs) {i : Nat} (hi : i < d) (hr : μ.1 24 i = 0) : zwt (μ.1 4) (μ.1 3) (fs (ph i)) (μ.1 (11 + ph i) 5) (μ.1 0 1) (i + 1 - fs (ph i)) = Int64.toInt32 (zwM (Int32.toInt64 (μ.1 21 14)) (zxs μ ph (ph i) (i + 1)) (zLC μ ph (ph i) d s) (zpc ph (μ.1 24) (ph i) (i + 1))) := by
  obtain ⟨w1, w2, w3⟩ := h.1.1.walk hi
  obtain ⟨hz, hm⟩ := h.has hi hr
  obtain ⟨⟨p5, -, -, -⟩, hC, -⟩ := h.pl (h.1.pc hi) hz
  obtain ⟨c1, c2⟩ := h.pc4 (n := i + 1) (by omega) (ph i)
  obtain ⟨-, -, -, b4, b5, ⟨b6, b7⟩, -⟩ := h.2.2.1
  rw [b4, b5, p5]
  have hw := zfo_walk (st := fun z a => z + zfd (nI w * (a - z)) 10) (c0 := zLC μ ph (ph i) d s) (G := zwt (μ.1 4) (μ.1 3) (fs (ph i)) (zLC μ ph (ph i) d s) (nI w)) (ms := μ.1 3) (rs := μ.1 4) rfl (fun n => rfl) w2 (i + 1 - fs (ph i)) (fun j h1 h2 => w3 j h1 (by omega))
  rw [show fs (ph i) + (i + 1 - fs (ph i)) = i + 1 by omega, c1, c2] at hw
  have hx : ∀ j, j < zpc ph (μ.1 24) (ph i) (i + 1) → μ.1 3 (zpx ph (μ.1 24) (ph i) (i + 1) j) = zxs μ ph (ph i) (i + 1) j ∧ zBd (zxs μ ph (ph i) (i + 1) j) := fun j hj => by
    have := zpx_lt ph (μ.1 24) (ph i) (i + 1) j hj
    obtain ⟨q1, q2⟩ := h.xb (show zpx ph (μ.1 24) (ph i) (i + 1) j < d by omega)
    exact ⟨q2, q1⟩
  rw [hw, zfo_congr _ (fun j hj => (hx j hj).1)]
  obtain ⟨g1, g2⟩ := zwt_M (xs := zxs μ ph (ph i) (i + 1)) hC b6 b7 (zpc ph (μ.1 24) (ph i) (i + 1)) (fun j hj => (hx j hj).2)
  rw [← g2]
  refine Int32.toInt_inj.mp ?_
  obtain ⟨g3, g4⟩ := g1
  rw [z_t32 (by rw [Int32.toInt_toInt64]; omega) (by rw [Int32.toInt_toInt64]; omega), Int32.toInt_toInt64]
/-! CUMULATIVE -/
theorem zcu_M {C H b : Int32} {xs : Nat → Int32} : ∀ m, zfo (fun z a => zmax 0 (z + (if b = 0 then C - a else a - C) - H)) 0 xs m = zcM H (if b = 0 then (-1 : Int32) else (1 : Int32)) C xs m
  | 0 => rfl
  | m + 1 => by
    have ih := zcu_M (C := C) (H := H) (b := b) (xs := xs) m
    show zmax 0 (zfo (fun z a => zmax 0 (z + (if b = 0 then C - a else a - C) - H)) 0 xs m + (if b = 0 then C - xs m else xs m - C) - H) = if zcM H (if b = 0 then (-1 : Int32) else (1 : Int32)) C xs m + ((xs m - C) * (if b = 0 then (-1 : Int32) else (1 : Int32)) - H) ≤ 0 then 0 else zcM H (if b = 0 then (-1 : Int32) else (1 : Int32)) C xs m + ((xs m - C) * (if b = 0 then (-1 : Int32) else (1 : Int32)) - H)
    rw [ih]
    have e : (if b = 0 then C - xs m else xs m - C) = (xs m - C) * (if b = 0 then (-1 : Int32) else (1 : Int32)) := by
      by_cases k : b = 0
      · rw [if_pos k, if_pos k, Int32.mul_neg, Int32.mul_one, Int32.neg_sub]
      · rw [if_neg k, if_neg k, Int32.mul_one]
    rw [e]
    generalize zcM H (if b = 0 then (-1 : Int32) else (1 : Int32)) C xs m = Z
    generalize (xs m - C) * (if b = 0 then (-1 : Int32) else (1 : Int32)) = A
    have e2 : Z + A - H = Z + (A - H) := by rw [Int32.sub_eq_add_neg, Int32.sub_eq_add_neg, Int32.add_assoc]
    rw [e2]
    unfold zmax
    by_cases k : 0 < Z + (A - H)
    · rw [if_pos k, if_neg (Int32.not_le.mpr k)]
    · rw [if_neg k, if_pos (Int32.not_lt.mp k)]
theorem zhalf {W : Int32} (h : zBw W) : zfd (zfd W 3) 2 = W / 3 / 2 := by
  obtain ⟨h1, h2⟩ := h
  have t3 : (3 : Int32).toInt = 3 := rfl
  have t2 : (2 : Int32).toInt = 2 := rfl
  have a1 : (zfd W 3).toInt = W.toInt / 3 := by rw [zfd_eq (by rw [t3]; decide), t3]
  have a2 : (W / 3).toInt = W.toInt / 3 := by rw [z_div32 (by rw [t3]; decide), t3, Int.tdiv_eq_ediv_of_nonneg h1]
  refine Int32.toInt_inj.mp ?_
  rw [zfd_eq (by rw [t2]; decide), a1, z_div32 (by rw [t2]; decide), a2, t2, Int.tdiv_eq_ediv_of_nonneg (by omega)]
theorem zJ.cumulative {μ : zM} {s d c b w : Nat} {ph fs : Nat → Nat} (h : zJ μ s d c b w ph fs) {i : Nat} (hi : i < d) (hr : μ.1 24 i = 0) (u : Int32) : zcu (μ.1 4) (μ.1 3) (fs (ph i)) (μ.1 (11 + ph i) 5) (zfd (zfd (μ.1 (11 + ph i) 7) 3) 2) u (i + 1 - fs (ph i)) = zcM (zWd s 0 (zLR μ ph (ph i) d) / 3 / 2) (if u = 0 then (-1 : Int32) else (1 : Int32)) (zLC μ ph (ph i) d s) (zxs μ ph (ph i) (i + 1)) (zpc ph (μ.1 24) (ph i) (i + 1)) := by
  obtain ⟨w1, w2, w3⟩ := h.1.1.walk hi
  obtain ⟨hz, hm⟩ := h.has hi hr
  obtain ⟨⟨p5, -, p7, -⟩, hC, -, hW⟩ := h.pl (h.1.pc hi) hz
  obtain ⟨c1, c2⟩ := h.pc4 (n := i + 1) (by omega) (ph i)
  rw [p5, p7, zhalf hW]
  have hw := zfo_walk (st := fun z a => zmax 0 (z + (if u = 0 then zLC μ ph (ph i) d s - a else a - zLC μ ph (ph i) d s) - zWd s 0 (zLR μ ph (ph i) d) / 3 / 2)) (c0 := (0 : Int32)) (G := zcu (μ.1 4) (μ.1 3) (fs (ph i)) (zLC μ ph (ph i) d s) (zWd s 0 (zLR μ ph (ph i) d) / 3 / 2) u) (ms := μ.1 3) (rs := μ.1 4) rfl (fun n => rfl) w2 (i + 1 - fs (ph i)) (fun j h1 h2 => w3 j h1 (by omega))
  rw [show fs (ph i) + (i + 1 - fs (ph i)) = i + 1 by omega, c1, c2] at hw
  have hx : ∀ j, j < zpc ph (μ.1 24) (ph i) (i + 1) → μ.1 3 (zpx ph (μ.1 24) (ph i) (i + 1) j) = zxs μ ph (ph i) (i + 1) j := fun j hj => by
    have := zpx_lt ph (μ.1 24) (ph i) (i + 1) j hj
    exact (h.xb (show zpx ph (μ.1 24) (ph i) (i + 1) j < d by omega)).2
  rw [hw, zfo_congr _ hx]
  exact zcu_M _
/-! CAPABILITY -/
theorem zJ.spread {μ : zM} {s d c b w : Nat} {ph fs : Nat → Nat} (h : zJ μ s d c b w ph fs) {k : Nat} (hk : k < c) (hz : zHas μ ph k d) : zsp μ k s = zsM μ ph k d s ∧ 0 ≤ (zsM μ ph k d s).toInt ∧ (zsM μ ph k d s).toInt ≤ 20000000 := by
  obtain ⟨⟨-, p6, -, -⟩, -, ⟨r1, r2⟩, -⟩ := h.pl hk hz
  obtain ⟨-, -, t1, t2⟩ := zTab_bd h.1.2.2.2.2
  have e1 : (1000 * Int32.toInt64 (zLR μ ph k d)).toInt = 1000 * (zLR μ ph k d).toInt := by
    rw [z1000 (by rw [Int32.toInt_toInt64]; omega) (by rw [Int32.toInt_toInt64]; omega), Int32.toInt_toInt64]
  have hy : 0 < (Int32.toInt64 (zTab 2 s)).toInt := by rw [Int32.toInt_toInt64]; omega
  have e2 : (zsM μ ph k d s).toInt = 1000 * (zLR μ ph k d).toInt / (zTab 2 s).toInt := by
    unfold zsM
    rw [z_div64 hy, e1, Int32.toInt_toInt64, Int.tdiv_eq_ediv_of_nonneg (by omega)]
  have b1 : 0 ≤ 1000 * (zLR μ ph k d).toInt / (zTab 2 s).toInt := Int.ediv_nonneg (by omega) (by omega)
  have b2 : 1000 * (zLR μ ph k d).toInt / (zTab 2 s).toInt ≤ 20000000 := by
    refine Int.ediv_le_of_le_mul (by omega) ?_
    omega
  refine ⟨Int64.toInt_inj.mp ?_, by omega, by omega⟩
  unfold zsp
  rw [zfl_eq hy, p6, e1, Int32.toInt_toInt64, e2]
theorem z_cap {C a b e : Int32} {sp : Int64} (hC : zBd C) (ha : -9999 ≤ a) (hb : b ≤ 9999) (hab : a ≤ b) (h0 : 0 < sp.toInt) (h1 : sp.toInt ≤ 20000000) :
    (if e = 0 then zfl (1000 * (1000 * Int32.toInt64 b - 1000 * Int32.toInt64 a)) (6 * sp) else zfl (1000 * zminL (1000 * Int32.toInt64 b - Int32.toInt64 C) (Int32.toInt64 C - 1000 * Int32.toInt64 a)) (3 * sp)) = zkM C a b e sp := by
  have t3 : (3 : Int64).toInt = 3 := rfl
  have t6 : (6 : Int64).toInt = 6 := rfl
  have tm : (-9999 : Int32).toInt = -9999 := rfl
  have tp : (9999 : Int32).toInt = 9999 := rfl
  rw [Int32.le_iff_toInt_le] at ha hb hab
  rw [tm] at ha
  rw [tp] at hb
  have y6 : (6 * sp).toInt = 6 * sp.toInt := by rw [z64m (by rw [t6]; omega) (by rw [t6]; omega), t6]
  have y3 : (3 * sp).toInt = 3 * sp.toInt := by rw [z64m (by rw [t3]; omega) (by rw [t3]; omega), t3]
  unfold zkM
  by_cases k : e = 0
  · rw [if_pos k, if_pos k]
    have ea : (1000 * Int32.toInt64 a).toInt = 1000 * a.toInt := by rw [z1000 (by rw [Int32.toInt_toInt64]; omega) (by rw [Int32.toInt_toInt64]; omega), Int32.toInt_toInt64]
    have eb : (1000 * Int32.toInt64 b).toInt = 1000 * b.toInt := by rw [z1000 (by rw [Int32.toInt_toInt64]; omega) (by rw [Int32.toInt_toInt64]; omega), Int32.toInt_toInt64]
    have es : (1000 * Int32.toInt64 b - 1000 * Int32.toInt64 a).toInt = 1000 * b.toInt - 1000 * a.toInt := by rw [z64s (by rw [ea, eb]; omega) (by rw [ea, eb]; omega), ea, eb]
    have ep : (1000 * (1000 * Int32.toInt64 b - 1000 * Int32.toInt64 a)).toInt = 1000 * (1000 * b.toInt - 1000 * a.toInt) := by rw [z1000 (by rw [es]; omega) (by rw [es]; omega), es]
    refine Int64.toInt_inj.mp ?_
    rw [zfl_eq (by omega), z_div64 (by omega), ep, Int.tdiv_eq_ediv_of_nonneg (by omega)]
  · rw [if_neg k, if_neg k, zfl_M (by omega)]
    refine congrArg (fun z => zflM (1000 * z) (3 * sp)) ?_
    unfold zminL
    by_cases q : 0 < lg_cmp (1000 * Int32.toInt64 b - Int32.toInt64 C) (Int32.toInt64 C - 1000 * Int32.toInt64 a)
    · rw [if_pos q, if_pos (Int32.le_of_lt q)]
    · rw [if_neg q]
      by_cases q2 : 0 ≤ lg_cmp (1000 * Int32.toInt64 b - Int32.toInt64 C) (Int32.toInt64 C - 1000 * Int32.toInt64 a)
      · rw [if_pos q2]
        exact (lg_cmp_eq _ _).mp (Int32.le_antisymm (Int32.not_lt.mp q) q2)
      · rw [if_neg q2]
theorem z_sp0 {sp : Int64} (h0 : 0 ≤ sp.toInt) (h1 : sp.toInt ≤ 20000000) (h : ¬ lg_cmp sp 0 = 0) : 0 < sp.toInt ∧ ¬ 3 * sp = 0 ∧ ¬ 6 * sp = 0 := by
  have t0 : (0 : Int64).toInt = 0 := rfl
  have t3 : (3 : Int64).toInt = 3 := rfl
  have t6 : (6 : Int64).toInt = 6 := rfl
  have hp : 0 < sp.toInt := by
    refine Int.not_le.mp (fun q => h ((lg_cmp_eq _ _).mpr (Int64.toInt_inj.mp ?_)))
    rw [t0]
    omega
  have y6 : (6 * sp).toInt = 6 * sp.toInt := by rw [z64m (by rw [t6]; omega) (by rw [t6]; omega), t6]
  have y3 : (3 * sp).toInt = 3 * sp.toInt := by rw [z64m (by rw [t3]; omega) (by rw [t3]; omega), t3]
  refine ⟨hp, fun q => ?_, fun q => ?_⟩
  · have := congrArg Int64.toInt q
    rw [y3, t0] at this
    omega
  · have := congrArg Int64.toInt q
    rw [y6, t0] at this
    omega
