/-! THE COUPLING of the desk and the reference -/
def zSm (v : Nat → Int32) (ph : Nat → Nat) (rs : Nat → Int32) (t : Nat) : Nat → Int
  | 0 => 0
  | n + 1 => if ph n = t then (if rs n = 0 then zSm v ph rs t n + (v n).toInt else zSm v ph rs t n) else zSm v ph rs t n
theorem zSm_s (v : Nat → Int32) (ph : Nat → Nat) (rs : Nat → Int32) (t n : Nat) : zSm v ph rs t (n + 1) = if ph n = t then (if rs n = 0 then zSm v ph rs t n + (v n).toInt else zSm v ph rs t n) else zSm v ph rs t n := rfl
theorem zSm_congr {v v' : Nat → Int32} {ph ph' : Nat → Nat} {rs rs' : Nat → Int32} (t : Nat) : ∀ n, (∀ i, i < n → v i = v' i) → (∀ i, i < n → ph i = ph' i) → (∀ i, i < n → rs i = rs' i) → zSm v ph rs t n = zSm v' ph' rs' t n
  | 0, _, _, _ => rfl
  | n + 1, a, b, c => by
    rw [zSm_s, zSm_s, a n (by omega), b n (by omega), c n (by omega), zSm_congr t n (fun i h => a i (by omega)) (fun i h => b i (by omega)) (fun i h => c i (by omega))]
theorem zpc_congr {ph ph' : Nat → Nat} {rs rs' : Nat → Int32} (t : Nat) : ∀ n, (∀ i, i < n → ph i = ph' i) → (∀ i, i < n → rs i = rs' i) → zpc ph rs t n = zpc ph' rs' t n
  | 0, _, _ => rfl
  | n + 1, b, c => by
    rw [zpc_s, zpc_s, b n (by omega), c n (by omega), zpc_congr t n (fun i h => b i (by omega)) (fun i h => c i (by omega))]
theorem zpx_congr {ph ph' : Nat → Nat} {rs rs' : Nat → Int32} (t : Nat) : ∀ n, (∀ i, i < n → ph i = ph' i) → (∀ i, i < n → rs i = rs' i) → zpx ph rs t n = zpx ph' rs' t n
  | 0, _, _ => rfl
  | n + 1, b, c => by
    rw [zpx_s, zpx_s, b n (by omega), c n (by omega), zpx_congr t n (fun i h => b i (by omega)) (fun i h => c i (by omega)), zpc_congr t n (fun i h => b i (by omega)) (fun i h => c i (by omega))]
theorem zSm_bd {v : Nat → Int32} {ph : Nat → Nat} {rs : Nat → Int32} {t : Nat} {A B : Int} : ∀ n, (∀ i, i < n → A ≤ (v i).toInt ∧ (v i).toInt ≤ B) → (zpc ph rs t n : Int) * A ≤ zSm v ph rs t n ∧ zSm v ph rs t n ≤ (zpc ph rs t n : Int) * B
  | 0, _ => by
    show ((0 : Nat) : Int) * A ≤ 0 ∧ (0 : Int) ≤ ((0 : Nat) : Int) * B
    rw [show ((0 : Nat) : Int) = 0 from rfl, Int.zero_mul, Int.zero_mul]
    omega
  | n + 1, h => by
    have q := zSm_bd (v := v) (ph := ph) (rs := rs) (t := t) (A := A) (B := B) n (fun i hi => h i (by omega))
    have hn := h n (by omega)
    rw [zSm_s, zpc_s]
    split
    · split
      · rw [Int.natCast_add, Int.add_mul, Int.add_mul, show ((1 : Nat) : Int) = 1 from rfl, Int.one_mul, Int.one_mul]
        omega
      · exact q
    · exact q
theorem zsa_eq (v : Nat → Int32) (ph : Nat → Nat) (rs : Nat → Int32) (t : Nat) : ∀ n, n ≤ 60 → (zsa (fun j => v (zpx ph rs t n j)) (zpc ph rs t n)).toInt = zSm v ph rs t n
  | 0, _ => rfl
  | n + 1, h => by
    have q := zsa_eq v ph rs t n (by omega)
    rw [zSm_s, zpc_s, zpx_s]
    by_cases h1 : ph n = t
    · rw [if_pos h1, if_pos h1, if_pos h1]
      by_cases h2 : rs n = 0
      · rw [if_pos h2, if_pos h2, if_pos h2]
        have e1 : zsa (fun j => v (if j = zpc ph rs t n then n else zpx ph rs t n j)) (zpc ph rs t n) = zsa (fun j => v (zpx ph rs t n j)) (zpc ph rs t n) := zsa_congr _ (fun j hj => by simp [Nat.ne_of_lt hj])
        show (zsa (fun j => v (if j = zpc ph rs t n then n else zpx ph rs t n j)) (zpc ph rs t n) + Int32.toInt64 (v (if zpc ph rs t n = zpc ph rs t n then n else zpx ph rs t n (zpc ph rs t n)))).toInt = _
        rw [e1, if_pos rfl]
        have hb := zSm_bd (v := v) (ph := ph) (rs := rs) (t := t) (A := -2147483648) (B := 2147483647) n (fun i _ => by have := z32r (v i); omega)
        have hv := z32r (v n)
        have hp := zpc_le ph rs t n
        rw [z64a (by rw [q, Int32.toInt_toInt64]; omega) (by rw [q, Int32.toInt_toInt64]; omega), q, Int32.toInt_toInt64]
      · rw [if_neg h2, if_neg h2, if_neg h2]
        exact q
    · rw [if_neg h1, if_neg h1, if_neg h1]
      exact q
/-- phase k of the desk and of the reference -/
def zJP (μ : zM) (ph : Nat → Nat) (d s k : Nat) : Prop := μ.1 (11 + k) 1 = nI (zpc ph (μ.1 24) k d) ∧ (μ.1 (11 + k) 2).toInt = zSm (μ.1 22) ph (μ.1 24) k d ∧ (μ.1 (11 + k) 3).toInt = zSm (μ.1 23) ph (μ.1 24) k d ∧
  μ.1 (11 + k) 4 = μ.1 26 k ∧ (μ.1 26 k = 0 ∨ μ.1 26 k = 1) ∧
  (zHas μ ph k d → μ.1 (11 + k) 5 = zLC μ ph k d s ∧ μ.1 (11 + k) 6 = zLR μ ph k d ∧ μ.1 (11 + k) 7 = zWd s 0 (zLR μ ph k d) ∧ μ.1 (11 + k) 8 = zWd s 1 (zLR μ ph k d)) ∧
  (¬ μ.1 26 k = 0 → (-9999000 ≤ (μ.1 27 k).toInt ∧ (μ.1 27 k).toInt ≤ 9999000) ∧ (0 ≤ (μ.1 28 k).toInt ∧ (μ.1 28 k).toInt ≤ 19998000))
/-- subgroup i -/
def zJR (μ : zM) (ph : Nat → Nat) (s i : Nat) : Prop := μ.1 1 i = μ.1 22 i ∧ μ.1 2 i = μ.1 23 i ∧ μ.1 4 i = μ.1 24 i ∧ μ.1 3 i = zmn μ i ∧ μ.1 5 i = nI (ph i) ∧ 0 ≤ μ.1 24 i ∧
  (-(9999 * ((s : Int) + 2)) ≤ (μ.1 22 i).toInt ∧ (μ.1 22 i).toInt ≤ 9999 * ((s : Int) + 2)) ∧ (0 ≤ (μ.1 23 i).toInt ∧ (μ.1 23 i).toInt ≤ 19998)
/-- what is begun: b measurements, the weight w -/
def zJB (μ : zM) (s b w : Nat) : Prop := μ.1 0 2 = nI b ∧ μ.1 21 2 = nI b ∧ b < s + 2 ∧ μ.1 0 1 = nI w ∧ μ.1 21 14 = nI w ∧ (1 ≤ w ∧ w ≤ 10) ∧ μ.1 0 3 = μ.1 21 3 ∧ μ.1 0 4 = μ.1 21 4 ∧ μ.1 0 5 = μ.1 21 5 ∧
  (0 < b → (-(9999 * (b : Int)) ≤ (μ.1 21 3).toInt ∧ (μ.1 21 3).toInt ≤ 9999 * (b : Int)) ∧ -9999 ≤ (μ.1 21 4).toInt ∧ (μ.1 21 4).toInt ≤ (μ.1 21 5).toInt ∧ (μ.1 21 5).toInt ≤ 9999)
def zJ (μ : zM) (s d c b w : Nat) (ph fs : Nat → Nat) : Prop := zQ μ d c s ph fs ∧ (μ.1 0 0 = nI (s + 2) ∧ μ.1 0 6 = nI d ∧ μ.1 0 12 = nI c ∧ 1 ≤ c) ∧ zJB μ s b w ∧ (∀ k, k < c → μ.1 (11 + k) 0 = nI (fs k) ∧ fs k ≤ d) ∧ fs 0 = 0 ∧ (∀ i, i < d → zJR μ ph s i) ∧ ∀ k, k < c → zJP μ ph d s k
theorem zscr_ph {k : Nat} (h : k < 10) (b : Nat) : zScr (11 + k) b = false := by
  match k, h with
  | 0, _ => rfl
  | 1, _ => rfl
  | 2, _ => rfl
  | 3, _ => rfl
  | 4, _ => rfl
  | 5, _ => rfl
  | 6, _ => rfl
  | 7, _ => rfl
  | 8, _ => rfl
  | 9, _ => rfl
  | k + 10, h => exact absurd h (by omega)
/-- two memories that agree where the coupling looks -/
def zSee (μ ν : zM) : Prop := (∀ a, a ≠ 21 → zScr a 0 = false → ν.1 a = μ.1 a) ∧ ∀ b, zScr 21 b = false → b ≠ 23 → ν.1 21 b = μ.1 21 b
theorem zScr_any {a : Nat} (h : a ≠ 21) (b : Nat) : zScr a b = zScr a 0 := by
  have e : (a == 21) = false := by simp [h]
  unfold zScr
  rw [e, Bool.false_and, Bool.false_and]
theorem zNear.see {μ ν : zM} (h : zNear μ ν) : zSee μ ν := ⟨fun a ha q => h.pl fun b => (zScr_any ha b).trans q, fun b q _ => h.2 21 b q⟩
theorem zSee.thr (μ : zM) (w : Int32) : zSee μ (zu μ 21 23 w) := ⟨fun a ha _ => zu_off μ 21 23 w ha, fun b _ hb => zu_ne w (fun e => hb e.2)⟩
theorem zSee.trans {μ ν κ : zM} (h : zSee μ ν) (k : zSee ν κ) : zSee μ κ := ⟨fun a ha q => (k.1 a ha q).trans (h.1 a ha q), fun b q hb => (k.2 b q hb).trans (h.2 b q hb)⟩
theorem zSee.out (μ : zM) (v : Int64) : zSee μ (zuo μ v) := ⟨fun _ _ _ => rfl, fun _ _ _ => rfl⟩
theorem zJ.see {μ ν : zM} {s d c b w : Nat} {ph fs : Nat → Nat} (h : zJ μ s d c b w ph fs) (n : zSee μ ν) : zJ ν s d c b w ph fs := by
  obtain ⟨n1, n2⟩ := n
  have p0 := n1 0 (by decide) rfl
  have p1 := n1 1 (by decide) rfl
  have p2 := n1 2 (by decide) rfl
  have p3 := n1 3 (by decide) rfl
  have p4 := n1 4 (by decide) rfl
  have p5 := n1 5 (by decide) rfl
  have q22 := n1 22 (by decide) rfl
  have q23 := n1 23 (by decide) rfl
  have q24 := n1 24 (by decide) rfl
  have q25 := n1 25 (by decide) rfl
  have q26 := n1 26 (by decide) rfl
  have q27 := n1 27 (by decide) rfl
  have q28 := n1 28 (by decide) rfl
  have r0 := n2 0 rfl (by decide)
  have r1 := n2 1 rfl (by decide)
  have r2 := n2 2 rfl (by decide)
  have r3 := n2 3 rfl (by decide)
  have r4 := n2 4 rfl (by decide)
  have r5 := n2 5 rfl (by decide)
  have r9 := n2 9 rfl (by decide)
  have r14 := n2 14 rfl (by decide)
  obtain ⟨⟨a1, a2, a3, a4, a5⟩, ⟨b1, b2, b3, b4⟩, hB, hF, hF0, hR, hP⟩ := h
  have hc10 := a1.2.1
  refine ⟨⟨a1.mono r9 q25, r1.trans a2, a3, r0.trans a4, a5⟩, ⟨by rw [p0]; exact b1, by rw [p0]; exact b2, by rw [p0]; exact b3, b4⟩, ?_, ?_, hF0, ?_, ?_⟩
  · unfold zJB
    rw [p0, r2, r14, r3, r4, r5]
    exact hB
  · intro k hk
    rw [n1 (11 + k) (by omega) (zscr_ph (by omega) 0)]
    exact hF k hk
  · intro i hi
    have q := hR i hi
    unfold zJR zmn at q ⊢
    rw [p1, p2, p3, p4, p5, q22, q23, q24, r0]
    exact q
  · intro k hk
    have q := hP k hk
    obtain ⟨e1, e2, e3⟩ := zL_of q22 q23 q24 q26 q27 q28 ph k d s
    unfold zJP at q ⊢
    rw [n1 (11 + k) (by omega) (zscr_ph (by omega) 0), q22, q23, q24, q26, q27, q28, e1, e2, e3]
    exact q
