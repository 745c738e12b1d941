/-! CALLS AT WRITTEN MEMORIES -/
theorem zC.ren {l : Launch} {g : zG} {y : MethodName} {cc : ByteArray} {maxL : Nat} {ret : Option FieldType} {rm : Room} {mc ms : Nat} {av : List Value} {μ ν ν' : zM} (h : zC l g y cc maxL ret rm mc ms av μ (zRv none ν) zNX) (hn : zn g = 21) (e : zEq ν ν') : zC l g y cc maxL ret rm mc ms av μ (zRv none ν') zNX := by
  refine MetFree.mono h (fun _ _ q => q) (fun _ _ _ _ _ q => q) (fun _ _ _ _ _ q => ?_)
  rcases q with ⟨⟨v, ν1, e1, ⟨hv, rfl⟩, hb, hF⟩, hL⟩ | ⟨q, e, E, ce, L, ⟨ν, hx, hb, hF⟩, hr⟩
  · exact Or.inl ⟨⟨v, ν', e1, ⟨hv, rfl⟩, zW_re hn e hb, hF⟩, hL⟩
  · exact hx.elim
theorem zTk_0 (μ : zM) (v : Int32) : (m_X3_takeMeasurement μ v).1 0 2 = μ.1 0 2 + 1 := by simp [m_X3_takeMeasurement, zu]
theorem zTk_o (μ : zM) (v : Int32) {a : Nat} (h : a ≠ 0) : (m_X3_takeMeasurement μ v).1 a = μ.1 a := by
  unfold m_X3_takeMeasurement
  rw [zu_off _ _ _ _ h, zu_off _ _ _ _ h, zu_off _ _ _ _ h, zu_off _ _ _ _ h]
theorem zTk_j (μ : zM) (v : Int32) : (m_X3_takeMeasurement μ v).1 0 0 = μ.1 0 0 ∧ (m_X3_takeMeasurement μ v).1 0 6 = μ.1 0 6 ∧ (m_X3_takeMeasurement μ v).1 0 12 = μ.1 0 12 := by
  refine ⟨?_, ?_, ?_⟩ <;> simp [m_X3_takeMeasurement, zu]
theorem zV.take {μ : zM} {s d c : Nat} {ph fs : Nat → Nat} (V : zV μ s d c ph fs) (v : Int32) : zV (m_X3_takeMeasurement μ v) s d c ph fs := by
  obtain ⟨j0, j6, j12⟩ := zTk_j μ v
  refine ⟨by rw [j0]; exact V.1, by rw [j6]; exact V.2.1, by rw [j12]; exact V.2.2.1, by rw [zTk_o μ v (by decide)]; exact V.hph, fun k hk => by rw [zTk_o μ v (by omega)]; exact V.hfs k hk, V.hfi⟩
theorem q_two {l : Launch} {g : zG} {μ : zM} {d c : Nat} {ph fs : Nat → Nat} (V : zV μ 0 d c ph fs) {a b : Int32} (ha : ¬ zme a = 0) (hb : ¬ zme b = 0) (hd : d < 60) (h0 : μ.1 0 2 = 0) : zC l g yL_two cL_two 3 (some .boolean) ({ frames := 7, cells := 2, slots := 12, locals := 159 } : Room) 2 12 [.ref (za g 0), .int a, .int b] μ (zRv (some (.int 1)) (m_X3_finishSubgroup (m_X3_takeMeasurement (m_X3_takeMeasurement μ a) b) d 0 c)) zNX :=
  c_L_two (d_put0 V ha hd (by rw [zTk_0, h0]; decide)) (d_put1 (V.take a) hb hd (by rw [zTk_0, zTk_0, h0]; decide))
def zZR (μ : zM) (ph fs : Nat → Nat) (i : Nat) : Nat → Int32 := (zrcF (μ.1 4) (μ.1 3) (fs (ph i)) (μ.1 (11 + ph i) 5) (μ.1 (11 + ph i) 7) (r_X1_restart (μ.1 7)) (i + 1 - fs (ph i)))
def zWM (μ ν : zM) (fs ph : Nat → Nat) (i : Nat) : zM := zwA (μ.1 4) (μ.1 3) i (i + 1 - fs (ph i)) 0 0 (zu ν 8 2 0)
def zWS (μ ν : zM) (fs ph : Nat → Nat) (i : Nat) : Int32 := zbsD (fun r => zWbD r (zwC (μ.1 4) i (i + 1 - fs (ph i)) 0 0) ((zWM μ ν fs ph i).1 10) (μ.1 (11 + ph i) 5) (μ.1 (11 + ph i) 7)) 8
theorem q_breaks {l : Launch} {g : zG} {μ : zM} {s d c i : Nat} {ph fs : Nat → Nat} (V : zV μ s d c ph fs) (hi : i < d) (h : μ.1 4 i = 0) {a : Int32} (h1 : v_X1_brokenRules (zZR μ ph fs i) = a) (h2 : zWS μ (zset μ 7 (zZR μ ph fs i)) fs ph i = a) : zC l g yL_breaks cL_breaks 3 (some .boolean) ({ frames := 8, cells := 2, slots := 12, locals := 127 } : Room) 2 12 [.ref (za g 0), .int (nI i), .int a] μ (zRv (some (.int 1)) (zWM μ (zset μ 7 (zZR μ ph fs i)) fs ph i)) zNX := by
  have e1 : zC l g yX3_signals cX3_signals 4 (some .int) ({ frames := 7, cells := 1, slots := 6, locals := 103 } : Room) 1 6 [.ref (za g 0), .int (nI i)] μ (zRv (some (.int a)) (zset μ 7 (zZR μ ph fs i))) zNX := by
    rw [← h1]
    exact d_signals V hi h
  have e2 := d_windows (l := l) (g := g) (V.row7 (zZR μ ph fs i)) hi (by rw [zset_off _ _ (by decide)]; exact h)
  rw [zset_off μ _ (show (4 : Nat) ≠ 7 by decide), zset_off μ _ (show (3 : Nat) ≠ 7 by decide), zset_off μ _ (show 11 + ph i ≠ 7 by omega)] at e2
  have e3 : zC l g yX3_signalsByWindows cX3_signalsByWindows 5 (some .int) ({ frames := 7, cells := 1, slots := 6, locals := 103 } : Room) 1 6 [.ref (za g 0), .int (nI i)] (zset μ 7 (zZR μ ph fs i)) (zRv (some (.int a)) (zWM μ (zset μ 7 (zZR μ ph fs i)) fs ph i)) zNX := by
    rw [← h2]
    exact e2
  exact c_L_breaks e1 e3
theorem q_breaks_out {l : Launch} {g : zG} {μ : zM} {s d c i : Nat} {ph fs : Nat → Nat} (V : zV μ s d c ph fs) (hi : i < d) (h : ¬ μ.1 4 i = 0) : zC l g yL_breaks cL_breaks 3 (some .boolean) ({ frames := 8, cells := 2, slots := 12, locals := 127 } : Room) 2 12 [.ref (za g 0), .int (nI i), .int 0] μ (zRv (some (.int 1)) μ) zNX :=
  c_L_breaks (d_signals_out V hi h) (d_windows_out V hi h)
