/-! THE LAW, call by call -/
theorem zLh_f {x : zX} {g : zG} {R : Room} {b i ce sl pc : Nat} {μ : zM} (u5 u6 u7 : Option Value) (h : zK x g R 8 ce sl pc (zLh b g i) [] μ) : zK x g R 8 ce sl pc [some (.ref b), some (.ref (za g 0)), some (.ref (za g 21)), some (.ref (za g 31)), some (.int (nI i)), u5, u6, u7] [] μ :=
  k_forget (fun j v q => by
    match j, q with
    | 0, q => exact q
    | 1, q => exact q
    | 2, q => exact q
    | 3, q => exact q
    | 4, q => exact q
    | 5, q => cases q
    | 6, q => cases q
    | 7, q => cases q
    | j + 8, q => cases q) h
set_option maxRecDepth 100000 in
set_option maxHeartbeats 4000000 in
theorem w_begin {x : zX} {g : zG} {μ : zM} {b LL i ce sl : Nat} {sc : Nat → Int32} (S : zS x g 8 cL_law RL) (hn : zn g = 32) (V : zScr9 x g b LL sc) (hL : LL ≤ 2560) (hi : i + 5 ≤ LL) (hce : ce + 2 ≤ 618947) (hsl : sl + 12 ≤ 7239262) {s d c n w : Nat} {ph fs : Nat → Nat} (J : zJ μ s d c n w ph fs) (kk : ∀ ν : zM, zJx ν → zK x g room_1 8 (ce + 2) (sl + 12) 1408 (zLh b g i) [] ν) : zK x g room_1 8 ce sl 148 (zLh b g i) [] μ := by
  show zK x g room_1 8 ce sl 148 [some (.ref b), some (.ref (za g 0)), some (.ref (za g 21)), some (.ref (za g 31)), some (.int (nI i)), none, none, none] [] μ
  refine k_aload1 S dL_law_148 (n := 149) rfl ?_
  refine k_aload0 S dL_law_149 (n := 150) rfl ?_
  refine k_iload4 S dL_law_150 (n := 152) rfl ?_
  refine k_iconst S dL_law_152 (v := 1) (by decide) (n := 153) rfl ?_
  refine k_iadd S dL_law_153 (n := 154) rfl ?_
  refine k_sld (j := (i + 1)) S V dL_law_154 (nI_add i 1) (by omega) hL (n := 155) rfl ?_
  refine k_callH (As := [.ref (za g 0), .int (sc (i + 1))]) (rest := []) S (c_L_begin hn (c_X3_begin) (fun v ν h => h.2.1) (fun E ν h => h.2.1)) mv_L_begin m_271 dL_law_155 rfl rfl ⟨by decide, by decide⟩ rfl rfl (Nat.le_of_ble_eq_true rfl) ⟨by show ce + 1 ≤ 618947; omega, by show sl + 6 ≤ 7239262; omega⟩ (n := 158) rfl (fun _ _ h => h.elim) (fun v9 ν9 h9 => ?_)
  obtain ⟨k, e9, rm, RT4, hrm, hC, hO⟩ := pr_begin (l := xl x) hn J h9
  subst e9
  show zK x g room_1 8 (ce + 1) (sl + 6) 158 [some (.ref b), some (.ref (za g 0)), some (.ref (za g 21)), some (.ref (za g 31)), some (.int (nI i)), none, none, none] [.int k] ν9
  refine k_istore5 S dL_law_158 (by decide) rfl (n := 160) rfl ?_
  refine k_aload2 S dL_law_160 (n := 161) rfl ?_
  refine k_aload0 S dL_law_161 (n := 162) rfl ?_
  refine k_iload4 S dL_law_162 (n := 164) rfl ?_
  refine k_iconst S dL_law_164 (v := 1) (by decide) (n := 165) rfl ?_
  refine k_iadd S dL_law_165 (n := 166) rfl ?_
  refine k_sld (j := (i + 1)) S V dL_law_166 (nI_add i 1) (by omega) hL (n := 167) rfl ?_
  refine k_callV (As := [.int (sc (i + 1))]) (rest := []) (p := 21) S hC mv_X4_begin m_750 dL_law_167 hrm.1 hrm.2.1 ⟨hrm.2.2.1, by have := hrm.2.2.2; show 8 + (3 + 11) + rm.locals ≤ 436; omega⟩ (by rw [hn]; decide) (by decide) (ci := 4) rfl rfl rfl (Nat.le_of_ble_eq_true rfl) ⟨by show ce + 1 + 0 ≤ 618947; omega, by show sl + 6 + 0 ≤ 7239262; omega⟩ (n := 170) rfl (fun _ _ h => h.elim) (fun v8 ν8 h8 => ?_)
  obtain ⟨e8, ht, hJ⟩ := hO _ _ h8
  subst e8
  show zK x g room_1 8 (ce + 1) (sl + 6) 170 [some (.ref b), some (.ref (za g 0)), some (.ref (za g 21)), some (.ref (za g 31)), some (.int (nI i)), some (.int k), none, none] [] ν8
  refine k_aload2 S dL_law_170 (n := 171) rfl ?_
  refine k_callV (As := []) (rest := []) (p := 21) S (c_X4_thrown hn) mv_X4_thrown m_746 dL_law_171 rfl rfl ⟨by decide, by decide⟩ (by rw [hn]; decide) (by decide) (ci := 4) rfl rfl rfl (Nat.le_of_ble_eq_true rfl) ⟨by show ce + 1 + 0 ≤ 618947; omega, by show sl + 6 + 0 ≤ 7239262; omega⟩ (n := 174) rfl (fun _ _ h => h.elim) (fun v7 ν7 h7 => ?_)
  rw [h7.1, h7.2, ht]
  show zK x g room_1 8 (ce + 1) (sl + 6) 174 [some (.ref b), some (.ref (za g 0)), some (.ref (za g 21)), some (.ref (za g 31)), some (.int (nI i)), some (.int k), none, none] [.int k] ν8
  refine k_iload5 S dL_law_174 (n := 176) rfl ?_
  refine k_icmp_eq S dL_law_176 (tgt := 181) (by decide) (n := 179) rfl (fun _ => ?_) (fun h9 => absurd (rfl) h9)
  refine k_goto S dL_law_181 (tgt := 1408) (by decide) ?_
  exact k_widen (by omega) (by omega) (zLh_f _ _ _ (kk _ hJ))
set_option maxRecDepth 100000 in
set_option maxHeartbeats 4000000 in
theorem w_put {x : zX} {g : zG} {μ : zM} {b LL i ce sl : Nat} {sc : Nat → Int32} (S : zS x g 8 cL_law RL) (hn : zn g = 32) (V : zScr9 x g b LL sc) (hL : LL ≤ 2560) (hi : i + 5 ≤ LL) (hce : ce + 2 ≤ 618947) (hsl : sl + 12 ≤ 7239262) {s d c n w : Nat} {ph fs : Nat → Nat} (J : zJ μ s d c n w ph fs) (kk : ∀ ν : zM, zJx ν → zK x g room_1 8 (ce + 2) (sl + 12) 1408 (zLh b g i) [] ν) : zK x g room_1 8 ce sl 184 (zLh b g i) [] μ := by
  show zK x g room_1 8 ce sl 184 [some (.ref b), some (.ref (za g 0)), some (.ref (za g 21)), some (.ref (za g 31)), some (.int (nI i)), none, none, none] [] μ
  refine k_aload1 S dL_law_184 (n := 185) rfl ?_
  refine k_aload0 S dL_law_185 (n := 186) rfl ?_
  refine k_iload4 S dL_law_186 (n := 188) rfl ?_
  refine k_iconst S dL_law_188 (v := 1) (by decide) (n := 189) rfl ?_
  refine k_iadd S dL_law_189 (n := 190) rfl ?_
  refine k_sld (j := (i + 1)) S V dL_law_190 (nI_add i 1) (by omega) hL (n := 191) rfl ?_
  refine k_aload3 S dL_law_191 (n := 192) rfl ?_
  refine k_callH (As := [.ref (za g 0), .int (sc (i + 1)), .ref (za g 31)]) (rest := []) S (c_L_put hn (c_X3_put J.hd J.d60 J.hc J.c1 J.c10 J.hs J.s5) (fun v ν h => h.2.2.elim (fun q => ⟨_, q.2.1⟩) (fun q => ⟨_, q.2.1⟩)) (fun E ν h => h.1.elim (fun q => Or.inl q.2) (fun q => Or.inr q.2.2))) mv_L_put m_347 dL_law_192 rfl rfl ⟨by decide, by decide⟩ rfl rfl (Nat.le_of_ble_eq_true rfl) ⟨by show ce + 1 ≤ 618947; omega, by show sl + 6 ≤ 7239262; omega⟩ (n := 195) rfl (fun _ _ h => h.elim) (fun v9 ν9 h9 => ?_)
  obtain ⟨k, e9, rm, RT4, hrm, hC, hO⟩ := pr_put (l := xl x) hn J h9
  subst e9
  show zK x g room_1 8 (ce + 1) (sl + 6) 195 [some (.ref b), some (.ref (za g 0)), some (.ref (za g 21)), some (.ref (za g 31)), some (.int (nI i)), none, none, none] [.int k] ν9
  refine k_istore5 S dL_law_195 (by decide) rfl (n := 197) rfl ?_
  refine k_aload2 S dL_law_197 (n := 198) rfl ?_
  refine k_aload0 S dL_law_198 (n := 199) rfl ?_
  refine k_iload4 S dL_law_199 (n := 201) rfl ?_
  refine k_iconst S dL_law_201 (v := 1) (by decide) (n := 202) rfl ?_
  refine k_iadd S dL_law_202 (n := 203) rfl ?_
  refine k_sld (j := (i + 1)) S V dL_law_203 (nI_add i 1) (by omega) hL (n := 204) rfl ?_
  refine k_callV (As := [.int (sc (i + 1))]) (rest := []) (p := 21) S hC mv_X4_put m_757 dL_law_204 hrm.1 hrm.2.1 ⟨hrm.2.2.1, by have := hrm.2.2.2; show 8 + (2 + 11) + rm.locals ≤ 436; omega⟩ (by rw [hn]; decide) (by decide) (ci := 4) rfl rfl rfl (Nat.le_of_ble_eq_true rfl) ⟨by show ce + 1 + 0 ≤ 618947; omega, by show sl + 6 + 0 ≤ 7239262; omega⟩ (n := 207) rfl (fun _ _ h => h.elim) (fun v8 ν8 h8 => ?_)
  obtain ⟨a4, e8, ht, ho, hJ⟩ := hO _ _ h8
  subst e8
  show zK x g room_1 8 (ce + 1) (sl + 6) 207 [some (.ref b), some (.ref (za g 0)), some (.ref (za g 21)), some (.ref (za g 31)), some (.int (nI i)), some (.int k), none, none] [.int a4] ν8
  refine k_istore6 S dL_law_207 (by decide) rfl (n := 209) rfl ?_
  refine k_aload2 S dL_law_209 (n := 210) rfl ?_
  refine k_callV (As := []) (rest := []) (p := 21) S (c_X4_thrown hn) mv_X4_thrown m_746 dL_law_210 rfl rfl ⟨by decide, by decide⟩ (by rw [hn]; decide) (by decide) (ci := 4) rfl rfl rfl (Nat.le_of_ble_eq_true rfl) ⟨by show ce + 1 + 0 ≤ 618947; omega, by show sl + 6 + 0 ≤ 7239262; omega⟩ (n := 213) rfl (fun _ _ h => h.elim) (fun v7 ν7 h7 => ?_)
  rw [h7.1, h7.2, ht]
  show zK x g room_1 8 (ce + 1) (sl + 6) 213 [some (.ref b), some (.ref (za g 0)), some (.ref (za g 21)), some (.ref (za g 31)), some (.int (nI i)), some (.int k), some (.int a4), none] [.int k] ν8
  refine k_iload5 S dL_law_213 (n := 215) rfl ?_
  refine k_icmp_eq S dL_law_215 (tgt := 220) (by decide) (n := 218) rfl (fun _ => ?_) (fun h9 => absurd (rfl) h9)
  refine k_iload5 S dL_law_220 (n := 222) rfl ?_
  refine k_if_ne S dL_law_222 (tgt := 244) (by decide) (n := 225) rfl (fun c1 => ?_) (fun c1 => ?_)
  ·
    refine k_goto S dL_law_244 (tgt := 1408) (by decide) ?_
    exact k_widen (by omega) (by omega) (zLh_f _ _ _ (kk _ hJ))
  ·
    refine k_aload3 S dL_law_225 (n := 226) rfl ?_
    refine k_iconst S dL_law_226 (v := 0) (by decide) (n := 227) rfl ?_
    refine k_lald S dL_law_227 (by rw [hn]; decide) (by decide) (by decide) (n := 228) rfl ?_
    refine k_iload6 S dL_law_228 (n := 230) rfl ?_
    have hJ2 : zK x g room_1 8 (ce + 1) (sl + 6) 238 [some (.ref b), some (.ref (za g 0)), some (.ref (za g 21)), some (.ref (za g 31)), some (.int (nI i)), some (.int k), some (.int a4), none] [.long ((if a4 = 0 then (0 : Int64) else (1 : Int64))), .long (ν8.2 0)] ν8 := by
      refine k_lcmp S dL_law_238 (n := 239) rfl ?_
      refine k_if_eq S dL_law_239 (tgt := 244) (by decide) (n := 242) rfl (fun _ => ?_) (fun h9 => absurd ((lg_cmp_eq _ _).mpr (ho c1)) h9)
      refine k_goto S dL_law_244 (tgt := 1408) (by decide) ?_
      exact k_widen (by omega) (by omega) (zLh_f _ _ _ (kk _ hJ))
    refine k_if_eq S dL_law_230 (tgt := 237) (by decide) (n := 233) rfl (fun c1 => ?_) (fun c1 => ?_)
    ·
      refine k_lconst S dL_law_237 (v := 0) (by decide) (n := 238) rfl ?_
      rw [if_pos c1] at hJ2
      exact hJ2
    ·
      refine k_lconst S dL_law_233 (v := 1) (by decide) (n := 234) rfl ?_
      refine k_goto S dL_law_234 (tgt := 238) (by decide) ?_
      rw [if_neg c1] at hJ2
      exact hJ2
set_option maxRecDepth 100000 in
set_option maxHeartbeats 4000000 in
theorem w_newPhase {x : zX} {g : zG} {μ : zM} {b LL i ce sl : Nat} {sc : Nat → Int32} (S : zS x g 8 cL_law RL) (hn : zn g = 32) (V : zScr9 x g b LL sc) (hL : LL ≤ 2560) (hi : i + 5 ≤ LL) (hce : ce + 2 ≤ 618947) (hsl : sl + 12 ≤ 7239262) {s d c n w : Nat} {ph fs : Nat → Nat} (J : zJ μ s d c n w ph fs) (kk : ∀ ν : zM, zJx ν → zK x g room_1 8 (ce + 2) (sl + 12) 1408 (zLh b g i) [] ν) : zK x g room_1 8 ce sl 247 (zLh b g i) [] μ := by
  show zK x g room_1 8 ce sl 247 [some (.ref b), some (.ref (za g 0)), some (.ref (za g 21)), some (.ref (za g 31)), some (.int (nI i)), none, none, none] [] μ
  refine k_aload1 S dL_law_247 (n := 248) rfl ?_
  refine k_aload3 S dL_law_248 (n := 249) rfl ?_
  refine k_callH (As := [.ref (za g 0), .ref (za g 31)]) (rest := []) S (c_L_newPhase hn (c_X3_newPhase J.hd J.hc J.c1 J.c10) (fun v ν h => ⟨_, h.2.1⟩) (fun E ν h => h.2.1)) mv_L_newPhase m_417 dL_law_249 rfl rfl ⟨by decide, by decide⟩ rfl rfl (Nat.le_of_ble_eq_true rfl) ⟨by show ce + 1 ≤ 618947; omega, by show sl + 6 ≤ 7239262; omega⟩ (n := 252) rfl (fun _ _ h => h.elim) (fun v9 ν9 h9 => ?_)
  obtain ⟨k, e9, rm, RT4, hrm, hC, hO⟩ := pr_newPhase (l := xl x) hn J h9
  subst e9
  show zK x g room_1 8 (ce + 1) (sl + 6) 252 [some (.ref b), some (.ref (za g 0)), some (.ref (za g 21)), some (.ref (za g 31)), some (.int (nI i)), none, none, none] [.int k] ν9
  refine k_istore5 S dL_law_252 (by decide) rfl (n := 254) rfl ?_
  refine k_aload2 S dL_law_254 (n := 255) rfl ?_
  refine k_callV (As := []) (rest := []) (p := 21) S hC mv_X4_newPhase m_761 dL_law_255 hrm.1 hrm.2.1 ⟨hrm.2.2.1, by have := hrm.2.2.2; show 8 + (1 + 11) + rm.locals ≤ 436; omega⟩ (by rw [hn]; decide) (by decide) (ci := 4) rfl rfl rfl (Nat.le_of_ble_eq_true rfl) ⟨by show ce + 1 + 0 ≤ 618947; omega, by show sl + 6 + 0 ≤ 7239262; omega⟩ (n := 258) rfl (fun _ _ h => h.elim) (fun v8 ν8 h8 => ?_)
  obtain ⟨a4, e8, ht, ho, hJ⟩ := hO _ _ h8
  subst e8
  show zK x g room_1 8 (ce + 1) (sl + 6) 258 [some (.ref b), some (.ref (za g 0)), some (.ref (za g 21)), some (.ref (za g 31)), some (.int (nI i)), some (.int k), none, none] [.int a4] ν8
  refine k_istore6 S dL_law_258 (by decide) rfl (n := 260) rfl ?_
  refine k_aload2 S dL_law_260 (n := 261) rfl ?_
  refine k_callV (As := []) (rest := []) (p := 21) S (c_X4_thrown hn) mv_X4_thrown m_746 dL_law_261 rfl rfl ⟨by decide, by decide⟩ (by rw [hn]; decide) (by decide) (ci := 4) rfl rfl rfl (Nat.le_of_ble_eq_true rfl) ⟨by show ce + 1 + 0 ≤ 618947; omega, by show sl + 6 + 0 ≤ 7239262; omega⟩ (n := 264) rfl (fun _ _ h => h.elim) (fun v7 ν7 h7 => ?_)
  rw [h7.1, h7.2, ht]
  show zK x g room_1 8 (ce + 1) (sl + 6) 264 [some (.ref b), some (.ref (za g 0)), some (.ref (za g 21)), some (.ref (za g 31)), some (.int (nI i)), some (.int k), some (.int a4), none] [.int k] ν8
  refine k_iload5 S dL_law_264 (n := 266) rfl ?_
  refine k_icmp_eq S dL_law_266 (tgt := 271) (by decide) (n := 269) rfl (fun _ => ?_) (fun h9 => absurd (rfl) h9)
  refine k_iload5 S dL_law_271 (n := 273) rfl ?_
  refine k_if_ne S dL_law_273 (tgt := 288) (by decide) (n := 276) rfl (fun c1 => ?_) (fun c1 => ?_)
  ·
    refine k_goto S dL_law_288 (tgt := 1408) (by decide) ?_
    exact k_widen (by omega) (by omega) (zLh_f _ _ _ (kk _ hJ))
  ·
    refine k_aload3 S dL_law_276 (n := 277) rfl ?_
    refine k_iconst S dL_law_277 (v := 0) (by decide) (n := 278) rfl ?_
    refine k_lald S dL_law_278 (by rw [hn]; decide) (by decide) (by decide) (n := 279) rfl ?_
    refine k_iload6 S dL_law_279 (n := 281) rfl ?_
    refine k_i2l S dL_law_281 (n := 282) rfl ?_
    refine k_lcmp S dL_law_282 (n := 283) rfl ?_
    refine k_if_eq S dL_law_283 (tgt := 288) (by decide) (n := 286) rfl (fun _ => ?_) (fun h9 => absurd ((lg_cmp_eq _ _).mpr (ho c1)) h9)
    refine k_goto S dL_law_288 (tgt := 1408) (by decide) ?_
    exact k_widen (by omega) (by omega) (zLh_f _ _ _ (kk _ hJ))
set_option maxRecDepth 100000 in
set_option maxHeartbeats 4000000 in
theorem w_freeze {x : zX} {g : zG} {μ : zM} {b LL i ce sl : Nat} {sc : Nat → Int32} (S : zS x g 8 cL_law RL) (hn : zn g = 32) (V : zScr9 x g b LL sc) (hL : LL ≤ 2560) (hi : i + 5 ≤ LL) (hce : ce + 2 ≤ 618947) (hsl : sl + 12 ≤ 7239262) {s d c n w : Nat} {ph fs : Nat → Nat} (J : zJ μ s d c n w ph fs) (kk : ∀ ν : zM, zJx ν → zK x g room_1 8 (ce + 2) (sl + 12) 1408 (zLh b g i) [] ν) : zK x g room_1 8 ce sl 291 (zLh b g i) [] μ := by
  show zK x g room_1 8 ce sl 291 [some (.ref b), some (.ref (za g 0)), some (.ref (za g 21)), some (.ref (za g 31)), some (.int (nI i)), none, none, none] [] μ
  refine k_aload1 S dL_law_291 (n := 292) rfl ?_
  refine k_aload0 S dL_law_292 (n := 293) rfl ?_
  refine k_iload4 S dL_law_293 (n := 295) rfl ?_
  refine k_iconst S dL_law_295 (v := 1) (by decide) (n := 296) rfl ?_
  refine k_iadd S dL_law_296 (n := 297) rfl ?_
  refine k_sld (j := (i + 1)) S V dL_law_297 (nI_add i 1) (by omega) hL (n := 298) rfl ?_
  refine k_callH (As := [.ref (za g 0), .int (sc (i + 1))]) (rest := []) S (c_L_freeze hn (c_X3_freeze J.hc J.c10) (fun v ν h => by obtain ⟨k, -, -, -, -, e, -⟩ := h; exact e) (fun E ν h => h.1.elim (fun q => Or.inl q.2) (fun q => by obtain ⟨_, _, _, _, e⟩ := q; exact Or.inr e))) mv_L_freeze m_431 dL_law_298 rfl rfl ⟨by decide, by decide⟩ rfl rfl (Nat.le_of_ble_eq_true rfl) ⟨by show ce + 2 ≤ 618947; omega, by show sl + 12 ≤ 7239262; omega⟩ (n := 301) rfl (fun _ _ h => h.elim) (fun v9 ν9 h9 => ?_)
  obtain ⟨k, e9, rm, RT4, hrm, hC, hO⟩ := pr_freeze (l := xl x) hn J h9
  subst e9
  show zK x g room_1 8 (ce + 2) (sl + 12) 301 [some (.ref b), some (.ref (za g 0)), some (.ref (za g 21)), some (.ref (za g 31)), some (.int (nI i)), none, none, none] [.int k] ν9
  refine k_istore5 S dL_law_301 (by decide) rfl (n := 303) rfl ?_
  refine k_aload2 S dL_law_303 (n := 304) rfl ?_
  refine k_aload0 S dL_law_304 (n := 305) rfl ?_
  refine k_iload4 S dL_law_305 (n := 307) rfl ?_
  refine k_iconst S dL_law_307 (v := 1) (by decide) (n := 308) rfl ?_
  refine k_iadd S dL_law_308 (n := 309) rfl ?_
  refine k_sld (j := (i + 1)) S V dL_law_309 (nI_add i 1) (by omega) hL (n := 310) rfl ?_
  refine k_callV (As := [.int (sc (i + 1))]) (rest := []) (p := 21) S hC mv_X4_freeze m_765 dL_law_310 hrm.1 hrm.2.1 ⟨hrm.2.2.1, by have := hrm.2.2.2; show 8 + (2 + 11) + rm.locals ≤ 436; omega⟩ (by rw [hn]; decide) (by decide) (ci := 4) rfl rfl rfl (Nat.le_of_ble_eq_true rfl) ⟨by show ce + 2 + 0 ≤ 618947; omega, by show sl + 12 + 0 ≤ 7239262; omega⟩ (n := 313) rfl (fun _ _ h => h.elim) (fun v8 ν8 h8 => ?_)
  obtain ⟨e8, ht, hJ⟩ := hO _ _ h8
  subst e8
  show zK x g room_1 8 (ce + 2) (sl + 12) 313 [some (.ref b), some (.ref (za g 0)), some (.ref (za g 21)), some (.ref (za g 31)), some (.int (nI i)), some (.int k), none, none] [] ν8
  refine k_aload2 S dL_law_313 (n := 314) rfl ?_
  refine k_callV (As := []) (rest := []) (p := 21) S (c_X4_thrown hn) mv_X4_thrown m_746 dL_law_314 rfl rfl ⟨by decide, by decide⟩ (by rw [hn]; decide) (by decide) (ci := 4) rfl rfl rfl (Nat.le_of_ble_eq_true rfl) ⟨by show ce + 2 + 0 ≤ 618947; omega, by show sl + 12 + 0 ≤ 7239262; omega⟩ (n := 317) rfl (fun _ _ h => h.elim) (fun v7 ν7 h7 => ?_)
  rw [h7.1, h7.2, ht]
  show zK x g room_1 8 (ce + 2) (sl + 12) 317 [some (.ref b), some (.ref (za g 0)), some (.ref (za g 21)), some (.ref (za g 31)), some (.int (nI i)), some (.int k), none, none] [.int k] ν8
  refine k_iload5 S dL_law_317 (n := 319) rfl ?_
  refine k_icmp_eq S dL_law_319 (tgt := 324) (by decide) (n := 322) rfl (fun _ => ?_) (fun h9 => absurd (rfl) h9)
  refine k_goto S dL_law_324 (tgt := 1408) (by decide) ?_
  exact k_widen (by omega) (by omega) (zLh_f _ _ _ (kk _ hJ))
set_option maxRecDepth 100000 in
set_option maxHeartbeats 4000000 in
theorem w_thaw {x : zX} {g : zG} {μ : zM} {b LL i ce sl : Nat} {sc : Nat → Int32} (S : zS x g 8 cL_law RL) (hn : zn g = 32) (V : zScr9 x g b LL sc) (hL : LL ≤ 2560) (hi : i + 5 ≤ LL) (hce : ce + 2 ≤ 618947) (hsl : sl + 12 ≤ 7239262) {s d c n w : Nat} {ph fs : Nat → Nat} (J : zJ μ s d c n w ph fs) (kk : ∀ ν : zM, zJx ν → zK x g room_1 8 (ce + 2) (sl + 12) 1408 (zLh b g i) [] ν) : zK x g room_1 8 ce sl 327 (zLh b g i) [] μ := by
  show zK x g room_1 8 ce sl 327 [some (.ref b), some (.ref (za g 0)), some (.ref (za g 21)), some (.ref (za g 31)), some (.int (nI i)), none, none, none] [] μ
  refine k_aload1 S dL_law_327 (n := 328) rfl ?_
  refine k_aload0 S dL_law_328 (n := 329) rfl ?_
  refine k_iload4 S dL_law_329 (n := 331) rfl ?_
  refine k_iconst S dL_law_331 (v := 1) (by decide) (n := 332) rfl ?_
  refine k_iadd S dL_law_332 (n := 333) rfl ?_
  refine k_sld (j := (i + 1)) S V dL_law_333 (nI_add i 1) (by omega) hL (n := 334) rfl ?_
  refine k_callH (As := [.ref (za g 0), .int (sc (i + 1))]) (rest := []) S (c_L_thaw hn (c_X3_thaw J.hc J.c10 J.hs J.s5) (fun v ν h => by obtain ⟨k, -, -, -, e, -⟩ := h; exact e) (fun E ν h => h.1.elim (fun q => Or.inl q.2) (fun q => by obtain ⟨_, _, _, _, e⟩ := q; exact Or.inr e))) mv_L_thaw m_461 dL_law_334 rfl rfl ⟨by decide, by decide⟩ rfl rfl (Nat.le_of_ble_eq_true rfl) ⟨by show ce + 2 ≤ 618947; omega, by show sl + 12 ≤ 7239262; omega⟩ (n := 337) rfl (fun _ _ h => h.elim) (fun v9 ν9 h9 => ?_)
  obtain ⟨k, e9, rm, RT4, hrm, hC, hO⟩ := pr_thaw (l := xl x) hn J h9
  subst e9
  show zK x g room_1 8 (ce + 2) (sl + 12) 337 [some (.ref b), some (.ref (za g 0)), some (.ref (za g 21)), some (.ref (za g 31)), some (.int (nI i)), none, none, none] [.int k] ν9
  refine k_istore5 S dL_law_337 (by decide) rfl (n := 339) rfl ?_
  refine k_aload2 S dL_law_339 (n := 340) rfl ?_
  refine k_aload0 S dL_law_340 (n := 341) rfl ?_
  refine k_iload4 S dL_law_341 (n := 343) rfl ?_
  refine k_iconst S dL_law_343 (v := 1) (by decide) (n := 344) rfl ?_
  refine k_iadd S dL_law_344 (n := 345) rfl ?_
  refine k_sld (j := (i + 1)) S V dL_law_345 (nI_add i 1) (by omega) hL (n := 346) rfl ?_
  refine k_callV (As := [.int (sc (i + 1))]) (rest := []) (p := 21) S hC mv_X4_thaw m_796 dL_law_346 hrm.1 hrm.2.1 ⟨hrm.2.2.1, by have := hrm.2.2.2; show 8 + (2 + 11) + rm.locals ≤ 436; omega⟩ (by rw [hn]; decide) (by decide) (ci := 4) rfl rfl rfl (Nat.le_of_ble_eq_true rfl) ⟨by show ce + 2 + 0 ≤ 618947; omega, by show sl + 12 + 0 ≤ 7239262; omega⟩ (n := 349) rfl (fun _ _ h => h.elim) (fun v8 ν8 h8 => ?_)
  obtain ⟨e8, ht, hJ⟩ := hO _ _ h8
  subst e8
  show zK x g room_1 8 (ce + 2) (sl + 12) 349 [some (.ref b), some (.ref (za g 0)), some (.ref (za g 21)), some (.ref (za g 31)), some (.int (nI i)), some (.int k), none, none] [] ν8
  refine k_aload2 S dL_law_349 (n := 350) rfl ?_
  refine k_callV (As := []) (rest := []) (p := 21) S (c_X4_thrown hn) mv_X4_thrown m_746 dL_law_350 rfl rfl ⟨by decide, by decide⟩ (by rw [hn]; decide) (by decide) (ci := 4) rfl rfl rfl (Nat.le_of_ble_eq_true rfl) ⟨by show ce + 2 + 0 ≤ 618947; omega, by show sl + 12 + 0 ≤ 7239262; omega⟩ (n := 353) rfl (fun _ _ h => h.elim) (fun v7 ν7 h7 => ?_)
  rw [h7.1, h7.2, ht]
  show zK x g room_1 8 (ce + 2) (sl + 12) 353 [some (.ref b), some (.ref (za g 0)), some (.ref (za g 21)), some (.ref (za g 31)), some (.int (nI i)), some (.int k), none, none] [.int k] ν8
  refine k_iload5 S dL_law_353 (n := 355) rfl ?_
  refine k_icmp_eq S dL_law_355 (tgt := 360) (by decide) (n := 358) rfl (fun _ => ?_) (fun h9 => absurd (rfl) h9)
  refine k_goto S dL_law_360 (tgt := 1408) (by decide) ?_
  exact k_widen (by omega) (by omega) (zLh_f _ _ _ (kk _ hJ))
set_option maxRecDepth 100000 in
set_option maxHeartbeats 4000000 in
theorem w_exclude {x : zX} {g : zG} {μ : zM} {b LL i ce sl : Nat} {sc : Nat → Int32} (S : zS x g 8 cL_law RL) (hn : zn g = 32) (V : zScr9 x g b LL sc) (hL : LL ≤ 2560) (hi : i + 5 ≤ LL) (hce : ce + 2 ≤ 618947) (hsl : sl + 12 ≤ 7239262) {s d c n w : Nat} {ph fs : Nat → Nat} (J : zJ μ s d c n w ph fs) (kk : ∀ ν : zM, zJx ν → zK x g room_1 8 (ce + 2) (sl + 12) 1408 (zLh b g i) [] ν) : zK x g room_1 8 ce sl 363 (zLh b g i) [] μ := by
  show zK x g room_1 8 ce sl 363 [some (.ref b), some (.ref (za g 0)), some (.ref (za g 21)), some (.ref (za g 31)), some (.int (nI i)), none, none, none] [] μ
  refine k_aload1 S dL_law_363 (n := 364) rfl ?_
  refine k_aload0 S dL_law_364 (n := 365) rfl ?_
  refine k_iload4 S dL_law_365 (n := 367) rfl ?_
  refine k_iconst S dL_law_367 (v := 1) (by decide) (n := 368) rfl ?_
  refine k_iadd S dL_law_368 (n := 369) rfl ?_
  refine k_sld (j := (i + 1)) S V dL_law_369 (nI_add i 1) (by omega) hL (n := 370) rfl ?_
  refine k_aload0 S dL_law_370 (n := 371) rfl ?_
  refine k_iload4 S dL_law_371 (n := 373) rfl ?_
  refine k_iconst S dL_law_373 (v := 2) (by decide) (n := 374) rfl ?_
  refine k_iadd S dL_law_374 (n := 375) rfl ?_
  refine k_sld (j := (i + 2)) S V dL_law_375 (nI_add i 2) (by omega) hL (n := 376) rfl ?_
  refine k_aload3 S dL_law_376 (n := 377) rfl ?_
  refine k_callH (As := [.ref (za g 0), .int (sc (i + 1)), .int (sc (i + 2)), .ref (za g 31)]) (rest := []) S (c_L_exclude hn (c_X3_exclude J.hd J.d60 J.hph J.hc J.c10 J.hs J.s5) (fun v ν h => by obtain ⟨k, -, -, -, -, e, -⟩ := h; exact ⟨_, e⟩) (fun E ν h => h.1.elim (fun q => Or.inl q.2) (fun q => Or.inr q.2.2))) mv_L_exclude m_469 dL_law_377 rfl rfl ⟨by decide, by decide⟩ rfl rfl (Nat.le_of_ble_eq_true rfl) ⟨by show ce + 2 ≤ 618947; omega, by show sl + 12 ≤ 7239262; omega⟩ (n := 380) rfl (fun _ _ h => h.elim) (fun v9 ν9 h9 => ?_)
  obtain ⟨k, e9, rm, RT4, hrm, hC, hO⟩ := pr_exclude (l := xl x) hn J h9
  subst e9
  show zK x g room_1 8 (ce + 2) (sl + 12) 380 [some (.ref b), some (.ref (za g 0)), some (.ref (za g 21)), some (.ref (za g 31)), some (.int (nI i)), none, none, none] [.int k] ν9
  refine k_istore5 S dL_law_380 (by decide) rfl (n := 382) rfl ?_
  refine k_aload2 S dL_law_382 (n := 383) rfl ?_
  refine k_aload0 S dL_law_383 (n := 384) rfl ?_
  refine k_iload4 S dL_law_384 (n := 386) rfl ?_
  refine k_iconst S dL_law_386 (v := 1) (by decide) (n := 387) rfl ?_
  refine k_iadd S dL_law_387 (n := 388) rfl ?_
  refine k_sld (j := (i + 1)) S V dL_law_388 (nI_add i 1) (by omega) hL (n := 389) rfl ?_
  refine k_aload0 S dL_law_389 (n := 390) rfl ?_
  refine k_iload4 S dL_law_390 (n := 392) rfl ?_
  refine k_iconst S dL_law_392 (v := 2) (by decide) (n := 393) rfl ?_
  refine k_iadd S dL_law_393 (n := 394) rfl ?_
  refine k_sld (j := (i + 2)) S V dL_law_394 (nI_add i 2) (by omega) hL (n := 395) rfl ?_
  refine k_callV (As := [.int (sc (i + 1)), .int (sc (i + 2))]) (rest := []) (p := 21) S hC mv_X4_exclude m_800 dL_law_395 hrm.1 hrm.2.1 ⟨hrm.2.2.1, by have := hrm.2.2.2; show 8 + (4 + 11) + rm.locals ≤ 436; omega⟩ (by rw [hn]; decide) (by decide) (ci := 4) rfl rfl rfl (Nat.le_of_ble_eq_true rfl) ⟨by show ce + 2 + 0 ≤ 618947; omega, by show sl + 12 + 0 ≤ 7239262; omega⟩ (n := 398) rfl (fun _ _ h => h.elim) (fun v8 ν8 h8 => ?_)
  obtain ⟨a4, e8, ht, ho, hJ⟩ := hO _ _ h8
  subst e8
  show zK x g room_1 8 (ce + 2) (sl + 12) 398 [some (.ref b), some (.ref (za g 0)), some (.ref (za g 21)), some (.ref (za g 31)), some (.int (nI i)), some (.int k), none, none] [.int a4] ν8
  refine k_istore6 S dL_law_398 (by decide) rfl (n := 400) rfl ?_
  refine k_aload2 S dL_law_400 (n := 401) rfl ?_
  refine k_callV (As := []) (rest := []) (p := 21) S (c_X4_thrown hn) mv_X4_thrown m_746 dL_law_401 rfl rfl ⟨by decide, by decide⟩ (by rw [hn]; decide) (by decide) (ci := 4) rfl rfl rfl (Nat.le_of_ble_eq_true rfl) ⟨by show ce + 2 + 0 ≤ 618947; omega, by show sl + 12 + 0 ≤ 7239262; omega⟩ (n := 404) rfl (fun _ _ h => h.elim) (fun v7 ν7 h7 => ?_)
  rw [h7.1, h7.2, ht]
  show zK x g room_1 8 (ce + 2) (sl + 12) 404 [some (.ref b), some (.ref (za g 0)), some (.ref (za g 21)), some (.ref (za g 31)), some (.int (nI i)), some (.int k), some (.int a4), none] [.int k] ν8
  refine k_iload5 S dL_law_404 (n := 406) rfl ?_
  refine k_icmp_eq S dL_law_406 (tgt := 411) (by decide) (n := 409) rfl (fun _ => ?_) (fun h9 => absurd (rfl) h9)
  refine k_iload5 S dL_law_411 (n := 413) rfl ?_
  refine k_if_ne S dL_law_413 (tgt := 428) (by decide) (n := 416) rfl (fun c1 => ?_) (fun c1 => ?_)
  ·
    refine k_goto S dL_law_428 (tgt := 1408) (by decide) ?_
    exact k_widen (by omega) (by omega) (zLh_f _ _ _ (kk _ hJ))
  ·
    refine k_aload3 S dL_law_416 (n := 417) rfl ?_
    refine k_iconst S dL_law_417 (v := 0) (by decide) (n := 418) rfl ?_
    refine k_lald S dL_law_418 (by rw [hn]; decide) (by decide) (by decide) (n := 419) rfl ?_
    refine k_iload6 S dL_law_419 (n := 421) rfl ?_
    refine k_i2l S dL_law_421 (n := 422) rfl ?_
    refine k_lcmp S dL_law_422 (n := 423) rfl ?_
    refine k_if_eq S dL_law_423 (tgt := 428) (by decide) (n := 426) rfl (fun _ => ?_) (fun h9 => absurd ((lg_cmp_eq _ _).mpr (ho c1)) h9)
    refine k_goto S dL_law_428 (tgt := 1408) (by decide) ?_
    exact k_widen (by omega) (by omega) (zLh_f _ _ _ (kk _ hJ))
set_option maxRecDepth 100000 in
set_option maxHeartbeats 4000000 in
theorem w_subgroups {x : zX} {g : zG} {μ : zM} {b LL i ce sl : Nat} {sc : Nat → Int32} (S : zS x g 8 cL_law RL) (hn : zn g = 32) (V : zScr9 x g b LL sc) (hL : LL ≤ 2560) (hi : i + 5 ≤ LL) (hce : ce + 2 ≤ 618947) (hsl : sl + 12 ≤ 7239262) {s d c n w : Nat} {ph fs : Nat → Nat} (J : zJ μ s d c n w ph fs) (kk : ∀ ν : zM, zJx ν → zK x g room_1 8 (ce + 2) (sl + 12) 1408 (zLh b g i) [] ν) : zK x g room_1 8 ce sl 431 (zLh b g i) [] μ := by
  have J2 := J
  show zK x g room_1 8 ce sl 431 [some (.ref b), some (.ref (za g 0)), some (.ref (za g 21)), some (.ref (za g 31)), some (.int (nI i)), none, none, none] [] μ
  refine k_aload1 S dL_law_431 (n := 432) rfl ?_
  refine k_callV (As := []) (rest := []) (p := 0) S (c_X3_subgroups) mv_X3_subgroups m_195 dL_law_432 rfl rfl ⟨by decide, by decide⟩ (zlt S (by decide)) (by decide) (ci := 3) rfl rfl rfl (Nat.le_of_ble_eq_true rfl) ⟨by show ce + 0 ≤ 618947; omega, by show sl + 0 ≤ 7239262; omega⟩ (n := 435) rfl (fun _ _ h => h.elim) (fun v9 ν9 h9 => ?_)
  rw [h9.1, h9.2]
  show zK x g room_1 8 ce sl 435 [some (.ref b), some (.ref (za g 0)), some (.ref (za g 21)), some (.ref (za g 31)), some (.int (nI i)), none, none, none] [.int (μ.1 0 6)] μ
  refine k_aload2 S dL_law_435 (n := 436) rfl ?_
  refine k_callV (As := []) (rest := [.int (μ.1 0 6)]) (p := 21) S (c_X4_subgroups hn J2.1) mv_X4_subgroups m_808 dL_law_436 rfl rfl ⟨by decide, by decide⟩ (by rw [hn]; decide) (by decide) (ci := 4) rfl rfl rfl (Nat.le_of_ble_eq_true rfl) ⟨by show ce + 0 ≤ 618947; omega, by show sl + 0 ≤ 7239262; omega⟩ (n := 439) rfl (fun _ _ h => h.elim) (fun v8 ν8 h8 => ?_)
  obtain ⟨e8, h8⟩ := h8
  subst e8
  have hJ := J2.x.near h8
  show zK x g room_1 8 ce sl 439 [some (.ref b), some (.ref (za g 0)), some (.ref (za g 21)), some (.ref (za g 31)), some (.int (nI i)), none, none, none] [.int (nI d), .int (μ.1 0 6)] ν8
  refine k_icmp_eq S dL_law_439 (tgt := 1408) (by decide) (n := 442) rfl (fun _ => ?_) (fun h7 => absurd (J.hd) h7)
  exact k_widen (by omega) (by omega) (zLh_f _ _ _ (kk _ hJ))
set_option maxRecDepth 100000 in
set_option maxHeartbeats 4000000 in
theorem w_phases {x : zX} {g : zG} {μ : zM} {b LL i ce sl : Nat} {sc : Nat → Int32} (S : zS x g 8 cL_law RL) (hn : zn g = 32) (V : zScr9 x g b LL sc) (hL : LL ≤ 2560) (hi : i + 5 ≤ LL) (hce : ce + 2 ≤ 618947) (hsl : sl + 12 ≤ 7239262) {s d c n w : Nat} {ph fs : Nat → Nat} (J : zJ μ s d c n w ph fs) (kk : ∀ ν : zM, zJx ν → zK x g room_1 8 (ce + 2) (sl + 12) 1408 (zLh b g i) [] ν) : zK x g room_1 8 ce sl 444 (zLh b g i) [] μ := by
  have J2 := J
  show zK x g room_1 8 ce sl 444 [some (.ref b), some (.ref (za g 0)), some (.ref (za g 21)), some (.ref (za g 31)), some (.int (nI i)), none, none, none] [] μ
  refine k_aload1 S dL_law_444 (n := 445) rfl ?_
  refine k_callV (As := []) (rest := []) (p := 0) S (c_X3_phases) mv_X3_phases m_199 dL_law_445 rfl rfl ⟨by decide, by decide⟩ (zlt S (by decide)) (by decide) (ci := 3) rfl rfl rfl (Nat.le_of_ble_eq_true rfl) ⟨by show ce + 0 ≤ 618947; omega, by show sl + 0 ≤ 7239262; omega⟩ (n := 448) rfl (fun _ _ h => h.elim) (fun v9 ν9 h9 => ?_)
  rw [h9.1, h9.2]
  show zK x g room_1 8 ce sl 448 [some (.ref b), some (.ref (za g 0)), some (.ref (za g 21)), some (.ref (za g 31)), some (.int (nI i)), none, none, none] [.int (μ.1 0 12)] μ
  refine k_aload2 S dL_law_448 (n := 449) rfl ?_
  refine k_callV (As := []) (rest := [.int (μ.1 0 12)]) (p := 21) S (c_X4_phases hn J2.1) mv_X4_phases m_812 dL_law_449 rfl rfl ⟨by decide, by decide⟩ (by rw [hn]; decide) (by decide) (ci := 4) rfl rfl rfl (Nat.le_of_ble_eq_true rfl) ⟨by show ce + 0 ≤ 618947; omega, by show sl + 0 ≤ 7239262; omega⟩ (n := 452) rfl (fun _ _ h => h.elim) (fun v8 ν8 h8 => ?_)
  obtain ⟨e8, h8⟩ := h8
  subst e8
  have hJ := J2.x.near h8
  show zK x g room_1 8 ce sl 452 [some (.ref b), some (.ref (za g 0)), some (.ref (za g 21)), some (.ref (za g 31)), some (.int (nI i)), none, none, none] [.int (nI c), .int (μ.1 0 12)] ν8
  refine k_icmp_eq S dL_law_452 (tgt := 1408) (by decide) (n := 455) rfl (fun _ => ?_) (fun h7 => absurd (J.hc) h7)
  exact k_widen (by omega) (by omega) (zLh_f _ _ _ (kk _ hJ))
set_option maxRecDepth 100000 in
set_option maxHeartbeats 4000000 in
theorem w_mean {x : zX} {g : zG} {μ : zM} {b LL i ce sl : Nat} {sc : Nat → Int32} (S : zS x g 8 cL_law RL) (hn : zn g = 32) (V : zScr9 x g b LL sc) (hL : LL ≤ 2560) (hi : i + 5 ≤ LL) (hce : ce + 2 ≤ 618947) (hsl : sl + 12 ≤ 7239262) {s d c n w : Nat} {ph fs : Nat → Nat} (J : zJ μ s d c n w ph fs) (kk : ∀ ν : zM, zJx ν → zK x g room_1 8 (ce + 2) (sl + 12) 1408 (zLh b g i) [] ν) : zK x g room_1 8 ce sl 457 (zLh b g i) [] μ := by
  show zK x g room_1 8 ce sl 457 [some (.ref b), some (.ref (za g 0)), some (.ref (za g 21)), some (.ref (za g 31)), some (.int (nI i)), none, none, none] [] μ
  refine k_aload1 S dL_law_457 (n := 458) rfl ?_
  refine k_aload0 S dL_law_458 (n := 459) rfl ?_
  refine k_iload4 S dL_law_459 (n := 461) rfl ?_
  refine k_iconst S dL_law_461 (v := 1) (by decide) (n := 462) rfl ?_
  refine k_iadd S dL_law_462 (n := 463) rfl ?_
  refine k_sld (j := (i + 1)) S V dL_law_463 (nI_add i 1) (by omega) hL (n := 464) rfl ?_
  refine k_aload3 S dL_law_464 (n := 465) rfl ?_
  refine k_callH (As := [.ref (za g 0), .int (sc (i + 1)), .ref (za g 31)]) (rest := []) S (c_L_mean hn (c_X3_mean J.hd J.d60) (fun v ν h => by obtain ⟨k, -, -, e, -⟩ := h; exact ⟨_, e⟩) (fun E ν h => h.2.1)) mv_L_mean m_482 dL_law_465 rfl rfl ⟨by decide, by decide⟩ rfl rfl (Nat.le_of_ble_eq_true rfl) ⟨by show ce + 1 ≤ 618947; omega, by show sl + 6 ≤ 7239262; omega⟩ (n := 468) rfl (fun _ _ h => h.elim) (fun v9 ν9 h9 => ?_)
  obtain ⟨k, e9, rm, RT4, hrm, hC, hO⟩ := pr_mean (l := xl x) hn J h9
  subst e9
  show zK x g room_1 8 (ce + 1) (sl + 6) 468 [some (.ref b), some (.ref (za g 0)), some (.ref (za g 21)), some (.ref (za g 31)), some (.int (nI i)), none, none, none] [.int k] ν9
  refine k_istore5 S dL_law_468 (by decide) rfl (n := 470) rfl ?_
  refine k_aload2 S dL_law_470 (n := 471) rfl ?_
  refine k_aload0 S dL_law_471 (n := 472) rfl ?_
  refine k_iload4 S dL_law_472 (n := 474) rfl ?_
  refine k_iconst S dL_law_474 (v := 1) (by decide) (n := 475) rfl ?_
  refine k_iadd S dL_law_475 (n := 476) rfl ?_
  refine k_sld (j := (i + 1)) S V dL_law_476 (nI_add i 1) (by omega) hL (n := 477) rfl ?_
  refine k_callV (As := [.int (sc (i + 1))]) (rest := []) (p := 21) S hC mv_X4_mean m_816 dL_law_477 hrm.1 hrm.2.1 ⟨hrm.2.2.1, by have := hrm.2.2.2; show 8 + (2 + 11) + rm.locals ≤ 436; omega⟩ (by rw [hn]; decide) (by decide) (ci := 4) rfl rfl rfl (Nat.le_of_ble_eq_true rfl) ⟨by show ce + 1 + 0 ≤ 618947; omega, by show sl + 6 + 0 ≤ 7239262; omega⟩ (n := 480) rfl (fun _ _ h => h.elim) (fun v8 ν8 h8 => ?_)
  obtain ⟨a4, e8, ht, ho, hJ⟩ := hO _ _ h8
  subst e8
  show zK x g room_1 8 (ce + 1) (sl + 6) 480 [some (.ref b), some (.ref (za g 0)), some (.ref (za g 21)), some (.ref (za g 31)), some (.int (nI i)), some (.int k), none, none] [.int a4] ν8
  refine k_istore6 S dL_law_480 (by decide) rfl (n := 482) rfl ?_
  refine k_aload2 S dL_law_482 (n := 483) rfl ?_
  refine k_callV (As := []) (rest := []) (p := 21) S (c_X4_thrown hn) mv_X4_thrown m_746 dL_law_483 rfl rfl ⟨by decide, by decide⟩ (by rw [hn]; decide) (by decide) (ci := 4) rfl rfl rfl (Nat.le_of_ble_eq_true rfl) ⟨by show ce + 1 + 0 ≤ 618947; omega, by show sl + 6 + 0 ≤ 7239262; omega⟩ (n := 486) rfl (fun _ _ h => h.elim) (fun v7 ν7 h7 => ?_)
  rw [h7.1, h7.2, ht]
  show zK x g room_1 8 (ce + 1) (sl + 6) 486 [some (.ref b), some (.ref (za g 0)), some (.ref (za g 21)), some (.ref (za g 31)), some (.int (nI i)), some (.int k), some (.int a4), none] [.int k] ν8
  refine k_iload5 S dL_law_486 (n := 488) rfl ?_
  refine k_icmp_eq S dL_law_488 (tgt := 493) (by decide) (n := 491) rfl (fun _ => ?_) (fun h9 => absurd (rfl) h9)
  refine k_iload5 S dL_law_493 (n := 495) rfl ?_
  refine k_if_ne S dL_law_495 (tgt := 510) (by decide) (n := 498) rfl (fun c1 => ?_) (fun c1 => ?_)
  ·
    refine k_goto S dL_law_510 (tgt := 1408) (by decide) ?_
    exact k_widen (by omega) (by omega) (zLh_f _ _ _ (kk _ hJ))
  ·
    refine k_aload3 S dL_law_498 (n := 499) rfl ?_
    refine k_iconst S dL_law_499 (v := 0) (by decide) (n := 500) rfl ?_
    refine k_lald S dL_law_500 (by rw [hn]; decide) (by decide) (by decide) (n := 501) rfl ?_
    refine k_iload6 S dL_law_501 (n := 503) rfl ?_
    refine k_i2l S dL_law_503 (n := 504) rfl ?_
    refine k_lcmp S dL_law_504 (n := 505) rfl ?_
    refine k_if_eq S dL_law_505 (tgt := 510) (by decide) (n := 508) rfl (fun _ => ?_) (fun h9 => absurd ((lg_cmp_eq _ _).mpr (ho c1)) h9)
    refine k_goto S dL_law_510 (tgt := 1408) (by decide) ?_
    exact k_widen (by omega) (by omega) (zLh_f _ _ _ (kk _ hJ))
set_option maxRecDepth 100000 in
set_option maxHeartbeats 4000000 in
theorem w_range {x : zX} {g : zG} {μ : zM} {b LL i ce sl : Nat} {sc : Nat → Int32} (S : zS x g 8 cL_law RL) (hn : zn g = 32) (V : zScr9 x g b LL sc) (hL : LL ≤ 2560) (hi : i + 5 ≤ LL) (hce : ce + 2 ≤ 618947) (hsl : sl + 12 ≤ 7239262) {s d c n w : Nat} {ph fs : Nat → Nat} (J : zJ μ s d c n w ph fs) (kk : ∀ ν : zM, zJx ν → zK x g room_1 8 (ce + 2) (sl + 12) 1408 (zLh b g i) [] ν) : zK x g room_1 8 ce sl 513 (zLh b g i) [] μ := by
  show zK x g room_1 8 ce sl 513 [some (.ref b), some (.ref (za g 0)), some (.ref (za g 21)), some (.ref (za g 31)), some (.int (nI i)), none, none, none] [] μ
  refine k_aload1 S dL_law_513 (n := 514) rfl ?_
  refine k_aload0 S dL_law_514 (n := 515) rfl ?_
  refine k_iload4 S dL_law_515 (n := 517) rfl ?_
  refine k_iconst S dL_law_517 (v := 1) (by decide) (n := 518) rfl ?_
  refine k_iadd S dL_law_518 (n := 519) rfl ?_
  refine k_sld (j := (i + 1)) S V dL_law_519 (nI_add i 1) (by omega) hL (n := 520) rfl ?_
  refine k_aload3 S dL_law_520 (n := 521) rfl ?_
  refine k_callH (As := [.ref (za g 0), .int (sc (i + 1)), .ref (za g 31)]) (rest := []) S (c_L_range hn (c_X3_range J.hd J.d60) (fun v ν h => by obtain ⟨k, -, -, e, -⟩ := h; exact ⟨_, e⟩) (fun E ν h => h.2.1)) mv_L_range m_489 dL_law_521 rfl rfl ⟨by decide, by decide⟩ rfl rfl (Nat.le_of_ble_eq_true rfl) ⟨by show ce + 1 ≤ 618947; omega, by show sl + 6 ≤ 7239262; omega⟩ (n := 524) rfl (fun _ _ h => h.elim) (fun v9 ν9 h9 => ?_)
  obtain ⟨k, e9, rm, RT4, hrm, hC, hO⟩ := pr_range (l := xl x) hn J h9
  subst e9
  show zK x g room_1 8 (ce + 1) (sl + 6) 524 [some (.ref b), some (.ref (za g 0)), some (.ref (za g 21)), some (.ref (za g 31)), some (.int (nI i)), none, none, none] [.int k] ν9
  refine k_istore5 S dL_law_524 (by decide) rfl (n := 526) rfl ?_
  refine k_aload2 S dL_law_526 (n := 527) rfl ?_
  refine k_aload0 S dL_law_527 (n := 528) rfl ?_
  refine k_iload4 S dL_law_528 (n := 530) rfl ?_
  refine k_iconst S dL_law_530 (v := 1) (by decide) (n := 531) rfl ?_
  refine k_iadd S dL_law_531 (n := 532) rfl ?_
  refine k_sld (j := (i + 1)) S V dL_law_532 (nI_add i 1) (by omega) hL (n := 533) rfl ?_
  refine k_callV (As := [.int (sc (i + 1))]) (rest := []) (p := 21) S hC mv_X4_range m_820 dL_law_533 hrm.1 hrm.2.1 ⟨hrm.2.2.1, by have := hrm.2.2.2; show 8 + (2 + 11) + rm.locals ≤ 436; omega⟩ (by rw [hn]; decide) (by decide) (ci := 4) rfl rfl rfl (Nat.le_of_ble_eq_true rfl) ⟨by show ce + 1 + 0 ≤ 618947; omega, by show sl + 6 + 0 ≤ 7239262; omega⟩ (n := 536) rfl (fun _ _ h => h.elim) (fun v8 ν8 h8 => ?_)
  obtain ⟨a4, e8, ht, ho, hJ⟩ := hO _ _ h8
  subst e8
  show zK x g room_1 8 (ce + 1) (sl + 6) 536 [some (.ref b), some (.ref (za g 0)), some (.ref (za g 21)), some (.ref (za g 31)), some (.int (nI i)), some (.int k), none, none] [.int a4] ν8
  refine k_istore6 S dL_law_536 (by decide) rfl (n := 538) rfl ?_
  refine k_aload2 S dL_law_538 (n := 539) rfl ?_
  refine k_callV (As := []) (rest := []) (p := 21) S (c_X4_thrown hn) mv_X4_thrown m_746 dL_law_539 rfl rfl ⟨by decide, by decide⟩ (by rw [hn]; decide) (by decide) (ci := 4) rfl rfl rfl (Nat.le_of_ble_eq_true rfl) ⟨by show ce + 1 + 0 ≤ 618947; omega, by show sl + 6 + 0 ≤ 7239262; omega⟩ (n := 542) rfl (fun _ _ h => h.elim) (fun v7 ν7 h7 => ?_)
  rw [h7.1, h7.2, ht]
  show zK x g room_1 8 (ce + 1) (sl + 6) 542 [some (.ref b), some (.ref (za g 0)), some (.ref (za g 21)), some (.ref (za g 31)), some (.int (nI i)), some (.int k), some (.int a4), none] [.int k] ν8
  refine k_iload5 S dL_law_542 (n := 544) rfl ?_
  refine k_icmp_eq S dL_law_544 (tgt := 549) (by decide) (n := 547) rfl (fun _ => ?_) (fun h9 => absurd (rfl) h9)
  refine k_iload5 S dL_law_549 (n := 551) rfl ?_
  refine k_if_ne S dL_law_551 (tgt := 566) (by decide) (n := 554) rfl (fun c1 => ?_) (fun c1 => ?_)
  ·
    refine k_goto S dL_law_566 (tgt := 1408) (by decide) ?_
    exact k_widen (by omega) (by omega) (zLh_f _ _ _ (kk _ hJ))
  ·
    refine k_aload3 S dL_law_554 (n := 555) rfl ?_
    refine k_iconst S dL_law_555 (v := 0) (by decide) (n := 556) rfl ?_
    refine k_lald S dL_law_556 (by rw [hn]; decide) (by decide) (by decide) (n := 557) rfl ?_
    refine k_iload6 S dL_law_557 (n := 559) rfl ?_
    refine k_i2l S dL_law_559 (n := 560) rfl ?_
    refine k_lcmp S dL_law_560 (n := 561) rfl ?_
    refine k_if_eq S dL_law_561 (tgt := 566) (by decide) (n := 564) rfl (fun _ => ?_) (fun h9 => absurd ((lg_cmp_eq _ _).mpr (ho c1)) h9)
    refine k_goto S dL_law_566 (tgt := 1408) (by decide) ?_
    exact k_widen (by omega) (by omega) (zLh_f _ _ _ (kk _ hJ))
set_option maxRecDepth 100000 in
set_option maxHeartbeats 4000000 in
theorem w_phaseOf {x : zX} {g : zG} {μ : zM} {b LL i ce sl : Nat} {sc : Nat → Int32} (S : zS x g 8 cL_law RL) (hn : zn g = 32) (V : zScr9 x g b LL sc) (hL : LL ≤ 2560) (hi : i + 5 ≤ LL) (hce : ce + 2 ≤ 618947) (hsl : sl + 12 ≤ 7239262) {s d c n w : Nat} {ph fs : Nat → Nat} (J : zJ μ s d c n w ph fs) (kk : ∀ ν : zM, zJx ν → zK x g room_1 8 (ce + 2) (sl + 12) 1408 (zLh b g i) [] ν) : zK x g room_1 8 ce sl 569 (zLh b g i) [] μ := by
  show zK x g room_1 8 ce sl 569 [some (.ref b), some (.ref (za g 0)), some (.ref (za g 21)), some (.ref (za g 31)), some (.int (nI i)), none, none, none] [] μ
  refine k_aload1 S dL_law_569 (n := 570) rfl ?_
  refine k_aload0 S dL_law_570 (n := 571) rfl ?_
  refine k_iload4 S dL_law_571 (n := 573) rfl ?_
  refine k_iconst S dL_law_573 (v := 1) (by decide) (n := 574) rfl ?_
  refine k_iadd S dL_law_574 (n := 575) rfl ?_
  refine k_sld (j := (i + 1)) S V dL_law_575 (nI_add i 1) (by omega) hL (n := 576) rfl ?_
  refine k_aload3 S dL_law_576 (n := 577) rfl ?_
  refine k_callH (As := [.ref (za g 0), .int (sc (i + 1)), .ref (za g 31)]) (rest := []) S (c_L_phaseOf hn (c_X3_phaseOf J.hd J.d60) (fun v ν h => by obtain ⟨k, -, -, e, -⟩ := h; exact ⟨_, e⟩) (fun E ν h => h.2.1)) mv_L_phaseOf m_496 dL_law_577 rfl rfl ⟨by decide, by decide⟩ rfl rfl (Nat.le_of_ble_eq_true rfl) ⟨by show ce + 1 ≤ 618947; omega, by show sl + 6 ≤ 7239262; omega⟩ (n := 580) rfl (fun _ _ h => h.elim) (fun v9 ν9 h9 => ?_)
  obtain ⟨k, e9, rm, RT4, hrm, hC, hO⟩ := pr_phaseOf (l := xl x) hn J h9
  subst e9
  show zK x g room_1 8 (ce + 1) (sl + 6) 580 [some (.ref b), some (.ref (za g 0)), some (.ref (za g 21)), some (.ref (za g 31)), some (.int (nI i)), none, none, none] [.int k] ν9
  refine k_istore5 S dL_law_580 (by decide) rfl (n := 582) rfl ?_
  refine k_aload2 S dL_law_582 (n := 583) rfl ?_
  refine k_aload0 S dL_law_583 (n := 584) rfl ?_
  refine k_iload4 S dL_law_584 (n := 586) rfl ?_
  refine k_iconst S dL_law_586 (v := 1) (by decide) (n := 587) rfl ?_
  refine k_iadd S dL_law_587 (n := 588) rfl ?_
  refine k_sld (j := (i + 1)) S V dL_law_588 (nI_add i 1) (by omega) hL (n := 589) rfl ?_
  refine k_callV (As := [.int (sc (i + 1))]) (rest := []) (p := 21) S hC mv_X4_phaseOf m_824 dL_law_589 hrm.1 hrm.2.1 ⟨hrm.2.2.1, by have := hrm.2.2.2; show 8 + (2 + 11) + rm.locals ≤ 436; omega⟩ (by rw [hn]; decide) (by decide) (ci := 4) rfl rfl rfl (Nat.le_of_ble_eq_true rfl) ⟨by show ce + 1 + 0 ≤ 618947; omega, by show sl + 6 + 0 ≤ 7239262; omega⟩ (n := 592) rfl (fun _ _ h => h.elim) (fun v8 ν8 h8 => ?_)
  obtain ⟨a4, e8, ht, ho, hJ⟩ := hO _ _ h8
  subst e8
  show zK x g room_1 8 (ce + 1) (sl + 6) 592 [some (.ref b), some (.ref (za g 0)), some (.ref (za g 21)), some (.ref (za g 31)), some (.int (nI i)), some (.int k), none, none] [.int a4] ν8
  refine k_istore6 S dL_law_592 (by decide) rfl (n := 594) rfl ?_
  refine k_aload2 S dL_law_594 (n := 595) rfl ?_
  refine k_callV (As := []) (rest := []) (p := 21) S (c_X4_thrown hn) mv_X4_thrown m_746 dL_law_595 rfl rfl ⟨by decide, by decide⟩ (by rw [hn]; decide) (by decide) (ci := 4) rfl rfl rfl (Nat.le_of_ble_eq_true rfl) ⟨by show ce + 1 + 0 ≤ 618947; omega, by show sl + 6 + 0 ≤ 7239262; omega⟩ (n := 598) rfl (fun _ _ h => h.elim) (fun v7 ν7 h7 => ?_)
  rw [h7.1, h7.2, ht]
  show zK x g room_1 8 (ce + 1) (sl + 6) 598 [some (.ref b), some (.ref (za g 0)), some (.ref (za g 21)), some (.ref (za g 31)), some (.int (nI i)), some (.int k), some (.int a4), none] [.int k] ν8
  refine k_iload5 S dL_law_598 (n := 600) rfl ?_
  refine k_icmp_eq S dL_law_600 (tgt := 605) (by decide) (n := 603) rfl (fun _ => ?_) (fun h9 => absurd (rfl) h9)
  refine k_iload5 S dL_law_605 (n := 607) rfl ?_
  refine k_if_ne S dL_law_607 (tgt := 622) (by decide) (n := 610) rfl (fun c1 => ?_) (fun c1 => ?_)
  ·
    refine k_goto S dL_law_622 (tgt := 1408) (by decide) ?_
    exact k_widen (by omega) (by omega) (zLh_f _ _ _ (kk _ hJ))
  ·
    refine k_aload3 S dL_law_610 (n := 611) rfl ?_
    refine k_iconst S dL_law_611 (v := 0) (by decide) (n := 612) rfl ?_
    refine k_lald S dL_law_612 (by rw [hn]; decide) (by decide) (by decide) (n := 613) rfl ?_
    refine k_iload6 S dL_law_613 (n := 615) rfl ?_
    refine k_i2l S dL_law_615 (n := 616) rfl ?_
    refine k_lcmp S dL_law_616 (n := 617) rfl ?_
    refine k_if_eq S dL_law_617 (tgt := 622) (by decide) (n := 620) rfl (fun _ => ?_) (fun h9 => absurd ((lg_cmp_eq _ _).mpr (ho c1)) h9)
    refine k_goto S dL_law_622 (tgt := 1408) (by decide) ?_
    exact k_widen (by omega) (by omega) (zLh_f _ _ _ (kk _ hJ))
set_option maxRecDepth 100000 in
set_option maxHeartbeats 4000000 in
theorem w_points {x : zX} {g : zG} {μ : zM} {b LL i ce sl : Nat} {sc : Nat → Int32} (S : zS x g 8 cL_law RL) (hn : zn g = 32) (V : zScr9 x g b LL sc) (hL : LL ≤ 2560) (hi : i + 5 ≤ LL) (hce : ce + 2 ≤ 618947) (hsl : sl + 12 ≤ 7239262) {s d c n w : Nat} {ph fs : Nat → Nat} (J : zJ μ s d c n w ph fs) (kk : ∀ ν : zM, zJx ν → zK x g room_1 8 (ce + 2) (sl + 12) 1408 (zLh b g i) [] ν) : zK x g room_1 8 ce sl 625 (zLh b g i) [] μ := by
  show zK x g room_1 8 ce sl 625 [some (.ref b), some (.ref (za g 0)), some (.ref (za g 21)), some (.ref (za g 31)), some (.int (nI i)), none, none, none] [] μ
  refine k_aload1 S dL_law_625 (n := 626) rfl ?_
  refine k_aload0 S dL_law_626 (n := 627) rfl ?_
  refine k_iload4 S dL_law_627 (n := 629) rfl ?_
  refine k_iconst S dL_law_629 (v := 1) (by decide) (n := 630) rfl ?_
  refine k_iadd S dL_law_630 (n := 631) rfl ?_
  refine k_sld (j := (i + 1)) S V dL_law_631 (nI_add i 1) (by omega) hL (n := 632) rfl ?_
  refine k_aload3 S dL_law_632 (n := 633) rfl ?_
  refine k_callH (As := [.ref (za g 0), .int (sc (i + 1)), .ref (za g 31)]) (rest := []) S (c_L_points hn (c_X3_points J.hc J.c10) (fun v ν h => by obtain ⟨k, -, -, e, -⟩ := h; exact ⟨_, e⟩) (fun E ν h => h.2.1)) mv_L_points m_503 dL_law_633 rfl rfl ⟨by decide, by decide⟩ rfl rfl (Nat.le_of_ble_eq_true rfl) ⟨by show ce + 1 ≤ 618947; omega, by show sl + 6 ≤ 7239262; omega⟩ (n := 636) rfl (fun _ _ h => h.elim) (fun v9 ν9 h9 => ?_)
  obtain ⟨k, e9, rm, RT4, hrm, hC, hO⟩ := pr_points (l := xl x) hn J h9
  subst e9
  show zK x g room_1 8 (ce + 1) (sl + 6) 636 [some (.ref b), some (.ref (za g 0)), some (.ref (za g 21)), some (.ref (za g 31)), some (.int (nI i)), none, none, none] [.int k] ν9
  refine k_istore5 S dL_law_636 (by decide) rfl (n := 638) rfl ?_
  refine k_aload2 S dL_law_638 (n := 639) rfl ?_
  refine k_aload0 S dL_law_639 (n := 640) rfl ?_
  refine k_iload4 S dL_law_640 (n := 642) rfl ?_
  refine k_iconst S dL_law_642 (v := 1) (by decide) (n := 643) rfl ?_
  refine k_iadd S dL_law_643 (n := 644) rfl ?_
  refine k_sld (j := (i + 1)) S V dL_law_644 (nI_add i 1) (by omega) hL (n := 645) rfl ?_
  refine k_callV (As := [.int (sc (i + 1))]) (rest := []) (p := 21) S hC mv_X4_points m_828 dL_law_645 hrm.1 hrm.2.1 ⟨hrm.2.2.1, by have := hrm.2.2.2; show 8 + (2 + 11) + rm.locals ≤ 436; omega⟩ (by rw [hn]; decide) (by decide) (ci := 4) rfl rfl rfl (Nat.le_of_ble_eq_true rfl) ⟨by show ce + 1 + 0 ≤ 618947; omega, by show sl + 6 + 0 ≤ 7239262; omega⟩ (n := 648) rfl (fun _ _ h => h.elim) (fun v8 ν8 h8 => ?_)
  obtain ⟨a4, e8, ht, ho, hJ⟩ := hO _ _ h8
  subst e8
  show zK x g room_1 8 (ce + 1) (sl + 6) 648 [some (.ref b), some (.ref (za g 0)), some (.ref (za g 21)), some (.ref (za g 31)), some (.int (nI i)), some (.int k), none, none] [.int a4] ν8
  refine k_istore6 S dL_law_648 (by decide) rfl (n := 650) rfl ?_
  refine k_aload2 S dL_law_650 (n := 651) rfl ?_
  refine k_callV (As := []) (rest := []) (p := 21) S (c_X4_thrown hn) mv_X4_thrown m_746 dL_law_651 rfl rfl ⟨by decide, by decide⟩ (by rw [hn]; decide) (by decide) (ci := 4) rfl rfl rfl (Nat.le_of_ble_eq_true rfl) ⟨by show ce + 1 + 0 ≤ 618947; omega, by show sl + 6 + 0 ≤ 7239262; omega⟩ (n := 654) rfl (fun _ _ h => h.elim) (fun v7 ν7 h7 => ?_)
  rw [h7.1, h7.2, ht]
  show zK x g room_1 8 (ce + 1) (sl + 6) 654 [some (.ref b), some (.ref (za g 0)), some (.ref (za g 21)), some (.ref (za g 31)), some (.int (nI i)), some (.int k), some (.int a4), none] [.int k] ν8
  refine k_iload5 S dL_law_654 (n := 656) rfl ?_
  refine k_icmp_eq S dL_law_656 (tgt := 661) (by decide) (n := 659) rfl (fun _ => ?_) (fun h9 => absurd (rfl) h9)
  refine k_iload5 S dL_law_661 (n := 663) rfl ?_
  refine k_if_ne S dL_law_663 (tgt := 678) (by decide) (n := 666) rfl (fun c1 => ?_) (fun c1 => ?_)
  ·
    refine k_goto S dL_law_678 (tgt := 1408) (by decide) ?_
    exact k_widen (by omega) (by omega) (zLh_f _ _ _ (kk _ hJ))
  ·
    refine k_aload3 S dL_law_666 (n := 667) rfl ?_
    refine k_iconst S dL_law_667 (v := 0) (by decide) (n := 668) rfl ?_
    refine k_lald S dL_law_668 (by rw [hn]; decide) (by decide) (by decide) (n := 669) rfl ?_
    refine k_iload6 S dL_law_669 (n := 671) rfl ?_
    refine k_i2l S dL_law_671 (n := 672) rfl ?_
    refine k_lcmp S dL_law_672 (n := 673) rfl ?_
    refine k_if_eq S dL_law_673 (tgt := 678) (by decide) (n := 676) rfl (fun _ => ?_) (fun h9 => absurd ((lg_cmp_eq _ _).mpr (ho c1)) h9)
    refine k_goto S dL_law_678 (tgt := 1408) (by decide) ?_
    exact k_widen (by omega) (by omega) (zLh_f _ _ _ (kk _ hJ))
set_option maxRecDepth 100000 in
set_option maxHeartbeats 4000000 in
theorem w_center {x : zX} {g : zG} {μ : zM} {b LL i ce sl : Nat} {sc : Nat → Int32} (S : zS x g 8 cL_law RL) (hn : zn g = 32) (V : zScr9 x g b LL sc) (hL : LL ≤ 2560) (hi : i + 5 ≤ LL) (hce : ce + 2 ≤ 618947) (hsl : sl + 12 ≤ 7239262) {s d c n w : Nat} {ph fs : Nat → Nat} (J : zJ μ s d c n w ph fs) (kk : ∀ ν : zM, zJx ν → zK x g room_1 8 (ce + 2) (sl + 12) 1408 (zLh b g i) [] ν) : zK x g room_1 8 ce sl 681 (zLh b g i) [] μ := by
  show zK x g room_1 8 ce sl 681 [some (.ref b), some (.ref (za g 0)), some (.ref (za g 21)), some (.ref (za g 31)), some (.int (nI i)), none, none, none] [] μ
  refine k_aload1 S dL_law_681 (n := 682) rfl ?_
  refine k_aload0 S dL_law_682 (n := 683) rfl ?_
  refine k_iload4 S dL_law_683 (n := 685) rfl ?_
  refine k_iconst S dL_law_685 (v := 1) (by decide) (n := 686) rfl ?_
  refine k_iadd S dL_law_686 (n := 687) rfl ?_
  refine k_sld (j := (i + 1)) S V dL_law_687 (nI_add i 1) (by omega) hL (n := 688) rfl ?_
  refine k_aload3 S dL_law_688 (n := 689) rfl ?_
  refine k_callH (As := [.ref (za g 0), .int (sc (i + 1)), .ref (za g 31)]) (rest := []) S (c_L_center hn (c_X3_center J.hc J.c10) (fun v ν h => by obtain ⟨k, -, -, -, e, -⟩ := h; exact ⟨_, e⟩) (fun E ν h => h.1.elim (fun q => Or.inl q.2) (fun q => by obtain ⟨_, _, _, _, e⟩ := q; exact Or.inr e))) mv_L_center m_510 dL_law_689 rfl rfl ⟨by decide, by decide⟩ rfl rfl (Nat.le_of_ble_eq_true rfl) ⟨by show ce + 2 ≤ 618947; omega, by show sl + 12 ≤ 7239262; omega⟩ (n := 692) rfl (fun _ _ h => h.elim) (fun v9 ν9 h9 => ?_)
  obtain ⟨k, e9, rm, RT4, hrm, hC, hO⟩ := pr_center (l := xl x) hn J h9
  subst e9
  show zK x g room_1 8 (ce + 2) (sl + 12) 692 [some (.ref b), some (.ref (za g 0)), some (.ref (za g 21)), some (.ref (za g 31)), some (.int (nI i)), none, none, none] [.int k] ν9
  refine k_istore5 S dL_law_692 (by decide) rfl (n := 694) rfl ?_
  refine k_aload2 S dL_law_694 (n := 695) rfl ?_
  refine k_aload0 S dL_law_695 (n := 696) rfl ?_
  refine k_iload4 S dL_law_696 (n := 698) rfl ?_
  refine k_iconst S dL_law_698 (v := 1) (by decide) (n := 699) rfl ?_
  refine k_iadd S dL_law_699 (n := 700) rfl ?_
  refine k_sld (j := (i + 1)) S V dL_law_700 (nI_add i 1) (by omega) hL (n := 701) rfl ?_
  refine k_callV (As := [.int (sc (i + 1))]) (rest := []) (p := 21) S hC mv_X4_center m_832 dL_law_701 hrm.1 hrm.2.1 ⟨hrm.2.2.1, by have := hrm.2.2.2; show 8 + (2 + 11) + rm.locals ≤ 436; omega⟩ (by rw [hn]; decide) (by decide) (ci := 4) rfl rfl rfl (Nat.le_of_ble_eq_true rfl) ⟨by show ce + 2 + 0 ≤ 618947; omega, by show sl + 12 + 0 ≤ 7239262; omega⟩ (n := 704) rfl (fun _ _ h => h.elim) (fun v8 ν8 h8 => ?_)
  obtain ⟨a4, e8, ht, ho, hJ⟩ := hO _ _ h8
  subst e8
  show zK x g room_1 8 (ce + 2) (sl + 12) 704 [some (.ref b), some (.ref (za g 0)), some (.ref (za g 21)), some (.ref (za g 31)), some (.int (nI i)), some (.int k), none, none] [.int a4] ν8
  refine k_istore6 S dL_law_704 (by decide) rfl (n := 706) rfl ?_
  refine k_aload2 S dL_law_706 (n := 707) rfl ?_
  refine k_callV (As := []) (rest := []) (p := 21) S (c_X4_thrown hn) mv_X4_thrown m_746 dL_law_707 rfl rfl ⟨by decide, by decide⟩ (by rw [hn]; decide) (by decide) (ci := 4) rfl rfl rfl (Nat.le_of_ble_eq_true rfl) ⟨by show ce + 2 + 0 ≤ 618947; omega, by show sl + 12 + 0 ≤ 7239262; omega⟩ (n := 710) rfl (fun _ _ h => h.elim) (fun v7 ν7 h7 => ?_)
  rw [h7.1, h7.2, ht]
  show zK x g room_1 8 (ce + 2) (sl + 12) 710 [some (.ref b), some (.ref (za g 0)), some (.ref (za g 21)), some (.ref (za g 31)), some (.int (nI i)), some (.int k), some (.int a4), none] [.int k] ν8
  refine k_iload5 S dL_law_710 (n := 712) rfl ?_
  refine k_icmp_eq S dL_law_712 (tgt := 717) (by decide) (n := 715) rfl (fun _ => ?_) (fun h9 => absurd (rfl) h9)
  refine k_iload5 S dL_law_717 (n := 719) rfl ?_
  refine k_if_ne S dL_law_719 (tgt := 734) (by decide) (n := 722) rfl (fun c1 => ?_) (fun c1 => ?_)
  ·
    refine k_goto S dL_law_734 (tgt := 1408) (by decide) ?_
    exact k_widen (by omega) (by omega) (zLh_f _ _ _ (kk _ hJ))
  ·
    refine k_aload3 S dL_law_722 (n := 723) rfl ?_
    refine k_iconst S dL_law_723 (v := 0) (by decide) (n := 724) rfl ?_
    refine k_lald S dL_law_724 (by rw [hn]; decide) (by decide) (by decide) (n := 725) rfl ?_
    refine k_iload6 S dL_law_725 (n := 727) rfl ?_
    refine k_i2l S dL_law_727 (n := 728) rfl ?_
    refine k_lcmp S dL_law_728 (n := 729) rfl ?_
    refine k_if_eq S dL_law_729 (tgt := 734) (by decide) (n := 732) rfl (fun _ => ?_) (fun h9 => absurd ((lg_cmp_eq _ _).mpr (ho c1)) h9)
    refine k_goto S dL_law_734 (tgt := 1408) (by decide) ?_
    exact k_widen (by omega) (by omega) (zLh_f _ _ _ (kk _ hJ))
set_option maxRecDepth 100000 in
set_option maxHeartbeats 4000000 in
theorem w_width {x : zX} {g : zG} {μ : zM} {b LL i ce sl : Nat} {sc : Nat → Int32} (S : zS x g 8 cL_law RL) (hn : zn g = 32) (V : zScr9 x g b LL sc) (hL : LL ≤ 2560) (hi : i + 5 ≤ LL) (hce : ce + 2 ≤ 618947) (hsl : sl + 12 ≤ 7239262) {s d c n w : Nat} {ph fs : Nat → Nat} (J : zJ μ s d c n w ph fs) (kk : ∀ ν : zM, zJx ν → zK x g room_1 8 (ce + 2) (sl + 12) 1408 (zLh b g i) [] ν) : zK x g room_1 8 ce sl 737 (zLh b g i) [] μ := by
  show zK x g room_1 8 ce sl 737 [some (.ref b), some (.ref (za g 0)), some (.ref (za g 21)), some (.ref (za g 31)), some (.int (nI i)), none, none, none] [] μ
  refine k_aload1 S dL_law_737 (n := 738) rfl ?_
  refine k_aload0 S dL_law_738 (n := 739) rfl ?_
  refine k_iload4 S dL_law_739 (n := 741) rfl ?_
  refine k_iconst S dL_law_741 (v := 1) (by decide) (n := 742) rfl ?_
  refine k_iadd S dL_law_742 (n := 743) rfl ?_
  refine k_sld (j := (i + 1)) S V dL_law_743 (nI_add i 1) (by omega) hL (n := 744) rfl ?_
  refine k_aload3 S dL_law_744 (n := 745) rfl ?_
  refine k_callH (As := [.ref (za g 0), .int (sc (i + 1)), .ref (za g 31)]) (rest := []) S (c_L_width hn (c_X3_width J.hc J.c10) (fun v ν h => by obtain ⟨k, -, -, -, e, -⟩ := h; exact ⟨_, e⟩) (fun E ν h => h.1.elim (fun q => Or.inl q.2) (fun q => by obtain ⟨_, _, _, _, e⟩ := q; exact Or.inr e))) mv_L_width m_526 dL_law_745 rfl rfl ⟨by decide, by decide⟩ rfl rfl (Nat.le_of_ble_eq_true rfl) ⟨by show ce + 2 ≤ 618947; omega, by show sl + 12 ≤ 7239262; omega⟩ (n := 748) rfl (fun _ _ h => h.elim) (fun v9 ν9 h9 => ?_)
  obtain ⟨k, e9, rm, RT4, hrm, hC, hO⟩ := pr_width (l := xl x) hn J h9
  subst e9
  show zK x g room_1 8 (ce + 2) (sl + 12) 748 [some (.ref b), some (.ref (za g 0)), some (.ref (za g 21)), some (.ref (za g 31)), some (.int (nI i)), none, none, none] [.int k] ν9
  refine k_istore5 S dL_law_748 (by decide) rfl (n := 750) rfl ?_
  refine k_aload2 S dL_law_750 (n := 751) rfl ?_
  refine k_aload0 S dL_law_751 (n := 752) rfl ?_
  refine k_iload4 S dL_law_752 (n := 754) rfl ?_
  refine k_iconst S dL_law_754 (v := 1) (by decide) (n := 755) rfl ?_
  refine k_iadd S dL_law_755 (n := 756) rfl ?_
  refine k_sld (j := (i + 1)) S V dL_law_756 (nI_add i 1) (by omega) hL (n := 757) rfl ?_
  refine k_callV (As := [.int (sc (i + 1))]) (rest := []) (p := 21) S hC mv_X4_width m_840 dL_law_757 hrm.1 hrm.2.1 ⟨hrm.2.2.1, by have := hrm.2.2.2; show 8 + (2 + 11) + rm.locals ≤ 436; omega⟩ (by rw [hn]; decide) (by decide) (ci := 4) rfl rfl rfl (Nat.le_of_ble_eq_true rfl) ⟨by show ce + 2 + 0 ≤ 618947; omega, by show sl + 12 + 0 ≤ 7239262; omega⟩ (n := 760) rfl (fun _ _ h => h.elim) (fun v8 ν8 h8 => ?_)
  obtain ⟨a4, e8, ht, ho, hJ⟩ := hO _ _ h8
  subst e8
  show zK x g room_1 8 (ce + 2) (sl + 12) 760 [some (.ref b), some (.ref (za g 0)), some (.ref (za g 21)), some (.ref (za g 31)), some (.int (nI i)), some (.int k), none, none] [.int a4] ν8
  refine k_istore6 S dL_law_760 (by decide) rfl (n := 762) rfl ?_
  refine k_aload2 S dL_law_762 (n := 763) rfl ?_
  refine k_callV (As := []) (rest := []) (p := 21) S (c_X4_thrown hn) mv_X4_thrown m_746 dL_law_763 rfl rfl ⟨by decide, by decide⟩ (by rw [hn]; decide) (by decide) (ci := 4) rfl rfl rfl (Nat.le_of_ble_eq_true rfl) ⟨by show ce + 2 + 0 ≤ 618947; omega, by show sl + 12 + 0 ≤ 7239262; omega⟩ (n := 766) rfl (fun _ _ h => h.elim) (fun v7 ν7 h7 => ?_)
  rw [h7.1, h7.2, ht]
  show zK x g room_1 8 (ce + 2) (sl + 12) 766 [some (.ref b), some (.ref (za g 0)), some (.ref (za g 21)), some (.ref (za g 31)), some (.int (nI i)), some (.int k), some (.int a4), none] [.int k] ν8
  refine k_iload5 S dL_law_766 (n := 768) rfl ?_
  refine k_icmp_eq S dL_law_768 (tgt := 773) (by decide) (n := 771) rfl (fun _ => ?_) (fun h9 => absurd (rfl) h9)
  refine k_iload5 S dL_law_773 (n := 775) rfl ?_
  refine k_if_ne S dL_law_775 (tgt := 790) (by decide) (n := 778) rfl (fun c1 => ?_) (fun c1 => ?_)
  ·
    refine k_goto S dL_law_790 (tgt := 1408) (by decide) ?_
    exact k_widen (by omega) (by omega) (zLh_f _ _ _ (kk _ hJ))
  ·
    refine k_aload3 S dL_law_778 (n := 779) rfl ?_
    refine k_iconst S dL_law_779 (v := 0) (by decide) (n := 780) rfl ?_
    refine k_lald S dL_law_780 (by rw [hn]; decide) (by decide) (by decide) (n := 781) rfl ?_
    refine k_iload6 S dL_law_781 (n := 783) rfl ?_
    refine k_i2l S dL_law_783 (n := 784) rfl ?_
    refine k_lcmp S dL_law_784 (n := 785) rfl ?_
    refine k_if_eq S dL_law_785 (tgt := 790) (by decide) (n := 788) rfl (fun _ => ?_) (fun h9 => absurd ((lg_cmp_eq _ _).mpr (ho c1)) h9)
    refine k_goto S dL_law_790 (tgt := 1408) (by decide) ?_
    exact k_widen (by omega) (by omega) (zLh_f _ _ _ (kk _ hJ))
set_option maxRecDepth 100000 in
set_option maxHeartbeats 4000000 in
theorem w_rangeLimit {x : zX} {g : zG} {μ : zM} {b LL i ce sl : Nat} {sc : Nat → Int32} (S : zS x g 8 cL_law RL) (hn : zn g = 32) (V : zScr9 x g b LL sc) (hL : LL ≤ 2560) (hi : i + 5 ≤ LL) (hce : ce + 2 ≤ 618947) (hsl : sl + 12 ≤ 7239262) {s d c n w : Nat} {ph fs : Nat → Nat} (J : zJ μ s d c n w ph fs) (kk : ∀ ν : zM, zJx ν → zK x g room_1 8 (ce + 2) (sl + 12) 1408 (zLh b g i) [] ν) : zK x g room_1 8 ce sl 793 (zLh b g i) [] μ := by
  show zK x g room_1 8 ce sl 793 [some (.ref b), some (.ref (za g 0)), some (.ref (za g 21)), some (.ref (za g 31)), some (.int (nI i)), none, none, none] [] μ
  refine k_aload1 S dL_law_793 (n := 794) rfl ?_
  refine k_aload0 S dL_law_794 (n := 795) rfl ?_
  refine k_iload4 S dL_law_795 (n := 797) rfl ?_
  refine k_iconst S dL_law_797 (v := 1) (by decide) (n := 798) rfl ?_
  refine k_iadd S dL_law_798 (n := 799) rfl ?_
  refine k_sld (j := (i + 1)) S V dL_law_799 (nI_add i 1) (by omega) hL (n := 800) rfl ?_
  refine k_aload3 S dL_law_800 (n := 801) rfl ?_
  refine k_callH (As := [.ref (za g 0), .int (sc (i + 1)), .ref (za g 31)]) (rest := []) S (c_L_rangeLimit hn (c_X3_rangeLimit J.hc J.c10) (fun v ν h => by obtain ⟨k, -, -, -, e, -⟩ := h; exact ⟨_, e⟩) (fun E ν h => h.1.elim (fun q => Or.inl q.2) (fun q => by obtain ⟨_, _, _, _, e⟩ := q; exact Or.inr e))) mv_L_rangeLimit m_533 dL_law_801 rfl rfl ⟨by decide, by decide⟩ rfl rfl (Nat.le_of_ble_eq_true rfl) ⟨by show ce + 2 ≤ 618947; omega, by show sl + 12 ≤ 7239262; omega⟩ (n := 804) rfl (fun _ _ h => h.elim) (fun v9 ν9 h9 => ?_)
  obtain ⟨k, e9, rm, RT4, hrm, hC, hO⟩ := pr_rangeLimit (l := xl x) hn J h9
  subst e9
  show zK x g room_1 8 (ce + 2) (sl + 12) 804 [some (.ref b), some (.ref (za g 0)), some (.ref (za g 21)), some (.ref (za g 31)), some (.int (nI i)), none, none, none] [.int k] ν9
  refine k_istore5 S dL_law_804 (by decide) rfl (n := 806) rfl ?_
  refine k_aload2 S dL_law_806 (n := 807) rfl ?_
  refine k_aload0 S dL_law_807 (n := 808) rfl ?_
  refine k_iload4 S dL_law_808 (n := 810) rfl ?_
  refine k_iconst S dL_law_810 (v := 1) (by decide) (n := 811) rfl ?_
  refine k_iadd S dL_law_811 (n := 812) rfl ?_
  refine k_sld (j := (i + 1)) S V dL_law_812 (nI_add i 1) (by omega) hL (n := 813) rfl ?_
  refine k_callV (As := [.int (sc (i + 1))]) (rest := []) (p := 21) S hC mv_X4_rangeLimit m_844 dL_law_813 hrm.1 hrm.2.1 ⟨hrm.2.2.1, by have := hrm.2.2.2; show 8 + (2 + 11) + rm.locals ≤ 436; omega⟩ (by rw [hn]; decide) (by decide) (ci := 4) rfl rfl rfl (Nat.le_of_ble_eq_true rfl) ⟨by show ce + 2 + 0 ≤ 618947; omega, by show sl + 12 + 0 ≤ 7239262; omega⟩ (n := 816) rfl (fun _ _ h => h.elim) (fun v8 ν8 h8 => ?_)
  obtain ⟨a4, e8, ht, ho, hJ⟩ := hO _ _ h8
  subst e8
  show zK x g room_1 8 (ce + 2) (sl + 12) 816 [some (.ref b), some (.ref (za g 0)), some (.ref (za g 21)), some (.ref (za g 31)), some (.int (nI i)), some (.int k), none, none] [.int a4] ν8
  refine k_istore6 S dL_law_816 (by decide) rfl (n := 818) rfl ?_
  refine k_aload2 S dL_law_818 (n := 819) rfl ?_
  refine k_callV (As := []) (rest := []) (p := 21) S (c_X4_thrown hn) mv_X4_thrown m_746 dL_law_819 rfl rfl ⟨by decide, by decide⟩ (by rw [hn]; decide) (by decide) (ci := 4) rfl rfl rfl (Nat.le_of_ble_eq_true rfl) ⟨by show ce + 2 + 0 ≤ 618947; omega, by show sl + 12 + 0 ≤ 7239262; omega⟩ (n := 822) rfl (fun _ _ h => h.elim) (fun v7 ν7 h7 => ?_)
  rw [h7.1, h7.2, ht]
  show zK x g room_1 8 (ce + 2) (sl + 12) 822 [some (.ref b), some (.ref (za g 0)), some (.ref (za g 21)), some (.ref (za g 31)), some (.int (nI i)), some (.int k), some (.int a4), none] [.int k] ν8
  refine k_iload5 S dL_law_822 (n := 824) rfl ?_
  refine k_icmp_eq S dL_law_824 (tgt := 829) (by decide) (n := 827) rfl (fun _ => ?_) (fun h9 => absurd (rfl) h9)
  refine k_iload5 S dL_law_829 (n := 831) rfl ?_
  refine k_if_ne S dL_law_831 (tgt := 846) (by decide) (n := 834) rfl (fun c1 => ?_) (fun c1 => ?_)
  ·
    refine k_goto S dL_law_846 (tgt := 1408) (by decide) ?_
    exact k_widen (by omega) (by omega) (zLh_f _ _ _ (kk _ hJ))
  ·
    refine k_aload3 S dL_law_834 (n := 835) rfl ?_
    refine k_iconst S dL_law_835 (v := 0) (by decide) (n := 836) rfl ?_
    refine k_lald S dL_law_836 (by rw [hn]; decide) (by decide) (by decide) (n := 837) rfl ?_
    refine k_iload6 S dL_law_837 (n := 839) rfl ?_
    refine k_i2l S dL_law_839 (n := 840) rfl ?_
    refine k_lcmp S dL_law_840 (n := 841) rfl ?_
    refine k_if_eq S dL_law_841 (tgt := 846) (by decide) (n := 844) rfl (fun _ => ?_) (fun h9 => absurd ((lg_cmp_eq _ _).mpr (ho c1)) h9)
    refine k_goto S dL_law_846 (tgt := 1408) (by decide) ?_
    exact k_widen (by omega) (by omega) (zLh_f _ _ _ (kk _ hJ))
set_option maxRecDepth 100000 in
set_option maxHeartbeats 4000000 in
theorem w_signals {x : zX} {g : zG} {μ : zM} {b LL i ce sl : Nat} {sc : Nat → Int32} (S : zS x g 8 cL_law RL) (hn : zn g = 32) (V : zScr9 x g b LL sc) (hL : LL ≤ 2560) (hi : i + 5 ≤ LL) (hce : ce + 2 ≤ 618947) (hsl : sl + 12 ≤ 7239262) {s d c n w : Nat} {ph fs : Nat → Nat} (J : zJ μ s d c n w ph fs) (kk : ∀ ν : zM, zJx ν → zK x g room_1 8 (ce + 2) (sl + 12) 1408 (zLh b g i) [] ν) : zK x g room_1 8 ce sl 849 (zLh b g i) [] μ := by
  show zK x g room_1 8 ce sl 849 [some (.ref b), some (.ref (za g 0)), some (.ref (za g 21)), some (.ref (za g 31)), some (.int (nI i)), none, none, none] [] μ
  refine k_aload1 S dL_law_849 (n := 850) rfl ?_
  refine k_aload0 S dL_law_850 (n := 851) rfl ?_
  refine k_iload4 S dL_law_851 (n := 853) rfl ?_
  refine k_iconst S dL_law_853 (v := 1) (by decide) (n := 854) rfl ?_
  refine k_iadd S dL_law_854 (n := 855) rfl ?_
  refine k_sld (j := (i + 1)) S V dL_law_855 (nI_add i 1) (by omega) hL (n := 856) rfl ?_
  refine k_aload3 S dL_law_856 (n := 857) rfl ?_
  refine k_callH (As := [.ref (za g 0), .int (sc (i + 1)), .ref (za g 31)]) (rest := []) S (c_L_signals hn (c_X3_signals J.hd J.d60 J.hph J.hc J.c10 J.hfs J.hfi) (fun v ν h => by obtain ⟨k, -, -, e⟩ := h; exact e.elim (fun q => ⟨_, q.2.1⟩) (fun q => ⟨_, q.2.1⟩)) (fun E ν h => h.2.1)) mv_L_signals m_540 dL_law_857 rfl rfl ⟨by decide, by decide⟩ rfl rfl (Nat.le_of_ble_eq_true rfl) ⟨by show ce + 1 ≤ 618947; omega, by show sl + 6 ≤ 7239262; omega⟩ (n := 860) rfl (fun _ _ h => h.elim) (fun v9 ν9 h9 => ?_)
  obtain ⟨k, e9, rm, RT4, hrm, hC, hO⟩ := pr_signals (l := xl x) hn J h9
  subst e9
  show zK x g room_1 8 (ce + 1) (sl + 6) 860 [some (.ref b), some (.ref (za g 0)), some (.ref (za g 21)), some (.ref (za g 31)), some (.int (nI i)), none, none, none] [.int k] ν9
  refine k_istore5 S dL_law_860 (by decide) rfl (n := 862) rfl ?_
  refine k_aload2 S dL_law_862 (n := 863) rfl ?_
  refine k_aload0 S dL_law_863 (n := 864) rfl ?_
  refine k_iload4 S dL_law_864 (n := 866) rfl ?_
  refine k_iconst S dL_law_866 (v := 1) (by decide) (n := 867) rfl ?_
  refine k_iadd S dL_law_867 (n := 868) rfl ?_
  refine k_sld (j := (i + 1)) S V dL_law_868 (nI_add i 1) (by omega) hL (n := 869) rfl ?_
  refine k_callV (As := [.int (sc (i + 1))]) (rest := []) (p := 21) S hC mv_X4_signals m_848 dL_law_869 hrm.1 hrm.2.1 ⟨hrm.2.2.1, by have := hrm.2.2.2; show 8 + (2 + 11) + rm.locals ≤ 436; omega⟩ (by rw [hn]; decide) (by decide) (ci := 4) rfl rfl rfl (Nat.le_of_ble_eq_true rfl) ⟨by show ce + 1 + 0 ≤ 618947; omega, by show sl + 6 + 0 ≤ 7239262; omega⟩ (n := 872) rfl (fun _ _ h => h.elim) (fun v8 ν8 h8 => ?_)
  obtain ⟨a4, e8, ht, ho, hJ⟩ := hO _ _ h8
  subst e8
  show zK x g room_1 8 (ce + 1) (sl + 6) 872 [some (.ref b), some (.ref (za g 0)), some (.ref (za g 21)), some (.ref (za g 31)), some (.int (nI i)), some (.int k), none, none] [.int a4] ν8
  refine k_istore6 S dL_law_872 (by decide) rfl (n := 874) rfl ?_
  refine k_aload2 S dL_law_874 (n := 875) rfl ?_
  refine k_callV (As := []) (rest := []) (p := 21) S (c_X4_thrown hn) mv_X4_thrown m_746 dL_law_875 rfl rfl ⟨by decide, by decide⟩ (by rw [hn]; decide) (by decide) (ci := 4) rfl rfl rfl (Nat.le_of_ble_eq_true rfl) ⟨by show ce + 1 + 0 ≤ 618947; omega, by show sl + 6 + 0 ≤ 7239262; omega⟩ (n := 878) rfl (fun _ _ h => h.elim) (fun v7 ν7 h7 => ?_)
  rw [h7.1, h7.2, ht]
  show zK x g room_1 8 (ce + 1) (sl + 6) 878 [some (.ref b), some (.ref (za g 0)), some (.ref (za g 21)), some (.ref (za g 31)), some (.int (nI i)), some (.int k), some (.int a4), none] [.int k] ν8
  refine k_iload5 S dL_law_878 (n := 880) rfl ?_
  refine k_icmp_eq S dL_law_880 (tgt := 885) (by decide) (n := 883) rfl (fun _ => ?_) (fun h9 => absurd (rfl) h9)
  refine k_iload5 S dL_law_885 (n := 887) rfl ?_
  refine k_if_ne S dL_law_887 (tgt := 902) (by decide) (n := 890) rfl (fun c1 => ?_) (fun c1 => ?_)
  ·
    refine k_goto S dL_law_902 (tgt := 1408) (by decide) ?_
    exact k_widen (by omega) (by omega) (zLh_f _ _ _ (kk _ hJ))
  ·
    refine k_aload3 S dL_law_890 (n := 891) rfl ?_
    refine k_iconst S dL_law_891 (v := 0) (by decide) (n := 892) rfl ?_
    refine k_lald S dL_law_892 (by rw [hn]; decide) (by decide) (by decide) (n := 893) rfl ?_
    refine k_iload6 S dL_law_893 (n := 895) rfl ?_
    refine k_i2l S dL_law_895 (n := 896) rfl ?_
    refine k_lcmp S dL_law_896 (n := 897) rfl ?_
    refine k_if_eq S dL_law_897 (tgt := 902) (by decide) (n := 900) rfl (fun _ => ?_) (fun h9 => absurd ((lg_cmp_eq _ _).mpr (ho c1)) h9)
    refine k_goto S dL_law_902 (tgt := 1408) (by decide) ?_
    exact k_widen (by omega) (by omega) (zLh_f _ _ _ (kk _ hJ))
set_option maxRecDepth 100000 in
set_option maxHeartbeats 4000000 in
theorem w_signalsByWindows {x : zX} {g : zG} {μ : zM} {b LL i ce sl : Nat} {sc : Nat → Int32} (S : zS x g 8 cL_law RL) (hn : zn g = 32) (V : zScr9 x g b LL sc) (hL : LL ≤ 2560) (hi : i + 5 ≤ LL) (hce : ce + 2 ≤ 618947) (hsl : sl + 12 ≤ 7239262) {s d c n w : Nat} {ph fs : Nat → Nat} (J : zJ μ s d c n w ph fs) (kk : ∀ ν : zM, zJx ν → zK x g room_1 8 (ce + 2) (sl + 12) 1408 (zLh b g i) [] ν) : zK x g room_1 8 ce sl 905 (zLh b g i) [] μ := by
  show zK x g room_1 8 ce sl 905 [some (.ref b), some (.ref (za g 0)), some (.ref (za g 21)), some (.ref (za g 31)), some (.int (nI i)), none, none, none] [] μ
  refine k_aload1 S dL_law_905 (n := 906) rfl ?_
  refine k_aload0 S dL_law_906 (n := 907) rfl ?_
  refine k_iload4 S dL_law_907 (n := 909) rfl ?_
  refine k_iconst S dL_law_909 (v := 1) (by decide) (n := 910) rfl ?_
  refine k_iadd S dL_law_910 (n := 911) rfl ?_
  refine k_sld (j := (i + 1)) S V dL_law_911 (nI_add i 1) (by omega) hL (n := 912) rfl ?_
  refine k_aload3 S dL_law_912 (n := 913) rfl ?_
  refine k_callH (As := [.ref (za g 0), .int (sc (i + 1)), .ref (za g 31)]) (rest := []) S (c_L_signalsByWindows hn (c_X3_signalsByWindows J.hd J.d60 J.hph J.hc J.c10 J.hfs J.hfi) (fun v ν h => by obtain ⟨k, -, -, e⟩ := h; exact e.elim (fun q => ⟨_, q.2.1⟩) (fun q => ⟨_, q.2.1⟩)) (fun E ν h => h.2.1)) mv_L_signalsByWindows m_547 dL_law_913 rfl rfl ⟨by decide, by decide⟩ rfl rfl (Nat.le_of_ble_eq_true rfl) ⟨by show ce + 1 ≤ 618947; omega, by show sl + 6 ≤ 7239262; omega⟩ (n := 916) rfl (fun _ _ h => h.elim) (fun v9 ν9 h9 => ?_)
  obtain ⟨k, e9, rm, RT4, hrm, hC, hO⟩ := pr_signalsByWindows (l := xl x) hn J h9
  subst e9
  show zK x g room_1 8 (ce + 1) (sl + 6) 916 [some (.ref b), some (.ref (za g 0)), some (.ref (za g 21)), some (.ref (za g 31)), some (.int (nI i)), none, none, none] [.int k] ν9
  refine k_istore5 S dL_law_916 (by decide) rfl (n := 918) rfl ?_
  refine k_aload2 S dL_law_918 (n := 919) rfl ?_
  refine k_aload0 S dL_law_919 (n := 920) rfl ?_
  refine k_iload4 S dL_law_920 (n := 922) rfl ?_
  refine k_iconst S dL_law_922 (v := 1) (by decide) (n := 923) rfl ?_
  refine k_iadd S dL_law_923 (n := 924) rfl ?_
  refine k_sld (j := (i + 1)) S V dL_law_924 (nI_add i 1) (by omega) hL (n := 925) rfl ?_
  refine k_callV (As := [.int (sc (i + 1))]) (rest := []) (p := 21) S hC mv_X4_signalsByWindows m_888 dL_law_925 hrm.1 hrm.2.1 ⟨hrm.2.2.1, by have := hrm.2.2.2; show 8 + (2 + 11) + rm.locals ≤ 436; omega⟩ (by rw [hn]; decide) (by decide) (ci := 4) rfl rfl rfl (Nat.le_of_ble_eq_true rfl) ⟨by show ce + 1 + 0 ≤ 618947; omega, by show sl + 6 + 0 ≤ 7239262; omega⟩ (n := 928) rfl (fun _ _ h => h.elim) (fun v8 ν8 h8 => ?_)
  obtain ⟨a4, e8, ht, ho, hJ⟩ := hO _ _ h8
  subst e8
  show zK x g room_1 8 (ce + 1) (sl + 6) 928 [some (.ref b), some (.ref (za g 0)), some (.ref (za g 21)), some (.ref (za g 31)), some (.int (nI i)), some (.int k), none, none] [.int a4] ν8
  refine k_istore6 S dL_law_928 (by decide) rfl (n := 930) rfl ?_
  refine k_aload2 S dL_law_930 (n := 931) rfl ?_
  refine k_callV (As := []) (rest := []) (p := 21) S (c_X4_thrown hn) mv_X4_thrown m_746 dL_law_931 rfl rfl ⟨by decide, by decide⟩ (by rw [hn]; decide) (by decide) (ci := 4) rfl rfl rfl (Nat.le_of_ble_eq_true rfl) ⟨by show ce + 1 + 0 ≤ 618947; omega, by show sl + 6 + 0 ≤ 7239262; omega⟩ (n := 934) rfl (fun _ _ h => h.elim) (fun v7 ν7 h7 => ?_)
  rw [h7.1, h7.2, ht]
  show zK x g room_1 8 (ce + 1) (sl + 6) 934 [some (.ref b), some (.ref (za g 0)), some (.ref (za g 21)), some (.ref (za g 31)), some (.int (nI i)), some (.int k), some (.int a4), none] [.int k] ν8
  refine k_iload5 S dL_law_934 (n := 936) rfl ?_
  refine k_icmp_eq S dL_law_936 (tgt := 941) (by decide) (n := 939) rfl (fun _ => ?_) (fun h9 => absurd (rfl) h9)
  refine k_iload5 S dL_law_941 (n := 943) rfl ?_
  refine k_if_ne S dL_law_943 (tgt := 958) (by decide) (n := 946) rfl (fun c1 => ?_) (fun c1 => ?_)
  ·
    refine k_goto S dL_law_958 (tgt := 1408) (by decide) ?_
    exact k_widen (by omega) (by omega) (zLh_f _ _ _ (kk _ hJ))
  ·
    refine k_aload3 S dL_law_946 (n := 947) rfl ?_
    refine k_iconst S dL_law_947 (v := 0) (by decide) (n := 948) rfl ?_
    refine k_lald S dL_law_948 (by rw [hn]; decide) (by decide) (by decide) (n := 949) rfl ?_
    refine k_iload6 S dL_law_949 (n := 951) rfl ?_
    refine k_i2l S dL_law_951 (n := 952) rfl ?_
    refine k_lcmp S dL_law_952 (n := 953) rfl ?_
    refine k_if_eq S dL_law_953 (tgt := 958) (by decide) (n := 956) rfl (fun _ => ?_) (fun h9 => absurd ((lg_cmp_eq _ _).mpr (ho c1)) h9)
    refine k_goto S dL_law_958 (tgt := 1408) (by decide) ?_
    exact k_widen (by omega) (by omega) (zLh_f _ _ _ (kk _ hJ))
set_option maxRecDepth 100000 in
set_option maxHeartbeats 4000000 in
theorem w_firstOf {x : zX} {g : zG} {μ : zM} {b LL i ce sl : Nat} {sc : Nat → Int32} (S : zS x g 8 cL_law RL) (hn : zn g = 32) (V : zScr9 x g b LL sc) (hL : LL ≤ 2560) (hi : i + 5 ≤ LL) (hce : ce + 2 ≤ 618947) (hsl : sl + 12 ≤ 7239262) {s d c n w : Nat} {ph fs : Nat → Nat} (J : zJ μ s d c n w ph fs) (kk : ∀ ν : zM, zJx ν → zK x g room_1 8 (ce + 2) (sl + 12) 1408 (zLh b g i) [] ν) : zK x g room_1 8 ce sl 961 (zLh b g i) [] μ := by
  show zK x g room_1 8 ce sl 961 [some (.ref b), some (.ref (za g 0)), some (.ref (za g 21)), some (.ref (za g 31)), some (.int (nI i)), none, none, none] [] μ
  refine k_aload1 S dL_law_961 (n := 962) rfl ?_
  refine k_aload0 S dL_law_962 (n := 963) rfl ?_
  refine k_iload4 S dL_law_963 (n := 965) rfl ?_
  refine k_iconst S dL_law_965 (v := 1) (by decide) (n := 966) rfl ?_
  refine k_iadd S dL_law_966 (n := 967) rfl ?_
  refine k_sld (j := (i + 1)) S V dL_law_967 (nI_add i 1) (by omega) hL (n := 968) rfl ?_
  refine k_aload0 S dL_law_968 (n := 969) rfl ?_
  refine k_iload4 S dL_law_969 (n := 971) rfl ?_
  refine k_iconst S dL_law_971 (v := 2) (by decide) (n := 972) rfl ?_
  refine k_iadd S dL_law_972 (n := 973) rfl ?_
  refine k_sld (j := (i + 2)) S V dL_law_973 (nI_add i 2) (by omega) hL (n := 974) rfl ?_
  refine k_aload3 S dL_law_974 (n := 975) rfl ?_
  refine k_callH (As := [.ref (za g 0), .int (sc (i + 1)), .int (sc (i + 2)), .ref (za g 31)]) (rest := []) S (c_L_firstOf hn (c_X3_firstOf J.hd J.d60 J.hph J.hc J.c10 J.hfs J.hfi) (fun v ν h => by obtain ⟨k, q, -, -, -, -, e⟩ := h; exact e.elim (fun q => ⟨_, q.2.1⟩) (fun q => q.2.2.elim (fun z => ⟨_, z.2⟩) (fun z => ⟨_, z.2⟩))) (fun E ν h => h.1.2)) mv_L_firstOf m_599 dL_law_975 rfl rfl ⟨by decide, by decide⟩ rfl rfl (Nat.le_of_ble_eq_true rfl) ⟨by show ce + 2 ≤ 618947; omega, by show sl + 12 ≤ 7239262; omega⟩ (n := 978) rfl (fun _ _ h => h.elim) (fun v9 ν9 h9 => ?_)
  obtain ⟨k, e9, rm, RT4, hrm, hC, hO⟩ := pr_firstOf (l := xl x) hn J h9
  subst e9
  show zK x g room_1 8 (ce + 2) (sl + 12) 978 [some (.ref b), some (.ref (za g 0)), some (.ref (za g 21)), some (.ref (za g 31)), some (.int (nI i)), none, none, none] [.int k] ν9
  refine k_istore5 S dL_law_978 (by decide) rfl (n := 980) rfl ?_
  refine k_aload2 S dL_law_980 (n := 981) rfl ?_
  refine k_aload0 S dL_law_981 (n := 982) rfl ?_
  refine k_iload4 S dL_law_982 (n := 984) rfl ?_
  refine k_iconst S dL_law_984 (v := 1) (by decide) (n := 985) rfl ?_
  refine k_iadd S dL_law_985 (n := 986) rfl ?_
  refine k_sld (j := (i + 1)) S V dL_law_986 (nI_add i 1) (by omega) hL (n := 987) rfl ?_
  refine k_aload0 S dL_law_987 (n := 988) rfl ?_
  refine k_iload4 S dL_law_988 (n := 990) rfl ?_
  refine k_iconst S dL_law_990 (v := 2) (by decide) (n := 991) rfl ?_
  refine k_iadd S dL_law_991 (n := 992) rfl ?_
  refine k_sld (j := (i + 2)) S V dL_law_992 (nI_add i 2) (by omega) hL (n := 993) rfl ?_
  refine k_callV (As := [.int (sc (i + 1)), .int (sc (i + 2))]) (rest := []) (p := 21) S hC mv_X4_firstOf m_892 dL_law_993 hrm.1 hrm.2.1 ⟨hrm.2.2.1, by have := hrm.2.2.2; show 8 + (3 + 11) + rm.locals ≤ 436; omega⟩ (by rw [hn]; decide) (by decide) (ci := 4) rfl rfl rfl (Nat.le_of_ble_eq_true rfl) ⟨by show ce + 2 + 0 ≤ 618947; omega, by show sl + 12 + 0 ≤ 7239262; omega⟩ (n := 996) rfl (fun _ _ h => h.elim) (fun v8 ν8 h8 => ?_)
  obtain ⟨a4, e8, ht, ho, hJ⟩ := hO _ _ h8
  subst e8
  show zK x g room_1 8 (ce + 2) (sl + 12) 996 [some (.ref b), some (.ref (za g 0)), some (.ref (za g 21)), some (.ref (za g 31)), some (.int (nI i)), some (.int k), none, none] [.int a4] ν8
  refine k_istore6 S dL_law_996 (by decide) rfl (n := 998) rfl ?_
  refine k_aload2 S dL_law_998 (n := 999) rfl ?_
  refine k_callV (As := []) (rest := []) (p := 21) S (c_X4_thrown hn) mv_X4_thrown m_746 dL_law_999 rfl rfl ⟨by decide, by decide⟩ (by rw [hn]; decide) (by decide) (ci := 4) rfl rfl rfl (Nat.le_of_ble_eq_true rfl) ⟨by show ce + 2 + 0 ≤ 618947; omega, by show sl + 12 + 0 ≤ 7239262; omega⟩ (n := 1002) rfl (fun _ _ h => h.elim) (fun v7 ν7 h7 => ?_)
  rw [h7.1, h7.2, ht]
  show zK x g room_1 8 (ce + 2) (sl + 12) 1002 [some (.ref b), some (.ref (za g 0)), some (.ref (za g 21)), some (.ref (za g 31)), some (.int (nI i)), some (.int k), some (.int a4), none] [.int k] ν8
  refine k_iload5 S dL_law_1002 (n := 1004) rfl ?_
  refine k_icmp_eq S dL_law_1004 (tgt := 1009) (by decide) (n := 1007) rfl (fun _ => ?_) (fun h9 => absurd (rfl) h9)
  refine k_iload5 S dL_law_1009 (n := 1011) rfl ?_
  refine k_if_ne S dL_law_1011 (tgt := 1026) (by decide) (n := 1014) rfl (fun c1 => ?_) (fun c1 => ?_)
  ·
    refine k_goto S dL_law_1026 (tgt := 1408) (by decide) ?_
    exact k_widen (by omega) (by omega) (zLh_f _ _ _ (kk _ hJ))
  ·
    refine k_aload3 S dL_law_1014 (n := 1015) rfl ?_
    refine k_iconst S dL_law_1015 (v := 0) (by decide) (n := 1016) rfl ?_
    refine k_lald S dL_law_1016 (by rw [hn]; decide) (by decide) (by decide) (n := 1017) rfl ?_
    refine k_iload6 S dL_law_1017 (n := 1019) rfl ?_
    refine k_i2l S dL_law_1019 (n := 1020) rfl ?_
    refine k_lcmp S dL_law_1020 (n := 1021) rfl ?_
    refine k_if_eq S dL_law_1021 (tgt := 1026) (by decide) (n := 1024) rfl (fun _ => ?_) (fun h9 => absurd ((lg_cmp_eq _ _).mpr (ho c1)) h9)
    refine k_goto S dL_law_1026 (tgt := 1408) (by decide) ?_
    exact k_widen (by omega) (by omega) (zLh_f _ _ _ (kk _ hJ))
set_option maxRecDepth 100000 in
set_option maxHeartbeats 4000000 in
theorem w_isWide {x : zX} {g : zG} {μ : zM} {b LL i ce sl : Nat} {sc : Nat → Int32} (S : zS x g 8 cL_law RL) (hn : zn g = 32) (V : zScr9 x g b LL sc) (hL : LL ≤ 2560) (hi : i + 5 ≤ LL) (hce : ce + 2 ≤ 618947) (hsl : sl + 12 ≤ 7239262) {s d c n w : Nat} {ph fs : Nat → Nat} (J : zJ μ s d c n w ph fs) (kk : ∀ ν : zM, zJx ν → zK x g room_1 8 (ce + 2) (sl + 12) 1408 (zLh b g i) [] ν) : zK x g room_1 8 ce sl 1029 (zLh b g i) [] μ := by
  show zK x g room_1 8 ce sl 1029 [some (.ref b), some (.ref (za g 0)), some (.ref (za g 21)), some (.ref (za g 31)), some (.int (nI i)), none, none, none] [] μ
  refine k_aload1 S dL_law_1029 (n := 1030) rfl ?_
  refine k_aload0 S dL_law_1030 (n := 1031) rfl ?_
  refine k_iload4 S dL_law_1031 (n := 1033) rfl ?_
  refine k_iconst S dL_law_1033 (v := 1) (by decide) (n := 1034) rfl ?_
  refine k_iadd S dL_law_1034 (n := 1035) rfl ?_
  refine k_sld (j := (i + 1)) S V dL_law_1035 (nI_add i 1) (by omega) hL (n := 1036) rfl ?_
  refine k_aload3 S dL_law_1036 (n := 1037) rfl ?_
  refine k_callH (As := [.ref (za g 0), .int (sc (i + 1)), .ref (za g 31)]) (rest := []) S (c_L_isWide hn (c_X3_isWide J.hd J.d60 J.hph J.hc J.c10) (fun v ν h => by obtain ⟨k, -, -, e, -⟩ := h; exact ⟨_, e⟩) (fun E ν h => h.2.1)) mv_L_isWide m_612 dL_law_1037 rfl rfl ⟨by decide, by decide⟩ rfl rfl (Nat.le_of_ble_eq_true rfl) ⟨by show ce + 1 ≤ 618947; omega, by show sl + 6 ≤ 7239262; omega⟩ (n := 1040) rfl (fun _ _ h => h.elim) (fun v9 ν9 h9 => ?_)
  obtain ⟨k, e9, rm, RT4, hrm, hC, hO⟩ := pr_isWide (l := xl x) hn J h9
  subst e9
  show zK x g room_1 8 (ce + 1) (sl + 6) 1040 [some (.ref b), some (.ref (za g 0)), some (.ref (za g 21)), some (.ref (za g 31)), some (.int (nI i)), none, none, none] [.int k] ν9
  refine k_istore5 S dL_law_1040 (by decide) rfl (n := 1042) rfl ?_
  refine k_aload2 S dL_law_1042 (n := 1043) rfl ?_
  refine k_aload0 S dL_law_1043 (n := 1044) rfl ?_
  refine k_iload4 S dL_law_1044 (n := 1046) rfl ?_
  refine k_iconst S dL_law_1046 (v := 1) (by decide) (n := 1047) rfl ?_
  refine k_iadd S dL_law_1047 (n := 1048) rfl ?_
  refine k_sld (j := (i + 1)) S V dL_law_1048 (nI_add i 1) (by omega) hL (n := 1049) rfl ?_
  refine k_callV (As := [.int (sc (i + 1))]) (rest := []) (p := 21) S hC mv_X4_isWide m_896 dL_law_1049 hrm.1 hrm.2.1 ⟨hrm.2.2.1, by have := hrm.2.2.2; show 8 + (2 + 11) + rm.locals ≤ 436; omega⟩ (by rw [hn]; decide) (by decide) (ci := 4) rfl rfl rfl (Nat.le_of_ble_eq_true rfl) ⟨by show ce + 1 + 0 ≤ 618947; omega, by show sl + 6 + 0 ≤ 7239262; omega⟩ (n := 1052) rfl (fun _ _ h => h.elim) (fun v8 ν8 h8 => ?_)
  obtain ⟨a4, e8, ht, ho, hJ⟩ := hO _ _ h8
  subst e8
  show zK x g room_1 8 (ce + 1) (sl + 6) 1052 [some (.ref b), some (.ref (za g 0)), some (.ref (za g 21)), some (.ref (za g 31)), some (.int (nI i)), some (.int k), none, none] [.int a4] ν8
  refine k_istore6 S dL_law_1052 (by decide) rfl (n := 1054) rfl ?_
  refine k_aload2 S dL_law_1054 (n := 1055) rfl ?_
  refine k_callV (As := []) (rest := []) (p := 21) S (c_X4_thrown hn) mv_X4_thrown m_746 dL_law_1055 rfl rfl ⟨by decide, by decide⟩ (by rw [hn]; decide) (by decide) (ci := 4) rfl rfl rfl (Nat.le_of_ble_eq_true rfl) ⟨by show ce + 1 + 0 ≤ 618947; omega, by show sl + 6 + 0 ≤ 7239262; omega⟩ (n := 1058) rfl (fun _ _ h => h.elim) (fun v7 ν7 h7 => ?_)
  rw [h7.1, h7.2, ht]
  show zK x g room_1 8 (ce + 1) (sl + 6) 1058 [some (.ref b), some (.ref (za g 0)), some (.ref (za g 21)), some (.ref (za g 31)), some (.int (nI i)), some (.int k), some (.int a4), none] [.int k] ν8
  refine k_iload5 S dL_law_1058 (n := 1060) rfl ?_
  refine k_icmp_eq S dL_law_1060 (tgt := 1065) (by decide) (n := 1063) rfl (fun _ => ?_) (fun h9 => absurd (rfl) h9)
  refine k_iload5 S dL_law_1065 (n := 1067) rfl ?_
  refine k_if_ne S dL_law_1067 (tgt := 1089) (by decide) (n := 1070) rfl (fun c1 => ?_) (fun c1 => ?_)
  ·
    refine k_goto S dL_law_1089 (tgt := 1408) (by decide) ?_
    exact k_widen (by omega) (by omega) (zLh_f _ _ _ (kk _ hJ))
  ·
    refine k_aload3 S dL_law_1070 (n := 1071) rfl ?_
    refine k_iconst S dL_law_1071 (v := 0) (by decide) (n := 1072) rfl ?_
    refine k_lald S dL_law_1072 (by rw [hn]; decide) (by decide) (by decide) (n := 1073) rfl ?_
    refine k_iload6 S dL_law_1073 (n := 1075) rfl ?_
    have hJ2 : zK x g room_1 8 (ce + 1) (sl + 6) 1083 [some (.ref b), some (.ref (za g 0)), some (.ref (za g 21)), some (.ref (za g 31)), some (.int (nI i)), some (.int k), some (.int a4), none] [.long ((if a4 = 0 then (0 : Int64) else (1 : Int64))), .long (ν8.2 0)] ν8 := by
      refine k_lcmp S dL_law_1083 (n := 1084) rfl ?_
      refine k_if_eq S dL_law_1084 (tgt := 1089) (by decide) (n := 1087) rfl (fun _ => ?_) (fun h9 => absurd ((lg_cmp_eq _ _).mpr (ho c1)) h9)
      refine k_goto S dL_law_1089 (tgt := 1408) (by decide) ?_
      exact k_widen (by omega) (by omega) (zLh_f _ _ _ (kk _ hJ))
    refine k_if_eq S dL_law_1075 (tgt := 1082) (by decide) (n := 1078) rfl (fun c1 => ?_) (fun c1 => ?_)
    ·
      refine k_lconst S dL_law_1082 (v := 0) (by decide) (n := 1083) rfl ?_
      rw [if_pos c1] at hJ2
      exact hJ2
    ·
      refine k_lconst S dL_law_1078 (v := 1) (by decide) (n := 1079) rfl ?_
      refine k_goto S dL_law_1079 (tgt := 1083) (by decide) ?_
      rw [if_neg c1] at hJ2
      exact hJ2
set_option maxRecDepth 100000 in
set_option maxHeartbeats 4000000 in
theorem w_alarms {x : zX} {g : zG} {μ : zM} {b LL i ce sl : Nat} {sc : Nat → Int32} (S : zS x g 8 cL_law RL) (hn : zn g = 32) (V : zScr9 x g b LL sc) (hL : LL ≤ 2560) (hi : i + 5 ≤ LL) (hce : ce + 2 ≤ 618947) (hsl : sl + 12 ≤ 7239262) {s d c n w : Nat} {ph fs : Nat → Nat} (J : zJ μ s d c n w ph fs) (kk : ∀ ν : zM, zJx ν → zK x g room_1 8 (ce + 2) (sl + 12) 1408 (zLh b g i) [] ν) : zK x g room_1 8 ce sl 1092 (zLh b g i) [] μ := by
  have J2 := J.see (zNear.w7 μ (zaA μ ph d)).see
  show zK x g room_1 8 ce sl 1092 [some (.ref b), some (.ref (za g 0)), some (.ref (za g 21)), some (.ref (za g 31)), some (.int (nI i)), none, none, none] [] μ
  refine k_aload1 S dL_law_1092 (n := 1093) rfl ?_
  refine k_callV (As := []) (rest := []) (p := 0) S (c_X3_alarms J.hd J.d60 J.hph J.hc J.c10) mv_X3_alarms m_203 dL_law_1093 rfl rfl ⟨by decide, by decide⟩ (zlt S (by decide)) (by decide) (ci := 3) rfl rfl rfl (Nat.le_of_ble_eq_true rfl) ⟨by show ce + 0 ≤ 618947; omega, by show sl + 0 ≤ 7239262; omega⟩ (n := 1096) rfl (fun _ _ h => h.elim) (fun v9 ν9 h9 => ?_)
  rw [h9.1, h9.2]
  show zK x g room_1 8 ce sl 1096 [some (.ref b), some (.ref (za g 0)), some (.ref (za g 21)), some (.ref (za g 31)), some (.int (nI i)), none, none, none] [.int (zaK μ ph d)] (zset μ 7 (zaA μ ph d))
  refine k_aload2 S dL_law_1096 (n := 1097) rfl ?_
  refine k_callV (As := []) (rest := [.int (zaK μ ph d)]) (p := 21) S (c_X4_alarms hn J2.1 J2.rs) mv_X4_alarms m_900 dL_law_1097 rfl rfl ⟨by decide, by decide⟩ (by rw [hn]; decide) (by decide) (ci := 4) rfl rfl rfl (Nat.le_of_ble_eq_true rfl) ⟨by show ce + 0 ≤ 618947; omega, by show sl + 0 ≤ 7239262; omega⟩ (n := 1100) rfl (fun _ _ h => h.elim) (fun v8 ν8 h8 => ?_)
  obtain ⟨e8, h8⟩ := h8
  subst e8
  have hJ := J2.x.near h8
  show zK x g room_1 8 ce sl 1100 [some (.ref b), some (.ref (za g 0)), some (.ref (za g 21)), some (.ref (za g 31)), some (.int (nI i)), none, none, none] [.int (zaM (zset μ 7 (zaA μ ph d)) ph d s d), .int (zaK μ ph d)] ν8
  refine k_icmp_eq S dL_law_1100 (tgt := 1408) (by decide) (n := 1103) rfl (fun _ => ?_) (fun h7 => absurd (J.alarms.trans (zaM_near (zNear.w7 μ (zaA μ ph d)) ph d s d).symm) h7)
  exact k_widen (by omega) (by omega) (zLh_f _ _ _ (kk _ hJ))
set_option maxRecDepth 100000 in
set_option maxHeartbeats 4000000 in
theorem w_setWeight {x : zX} {g : zG} {μ : zM} {b LL i ce sl : Nat} {sc : Nat → Int32} (S : zS x g 8 cL_law RL) (hn : zn g = 32) (V : zScr9 x g b LL sc) (hL : LL ≤ 2560) (hi : i + 5 ≤ LL) (hce : ce + 2 ≤ 618947) (hsl : sl + 12 ≤ 7239262) {s d c n w : Nat} {ph fs : Nat → Nat} (J : zJ μ s d c n w ph fs) (kk : ∀ ν : zM, zJx ν → zK x g room_1 8 (ce + 2) (sl + 12) 1408 (zLh b g i) [] ν) : zK x g room_1 8 ce sl 1105 (zLh b g i) [] μ := by
  show zK x g room_1 8 ce sl 1105 [some (.ref b), some (.ref (za g 0)), some (.ref (za g 21)), some (.ref (za g 31)), some (.int (nI i)), none, none, none] [] μ
  refine k_aload1 S dL_law_1105 (n := 1106) rfl ?_
  refine k_aload0 S dL_law_1106 (n := 1107) rfl ?_
  refine k_iload4 S dL_law_1107 (n := 1109) rfl ?_
  refine k_iconst S dL_law_1109 (v := 1) (by decide) (n := 1110) rfl ?_
  refine k_iadd S dL_law_1110 (n := 1111) rfl ?_
  refine k_sld (j := (i + 1)) S V dL_law_1111 (nI_add i 1) (by omega) hL (n := 1112) rfl ?_
  refine k_aload3 S dL_law_1112 (n := 1113) rfl ?_
  refine k_callH (As := [.ref (za g 0), .int (sc (i + 1)), .ref (za g 31)]) (rest := []) S (c_L_setWeight hn (c_X3_setWeight) (fun v ν h => ⟨_, h.2.1⟩) (fun E ν h => h.2.1)) mv_L_setWeight m_619 dL_law_1113 rfl rfl ⟨by decide, by decide⟩ rfl rfl (Nat.le_of_ble_eq_true rfl) ⟨by show ce + 1 ≤ 618947; omega, by show sl + 6 ≤ 7239262; omega⟩ (n := 1116) rfl (fun _ _ h => h.elim) (fun v9 ν9 h9 => ?_)
  obtain ⟨k, e9, rm, RT4, hrm, hC, hO⟩ := pr_setWeight (l := xl x) hn J h9
  subst e9
  show zK x g room_1 8 (ce + 1) (sl + 6) 1116 [some (.ref b), some (.ref (za g 0)), some (.ref (za g 21)), some (.ref (za g 31)), some (.int (nI i)), none, none, none] [.int k] ν9
  refine k_istore5 S dL_law_1116 (by decide) rfl (n := 1118) rfl ?_
  refine k_aload2 S dL_law_1118 (n := 1119) rfl ?_
  refine k_aload0 S dL_law_1119 (n := 1120) rfl ?_
  refine k_iload4 S dL_law_1120 (n := 1122) rfl ?_
  refine k_iconst S dL_law_1122 (v := 1) (by decide) (n := 1123) rfl ?_
  refine k_iadd S dL_law_1123 (n := 1124) rfl ?_
  refine k_sld (j := (i + 1)) S V dL_law_1124 (nI_add i 1) (by omega) hL (n := 1125) rfl ?_
  refine k_callV (As := [.int (sc (i + 1))]) (rest := []) (p := 21) S hC mv_X4_setWeight m_904 dL_law_1125 hrm.1 hrm.2.1 ⟨hrm.2.2.1, by have := hrm.2.2.2; show 8 + (3 + 11) + rm.locals ≤ 436; omega⟩ (by rw [hn]; decide) (by decide) (ci := 4) rfl rfl rfl (Nat.le_of_ble_eq_true rfl) ⟨by show ce + 1 + 0 ≤ 618947; omega, by show sl + 6 + 0 ≤ 7239262; omega⟩ (n := 1128) rfl (fun _ _ h => h.elim) (fun v8 ν8 h8 => ?_)
  obtain ⟨a4, e8, ht, ho, hJ⟩ := hO _ _ h8
  subst e8
  show zK x g room_1 8 (ce + 1) (sl + 6) 1128 [some (.ref b), some (.ref (za g 0)), some (.ref (za g 21)), some (.ref (za g 31)), some (.int (nI i)), some (.int k), none, none] [.int a4] ν8
  refine k_istore6 S dL_law_1128 (by decide) rfl (n := 1130) rfl ?_
  refine k_aload2 S dL_law_1130 (n := 1131) rfl ?_
  refine k_callV (As := []) (rest := []) (p := 21) S (c_X4_thrown hn) mv_X4_thrown m_746 dL_law_1131 rfl rfl ⟨by decide, by decide⟩ (by rw [hn]; decide) (by decide) (ci := 4) rfl rfl rfl (Nat.le_of_ble_eq_true rfl) ⟨by show ce + 1 + 0 ≤ 618947; omega, by show sl + 6 + 0 ≤ 7239262; omega⟩ (n := 1134) rfl (fun _ _ h => h.elim) (fun v7 ν7 h7 => ?_)
  rw [h7.1, h7.2, ht]
  show zK x g room_1 8 (ce + 1) (sl + 6) 1134 [some (.ref b), some (.ref (za g 0)), some (.ref (za g 21)), some (.ref (za g 31)), some (.int (nI i)), some (.int k), some (.int a4), none] [.int k] ν8
  refine k_iload5 S dL_law_1134 (n := 1136) rfl ?_
  refine k_icmp_eq S dL_law_1136 (tgt := 1141) (by decide) (n := 1139) rfl (fun _ => ?_) (fun h9 => absurd (rfl) h9)
  refine k_iload5 S dL_law_1141 (n := 1143) rfl ?_
  refine k_if_ne S dL_law_1143 (tgt := 1158) (by decide) (n := 1146) rfl (fun c1 => ?_) (fun c1 => ?_)
  ·
    refine k_goto S dL_law_1158 (tgt := 1408) (by decide) ?_
    exact k_widen (by omega) (by omega) (zLh_f _ _ _ (kk _ hJ))
  ·
    refine k_aload3 S dL_law_1146 (n := 1147) rfl ?_
    refine k_iconst S dL_law_1147 (v := 0) (by decide) (n := 1148) rfl ?_
    refine k_lald S dL_law_1148 (by rw [hn]; decide) (by decide) (by decide) (n := 1149) rfl ?_
    refine k_iload6 S dL_law_1149 (n := 1151) rfl ?_
    refine k_i2l S dL_law_1151 (n := 1152) rfl ?_
    refine k_lcmp S dL_law_1152 (n := 1153) rfl ?_
    refine k_if_eq S dL_law_1153 (tgt := 1158) (by decide) (n := 1156) rfl (fun _ => ?_) (fun h9 => absurd ((lg_cmp_eq _ _).mpr (ho c1)) h9)
    refine k_goto S dL_law_1158 (tgt := 1408) (by decide) ?_
    exact k_widen (by omega) (by omega) (zLh_f _ _ _ (kk _ hJ))
set_option maxRecDepth 100000 in
set_option maxHeartbeats 4000000 in
theorem w_weighted {x : zX} {g : zG} {μ : zM} {b LL i ce sl : Nat} {sc : Nat → Int32} (S : zS x g 8 cL_law RL) (hn : zn g = 32) (V : zScr9 x g b LL sc) (hL : LL ≤ 2560) (hi : i + 5 ≤ LL) (hce : ce + 2 ≤ 618947) (hsl : sl + 12 ≤ 7239262) {s d c n w : Nat} {ph fs : Nat → Nat} (J : zJ μ s d c n w ph fs) (kk : ∀ ν : zM, zJx ν → zK x g room_1 8 (ce + 2) (sl + 12) 1408 (zLh b g i) [] ν) : zK x g room_1 8 ce sl 1161 (zLh b g i) [] μ := by
  show zK x g room_1 8 ce sl 1161 [some (.ref b), some (.ref (za g 0)), some (.ref (za g 21)), some (.ref (za g 31)), some (.int (nI i)), none, none, none] [] μ
  refine k_aload1 S dL_law_1161 (n := 1162) rfl ?_
  refine k_aload0 S dL_law_1162 (n := 1163) rfl ?_
  refine k_iload4 S dL_law_1163 (n := 1165) rfl ?_
  refine k_iconst S dL_law_1165 (v := 1) (by decide) (n := 1166) rfl ?_
  refine k_iadd S dL_law_1166 (n := 1167) rfl ?_
  refine k_sld (j := (i + 1)) S V dL_law_1167 (nI_add i 1) (by omega) hL (n := 1168) rfl ?_
  refine k_aload3 S dL_law_1168 (n := 1169) rfl ?_
  refine k_callH (As := [.ref (za g 0), .int (sc (i + 1)), .ref (za g 31)]) (rest := []) S (c_L_weighted hn (c_X3_weighted J.hd J.d60 J.hph J.hc J.c10 J.hfs J.hfi) (fun v ν h => by obtain ⟨k, -, -, -, e, -⟩ := h; exact ⟨_, e⟩) (fun E ν h => h.1.elim (fun q => Or.inl q.2) (fun q => by obtain ⟨_, _, _, _, e⟩ := q; exact Or.inr e))) mv_L_weighted m_627 dL_law_1169 rfl rfl ⟨by decide, by decide⟩ rfl rfl (Nat.le_of_ble_eq_true rfl) ⟨by show ce + 2 ≤ 618947; omega, by show sl + 12 ≤ 7239262; omega⟩ (n := 1172) rfl (fun _ _ h => h.elim) (fun v9 ν9 h9 => ?_)
  obtain ⟨k, e9, rm, RT4, hrm, hC, hO⟩ := pr_weighted (l := xl x) hn J h9
  subst e9
  show zK x g room_1 8 (ce + 2) (sl + 12) 1172 [some (.ref b), some (.ref (za g 0)), some (.ref (za g 21)), some (.ref (za g 31)), some (.int (nI i)), none, none, none] [.int k] ν9
  refine k_istore5 S dL_law_1172 (by decide) rfl (n := 1174) rfl ?_
  refine k_aload2 S dL_law_1174 (n := 1175) rfl ?_
  refine k_aload0 S dL_law_1175 (n := 1176) rfl ?_
  refine k_iload4 S dL_law_1176 (n := 1178) rfl ?_
  refine k_iconst S dL_law_1178 (v := 1) (by decide) (n := 1179) rfl ?_
  refine k_iadd S dL_law_1179 (n := 1180) rfl ?_
  refine k_sld (j := (i + 1)) S V dL_law_1180 (nI_add i 1) (by omega) hL (n := 1181) rfl ?_
  refine k_callV (As := [.int (sc (i + 1))]) (rest := []) (p := 21) S hC mv_X4_weighted m_908 dL_law_1181 hrm.1 hrm.2.1 ⟨hrm.2.2.1, by have := hrm.2.2.2; show 8 + (5 + 11) + rm.locals ≤ 436; omega⟩ (by rw [hn]; decide) (by decide) (ci := 4) rfl rfl rfl (Nat.le_of_ble_eq_true rfl) ⟨by show ce + 2 + 0 ≤ 618947; omega, by show sl + 12 + 0 ≤ 7239262; omega⟩ (n := 1184) rfl (fun _ _ h => h.elim) (fun v8 ν8 h8 => ?_)
  obtain ⟨a4, e8, ht, ho, hJ⟩ := hO _ _ h8
  subst e8
  show zK x g room_1 8 (ce + 2) (sl + 12) 1184 [some (.ref b), some (.ref (za g 0)), some (.ref (za g 21)), some (.ref (za g 31)), some (.int (nI i)), some (.int k), none, none] [.int a4] ν8
  refine k_istore6 S dL_law_1184 (by decide) rfl (n := 1186) rfl ?_
  refine k_aload2 S dL_law_1186 (n := 1187) rfl ?_
  refine k_callV (As := []) (rest := []) (p := 21) S (c_X4_thrown hn) mv_X4_thrown m_746 dL_law_1187 rfl rfl ⟨by decide, by decide⟩ (by rw [hn]; decide) (by decide) (ci := 4) rfl rfl rfl (Nat.le_of_ble_eq_true rfl) ⟨by show ce + 2 + 0 ≤ 618947; omega, by show sl + 12 + 0 ≤ 7239262; omega⟩ (n := 1190) rfl (fun _ _ h => h.elim) (fun v7 ν7 h7 => ?_)
  rw [h7.1, h7.2, ht]
  show zK x g room_1 8 (ce + 2) (sl + 12) 1190 [some (.ref b), some (.ref (za g 0)), some (.ref (za g 21)), some (.ref (za g 31)), some (.int (nI i)), some (.int k), some (.int a4), none] [.int k] ν8
  refine k_iload5 S dL_law_1190 (n := 1192) rfl ?_
  refine k_icmp_eq S dL_law_1192 (tgt := 1197) (by decide) (n := 1195) rfl (fun _ => ?_) (fun h9 => absurd (rfl) h9)
  refine k_iload5 S dL_law_1197 (n := 1199) rfl ?_
  refine k_if_ne S dL_law_1199 (tgt := 1214) (by decide) (n := 1202) rfl (fun c1 => ?_) (fun c1 => ?_)
  ·
    refine k_goto S dL_law_1214 (tgt := 1408) (by decide) ?_
    exact k_widen (by omega) (by omega) (zLh_f _ _ _ (kk _ hJ))
  ·
    refine k_aload3 S dL_law_1202 (n := 1203) rfl ?_
    refine k_iconst S dL_law_1203 (v := 0) (by decide) (n := 1204) rfl ?_
    refine k_lald S dL_law_1204 (by rw [hn]; decide) (by decide) (by decide) (n := 1205) rfl ?_
    refine k_iload6 S dL_law_1205 (n := 1207) rfl ?_
    refine k_i2l S dL_law_1207 (n := 1208) rfl ?_
    refine k_lcmp S dL_law_1208 (n := 1209) rfl ?_
    refine k_if_eq S dL_law_1209 (tgt := 1214) (by decide) (n := 1212) rfl (fun _ => ?_) (fun h9 => absurd ((lg_cmp_eq _ _).mpr (ho c1)) h9)
    refine k_goto S dL_law_1214 (tgt := 1408) (by decide) ?_
    exact k_widen (by omega) (by omega) (zLh_f _ _ _ (kk _ hJ))
set_option maxRecDepth 100000 in
set_option maxHeartbeats 4000000 in
theorem w_cumulative {x : zX} {g : zG} {μ : zM} {b LL i ce sl : Nat} {sc : Nat → Int32} (S : zS x g 8 cL_law RL) (hn : zn g = 32) (V : zScr9 x g b LL sc) (hL : LL ≤ 2560) (hi : i + 5 ≤ LL) (hce : ce + 2 ≤ 618947) (hsl : sl + 12 ≤ 7239262) {s d c n w : Nat} {ph fs : Nat → Nat} (J : zJ μ s d c n w ph fs) (kk : ∀ ν : zM, zJx ν → zK x g room_1 8 (ce + 2) (sl + 12) 1408 (zLh b g i) [] ν) : zK x g room_1 8 ce sl 1217 (zLh b g i) [] μ := by
  show zK x g room_1 8 ce sl 1217 [some (.ref b), some (.ref (za g 0)), some (.ref (za g 21)), some (.ref (za g 31)), some (.int (nI i)), none, none, none] [] μ
  refine k_aload1 S dL_law_1217 (n := 1218) rfl ?_
  refine k_aload0 S dL_law_1218 (n := 1219) rfl ?_
  refine k_iload4 S dL_law_1219 (n := 1221) rfl ?_
  refine k_iconst S dL_law_1221 (v := 1) (by decide) (n := 1222) rfl ?_
  refine k_iadd S dL_law_1222 (n := 1223) rfl ?_
  refine k_sld (j := (i + 1)) S V dL_law_1223 (nI_add i 1) (by omega) hL (n := 1224) rfl ?_
  refine k_aload0 S dL_law_1224 (n := 1225) rfl ?_
  refine k_iload4 S dL_law_1225 (n := 1227) rfl ?_
  refine k_iconst S dL_law_1227 (v := 2) (by decide) (n := 1228) rfl ?_
  refine k_iadd S dL_law_1228 (n := 1229) rfl ?_
  refine k_sld (j := (i + 2)) S V dL_law_1229 (nI_add i 2) (by omega) hL (n := 1230) rfl ?_
  have hJ2 : zK x g room_1 8 ce sl 1238 [some (.ref b), some (.ref (za g 0)), some (.ref (za g 21)), some (.ref (za g 31)), some (.int (nI i)), none, none, none] [.int ((if (sc (i + 2)) = 0 then (0 : Int32) else (1 : Int32))), .int (sc (i + 1)), .ref (za g 0)] μ := by
    refine k_aload3 S dL_law_1238 (n := 1239) rfl ?_
    refine k_callH (As := [.ref (za g 0), .int (sc (i + 1)), .int ((if (sc (i + 2)) = 0 then (0 : Int32) else (1 : Int32))), .ref (za g 31)]) (rest := []) S (c_L_cumulative hn (c_X3_cumulative J.hd J.d60 J.hph J.hc J.c10 J.hfs J.hfi) (fun v ν h => by obtain ⟨k, -, -, -, e, -⟩ := h; exact ⟨_, e⟩) (fun E ν h => h.1.elim (fun q => Or.inl q.2) (fun q => by obtain ⟨_, _, _, _, e⟩ := q; exact Or.inr e))) mv_L_cumulative m_642 dL_law_1239 rfl rfl ⟨by decide, by decide⟩ rfl rfl (Nat.le_of_ble_eq_true rfl) ⟨by show ce + 2 ≤ 618947; omega, by show sl + 12 ≤ 7239262; omega⟩ (n := 1242) rfl (fun _ _ h => h.elim) (fun v9 ν9 h9 => ?_)
    obtain ⟨k, e9, rm, RT4, hrm, hC, hO⟩ := pr_cumulative (l := xl x) hn J h9
    subst e9
    show zK x g room_1 8 (ce + 2) (sl + 12) 1242 [some (.ref b), some (.ref (za g 0)), some (.ref (za g 21)), some (.ref (za g 31)), some (.int (nI i)), none, none, none] [.int k] ν9
    refine k_istore5 S dL_law_1242 (by decide) rfl (n := 1244) rfl ?_
    refine k_aload2 S dL_law_1244 (n := 1245) rfl ?_
    refine k_aload0 S dL_law_1245 (n := 1246) rfl ?_
    refine k_iload4 S dL_law_1246 (n := 1248) rfl ?_
    refine k_iconst S dL_law_1248 (v := 1) (by decide) (n := 1249) rfl ?_
    refine k_iadd S dL_law_1249 (n := 1250) rfl ?_
    refine k_sld (j := (i + 1)) S V dL_law_1250 (nI_add i 1) (by omega) hL (n := 1251) rfl ?_
    refine k_aload0 S dL_law_1251 (n := 1252) rfl ?_
    refine k_iload4 S dL_law_1252 (n := 1254) rfl ?_
    refine k_iconst S dL_law_1254 (v := 2) (by decide) (n := 1255) rfl ?_
    refine k_iadd S dL_law_1255 (n := 1256) rfl ?_
    refine k_sld (j := (i + 2)) S V dL_law_1256 (nI_add i 2) (by omega) hL (n := 1257) rfl ?_
    have hJ4 : zK x g room_1 8 (ce + 2) (sl + 12) 1265 [some (.ref b), some (.ref (za g 0)), some (.ref (za g 21)), some (.ref (za g 31)), some (.int (nI i)), some (.int k), none, none] [.int ((if (sc (i + 2)) = 0 then (0 : Int32) else (1 : Int32))), .int (sc (i + 1)), .ref (za g 21)] ν9 := by
      refine k_callV (As := [.int (sc (i + 1)), .int ((if (sc (i + 2)) = 0 then (0 : Int32) else (1 : Int32)))]) (rest := []) (p := 21) S hC mv_X4_cumulative m_917 dL_law_1265 hrm.1 hrm.2.1 ⟨hrm.2.2.1, by have := hrm.2.2.2; show 8 + (7 + 11) + rm.locals ≤ 436; omega⟩ (by rw [hn]; decide) (by decide) (ci := 4) rfl rfl rfl (Nat.le_of_ble_eq_true rfl) ⟨by show ce + 2 + 0 ≤ 618947; omega, by show sl + 12 + 0 ≤ 7239262; omega⟩ (n := 1268) rfl (fun _ _ h => h.elim) (fun v8 ν8 h8 => ?_)
      obtain ⟨a4, e8, ht, ho, hJ⟩ := hO _ _ h8
      subst e8
      show zK x g room_1 8 (ce + 2) (sl + 12) 1268 [some (.ref b), some (.ref (za g 0)), some (.ref (za g 21)), some (.ref (za g 31)), some (.int (nI i)), some (.int k), none, none] [.int a4] ν8
      refine k_istore6 S dL_law_1268 (by decide) rfl (n := 1270) rfl ?_
      refine k_aload2 S dL_law_1270 (n := 1271) rfl ?_
      refine k_callV (As := []) (rest := []) (p := 21) S (c_X4_thrown hn) mv_X4_thrown m_746 dL_law_1271 rfl rfl ⟨by decide, by decide⟩ (by rw [hn]; decide) (by decide) (ci := 4) rfl rfl rfl (Nat.le_of_ble_eq_true rfl) ⟨by show ce + 2 + 0 ≤ 618947; omega, by show sl + 12 + 0 ≤ 7239262; omega⟩ (n := 1274) rfl (fun _ _ h => h.elim) (fun v7 ν7 h7 => ?_)
      rw [h7.1, h7.2, ht]
      show zK x g room_1 8 (ce + 2) (sl + 12) 1274 [some (.ref b), some (.ref (za g 0)), some (.ref (za g 21)), some (.ref (za g 31)), some (.int (nI i)), some (.int k), some (.int a4), none] [.int k] ν8
      refine k_iload5 S dL_law_1274 (n := 1276) rfl ?_
      refine k_icmp_eq S dL_law_1276 (tgt := 1281) (by decide) (n := 1279) rfl (fun _ => ?_) (fun h9 => absurd (rfl) h9)
      refine k_iload5 S dL_law_1281 (n := 1283) rfl ?_
      refine k_if_ne S dL_law_1283 (tgt := 1298) (by decide) (n := 1286) rfl (fun c1 => ?_) (fun c1 => ?_)
      ·
        refine k_goto S dL_law_1298 (tgt := 1408) (by decide) ?_
        exact k_widen (by omega) (by omega) (zLh_f _ _ _ (kk _ hJ))
      ·
        refine k_aload3 S dL_law_1286 (n := 1287) rfl ?_
        refine k_iconst S dL_law_1287 (v := 0) (by decide) (n := 1288) rfl ?_
        refine k_lald S dL_law_1288 (by rw [hn]; decide) (by decide) (by decide) (n := 1289) rfl ?_
        refine k_iload6 S dL_law_1289 (n := 1291) rfl ?_
        refine k_i2l S dL_law_1291 (n := 1292) rfl ?_
        refine k_lcmp S dL_law_1292 (n := 1293) rfl ?_
        refine k_if_eq S dL_law_1293 (tgt := 1298) (by decide) (n := 1296) rfl (fun _ => ?_) (fun h9 => absurd ((lg_cmp_eq _ _).mpr (ho c1)) h9)
        refine k_goto S dL_law_1298 (tgt := 1408) (by decide) ?_
        exact k_widen (by omega) (by omega) (zLh_f _ _ _ (kk _ hJ))
    refine k_if_eq S dL_law_1257 (tgt := 1264) (by decide) (n := 1260) rfl (fun c3 => ?_) (fun c3 => ?_)
    ·
      refine k_iconst S dL_law_1264 (v := 0) (by decide) (n := 1265) rfl ?_
      rw [if_pos c3] at hJ4
      exact hJ4
    ·
      refine k_iconst S dL_law_1260 (v := 1) (by decide) (n := 1261) rfl ?_
      refine k_goto S dL_law_1261 (tgt := 1265) (by decide) ?_
      rw [if_neg c3] at hJ4
      exact hJ4
  refine k_if_eq S dL_law_1230 (tgt := 1237) (by decide) (n := 1233) rfl (fun c1 => ?_) (fun c1 => ?_)
  ·
    refine k_iconst S dL_law_1237 (v := 0) (by decide) (n := 1238) rfl ?_
    rw [if_pos c1] at hJ2
    exact hJ2
  ·
    refine k_iconst S dL_law_1233 (v := 1) (by decide) (n := 1234) rfl ?_
    refine k_goto S dL_law_1234 (tgt := 1238) (by decide) ?_
    rw [if_neg c1] at hJ2
    exact hJ2
set_option maxRecDepth 100000 in
set_option maxHeartbeats 4000000 in
theorem w_capability {x : zX} {g : zG} {μ : zM} {b LL i ce sl : Nat} {sc : Nat → Int32} (S : zS x g 8 cL_law RL) (hn : zn g = 32) (V : zScr9 x g b LL sc) (hL : LL ≤ 2560) (hi : i + 5 ≤ LL) (hce : ce + 2 ≤ 618947) (hsl : sl + 12 ≤ 7239262) {s d c n w : Nat} {ph fs : Nat → Nat} (J : zJ μ s d c n w ph fs) (kk : ∀ ν : zM, zJx ν → zK x g room_1 8 (ce + 2) (sl + 12) 1408 (zLh b g i) [] ν) : zK x g room_1 8 ce sl 1301 (zLh b g i) [] μ := by
  show zK x g room_1 8 ce sl 1301 [some (.ref b), some (.ref (za g 0)), some (.ref (za g 21)), some (.ref (za g 31)), some (.int (nI i)), none, none, none] [] μ
  refine k_aload1 S dL_law_1301 (n := 1302) rfl ?_
  refine k_aload0 S dL_law_1302 (n := 1303) rfl ?_
  refine k_iload4 S dL_law_1303 (n := 1305) rfl ?_
  refine k_iconst S dL_law_1305 (v := 1) (by decide) (n := 1306) rfl ?_
  refine k_iadd S dL_law_1306 (n := 1307) rfl ?_
  refine k_sld (j := (i + 1)) S V dL_law_1307 (nI_add i 1) (by omega) hL (n := 1308) rfl ?_
  refine k_aload0 S dL_law_1308 (n := 1309) rfl ?_
  refine k_iload4 S dL_law_1309 (n := 1311) rfl ?_
  refine k_iconst S dL_law_1311 (v := 2) (by decide) (n := 1312) rfl ?_
  refine k_iadd S dL_law_1312 (n := 1313) rfl ?_
  refine k_sld (j := (i + 2)) S V dL_law_1313 (nI_add i 2) (by omega) hL (n := 1314) rfl ?_
  refine k_aload0 S dL_law_1314 (n := 1315) rfl ?_
  refine k_iload4 S dL_law_1315 (n := 1317) rfl ?_
  refine k_iconst S dL_law_1317 (v := 3) (by decide) (n := 1318) rfl ?_
  refine k_iadd S dL_law_1318 (n := 1319) rfl ?_
  refine k_sld (j := (i + 3)) S V dL_law_1319 (nI_add i 3) (by omega) hL (n := 1320) rfl ?_
  refine k_aload0 S dL_law_1320 (n := 1321) rfl ?_
  refine k_iload4 S dL_law_1321 (n := 1323) rfl ?_
  refine k_iconst S dL_law_1323 (v := 4) (by decide) (n := 1324) rfl ?_
  refine k_iadd S dL_law_1324 (n := 1325) rfl ?_
  refine k_sld (j := (i + 4)) S V dL_law_1325 (nI_add i 4) (by omega) hL (n := 1326) rfl ?_
  have hJ2 : zK x g room_1 8 ce sl 1334 [some (.ref b), some (.ref (za g 0)), some (.ref (za g 21)), some (.ref (za g 31)), some (.int (nI i)), none, none, none] [.int ((if (sc (i + 4)) = 0 then (0 : Int32) else (1 : Int32))), .int (sc (i + 3)), .int (sc (i + 2)), .int (sc (i + 1)), .ref (za g 0)] μ := by
    refine k_aload3 S dL_law_1334 (n := 1335) rfl ?_
    refine k_callH (As := [.ref (za g 0), .int (sc (i + 1)), .int (sc (i + 2)), .int (sc (i + 3)), .int ((if (sc (i + 4)) = 0 then (0 : Int32) else (1 : Int32))), .ref (za g 31)]) (rest := []) S (c_L_capability hn (c_X3_capability J.hc J.c10 J.hs J.s5) (fun v ν h => by obtain ⟨k, -, -, -, -, -, e, -⟩ := h; exact ⟨_, e⟩) (fun E ν h => h.1.elim (fun q => Or.inl q.2) (fun q => q.elim (fun z => Or.inr (Or.inl z.2.2)) (fun z => by obtain ⟨_, _, _, _, _, e⟩ := z; exact Or.inr (Or.inr e))))) mv_L_capability m_649 dL_law_1335 rfl rfl ⟨by decide, by decide⟩ rfl rfl (Nat.le_of_ble_eq_true rfl) ⟨by show ce + 2 ≤ 618947; omega, by show sl + 12 ≤ 7239262; omega⟩ (n := 1338) rfl (fun _ _ h => h.elim) (fun v9 ν9 h9 => ?_)
    obtain ⟨k, e9, rm, RT4, hrm, hC, hO⟩ := pr_capability (l := xl x) hn J h9
    subst e9
    show zK x g room_1 8 (ce + 2) (sl + 12) 1338 [some (.ref b), some (.ref (za g 0)), some (.ref (za g 21)), some (.ref (za g 31)), some (.int (nI i)), none, none, none] [.int k] ν9
    refine k_istore5 S dL_law_1338 (by decide) rfl (n := 1340) rfl ?_
    refine k_aload2 S dL_law_1340 (n := 1341) rfl ?_
    refine k_aload0 S dL_law_1341 (n := 1342) rfl ?_
    refine k_iload4 S dL_law_1342 (n := 1344) rfl ?_
    refine k_iconst S dL_law_1344 (v := 1) (by decide) (n := 1345) rfl ?_
    refine k_iadd S dL_law_1345 (n := 1346) rfl ?_
    refine k_sld (j := (i + 1)) S V dL_law_1346 (nI_add i 1) (by omega) hL (n := 1347) rfl ?_
    refine k_aload0 S dL_law_1347 (n := 1348) rfl ?_
    refine k_iload4 S dL_law_1348 (n := 1350) rfl ?_
    refine k_iconst S dL_law_1350 (v := 2) (by decide) (n := 1351) rfl ?_
    refine k_iadd S dL_law_1351 (n := 1352) rfl ?_
    refine k_sld (j := (i + 2)) S V dL_law_1352 (nI_add i 2) (by omega) hL (n := 1353) rfl ?_
    refine k_aload0 S dL_law_1353 (n := 1354) rfl ?_
    refine k_iload4 S dL_law_1354 (n := 1356) rfl ?_
    refine k_iconst S dL_law_1356 (v := 3) (by decide) (n := 1357) rfl ?_
    refine k_iadd S dL_law_1357 (n := 1358) rfl ?_
    refine k_sld (j := (i + 3)) S V dL_law_1358 (nI_add i 3) (by omega) hL (n := 1359) rfl ?_
    refine k_aload0 S dL_law_1359 (n := 1360) rfl ?_
    refine k_iload4 S dL_law_1360 (n := 1362) rfl ?_
    refine k_iconst S dL_law_1362 (v := 4) (by decide) (n := 1363) rfl ?_
    refine k_iadd S dL_law_1363 (n := 1364) rfl ?_
    refine k_sld (j := (i + 4)) S V dL_law_1364 (nI_add i 4) (by omega) hL (n := 1365) rfl ?_
    have hJ4 : zK x g room_1 8 (ce + 2) (sl + 12) 1373 [some (.ref b), some (.ref (za g 0)), some (.ref (za g 21)), some (.ref (za g 31)), some (.int (nI i)), some (.int k), none, none] [.int ((if (sc (i + 4)) = 0 then (0 : Int32) else (1 : Int32))), .int (sc (i + 3)), .int (sc (i + 2)), .int (sc (i + 1)), .ref (za g 21)] ν9 := by
      refine k_callV (As := [.int (sc (i + 1)), .int (sc (i + 2)), .int (sc (i + 3)), .int ((if (sc (i + 4)) = 0 then (0 : Int32) else (1 : Int32)))]) (rest := []) (p := 21) S hC mv_X4_capability m_921 dL_law_1373 hrm.1 hrm.2.1 ⟨hrm.2.2.1, by have := hrm.2.2.2; show 8 + (13 + 11) + rm.locals ≤ 436; omega⟩ (by rw [hn]; decide) (by decide) (ci := 4) rfl rfl rfl (Nat.le_of_ble_eq_true rfl) ⟨by show ce + 2 + 0 ≤ 618947; omega, by show sl + 12 + 0 ≤ 7239262; omega⟩ (n := 1376) rfl (fun _ _ h => h.elim) (fun v8 ν8 h8 => ?_)
      obtain ⟨a4, e8, ht, ho, hJ⟩ := hO _ _ h8
      subst e8
      show zK x g room_1 8 (ce + 2) (sl + 12) 1376 [some (.ref b), some (.ref (za g 0)), some (.ref (za g 21)), some (.ref (za g 31)), some (.int (nI i)), some (.int k), none, none] [.long a4] ν8
      refine k_lstore6 S dL_law_1376 (by decide) rfl (n := 1378) rfl ?_
      refine k_aload2 S dL_law_1378 (n := 1379) rfl ?_
      refine k_callV (As := []) (rest := []) (p := 21) S (c_X4_thrown hn) mv_X4_thrown m_746 dL_law_1379 rfl rfl ⟨by decide, by decide⟩ (by rw [hn]; decide) (by decide) (ci := 4) rfl rfl rfl (Nat.le_of_ble_eq_true rfl) ⟨by show ce + 2 + 0 ≤ 618947; omega, by show sl + 12 + 0 ≤ 7239262; omega⟩ (n := 1382) rfl (fun _ _ h => h.elim) (fun v7 ν7 h7 => ?_)
      rw [h7.1, h7.2, ht]
      show zK x g room_1 8 (ce + 2) (sl + 12) 1382 [some (.ref b), some (.ref (za g 0)), some (.ref (za g 21)), some (.ref (za g 31)), some (.int (nI i)), some (.int k), some (.long a4), none] [.int k] ν8
      refine k_iload5 S dL_law_1382 (n := 1384) rfl ?_
      refine k_icmp_eq S dL_law_1384 (tgt := 1389) (by decide) (n := 1387) rfl (fun _ => ?_) (fun h9 => absurd (rfl) h9)
      refine k_iload5 S dL_law_1389 (n := 1391) rfl ?_
      refine k_if_ne S dL_law_1391 (tgt := 1405) (by decide) (n := 1394) rfl (fun c1 => ?_) (fun c1 => ?_)
      ·
        refine k_goto S dL_law_1405 (tgt := 1408) (by decide) ?_
        exact k_widen (by omega) (by omega) (zLh_f _ _ _ (kk _ hJ))
      ·
        refine k_aload3 S dL_law_1394 (n := 1395) rfl ?_
        refine k_iconst S dL_law_1395 (v := 0) (by decide) (n := 1396) rfl ?_
        refine k_lald S dL_law_1396 (by rw [hn]; decide) (by decide) (by decide) (n := 1397) rfl ?_
        refine k_lload6 S dL_law_1397 (n := 1399) rfl ?_
        refine k_lcmp S dL_law_1399 (n := 1400) rfl ?_
        refine k_if_eq S dL_law_1400 (tgt := 1405) (by decide) (n := 1403) rfl (fun _ => ?_) (fun h9 => absurd ((lg_cmp_eq _ _).mpr (ho c1)) h9)
        refine k_goto S dL_law_1405 (tgt := 1408) (by decide) ?_
        exact k_widen (by omega) (by omega) (zLh_f _ _ _ (kk _ hJ))
    refine k_if_eq S dL_law_1365 (tgt := 1372) (by decide) (n := 1368) rfl (fun c3 => ?_) (fun c3 => ?_)
    ·
      refine k_iconst S dL_law_1372 (v := 0) (by decide) (n := 1373) rfl ?_
      rw [if_pos c3] at hJ4
      exact hJ4
    ·
      refine k_iconst S dL_law_1368 (v := 1) (by decide) (n := 1369) rfl ?_
      refine k_goto S dL_law_1369 (tgt := 1373) (by decide) ?_
      rw [if_neg c3] at hJ4
      exact hJ4
  refine k_if_eq S dL_law_1326 (tgt := 1333) (by decide) (n := 1329) rfl (fun c1 => ?_) (fun c1 => ?_)
  ·
    refine k_iconst S dL_law_1333 (v := 0) (by decide) (n := 1334) rfl ?_
    rw [if_pos c1] at hJ2
    exact hJ2
  ·
    refine k_iconst S dL_law_1329 (v := 1) (by decide) (n := 1330) rfl ?_
    refine k_goto S dL_law_1330 (tgt := 1334) (by decide) ?_
    rw [if_neg c1] at hJ2
    exact hJ2
