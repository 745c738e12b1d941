/-! LOCALS 13 TO 16 -/
section KL
variable {x : zX} {g : zG} {R : Room} {nL ce sl pc n : Nat} {L : List (Option Value)} {st : List Value} {μ : zM} {cc : ByteArray} {own : String}
theorem k_iload13 {a0 a1 a2 a3 a4 a5 a6 a7 a8 a9 a10 a11 a12 : Option Value} {t : List (Option Value)} {a : Int32} (S : zS x g nL cc own) (hd : decode cc pc = .ok (.iload 13, 2)) (hn : pc + 2 = n) (k : zK x g R nL ce sl n (a0 :: a1 :: a2 :: a3 :: a4 :: a5 :: a6 :: a7 :: a8 :: a9 :: a10 :: a11 :: a12 :: some (.int a) :: t) (.int a :: st) μ) : zK x g R nL ce sl pc (a0 :: a1 :: a2 :: a3 :: a4 :: a5 :: a6 :: a7 :: a8 :: a9 :: a10 :: a11 :: a12 :: some (.int a) :: t) st μ := k_iload S hd rfl hn k
theorem k_istore13 {a0 a1 a2 a3 a4 a5 a6 a7 a8 a9 a10 a11 a12 a13 : Option Value} {t : List (Option Value)} {a : Int32} (S : zS x g nL cc own) (hd : decode cc pc = .ok (.istore 13, 2)) (hb : 13 < nL) (hp : zc1 a12 = true) (hn : pc + 2 = n) (k : zK x g R nL ce sl n (a0 :: a1 :: a2 :: a3 :: a4 :: a5 :: a6 :: a7 :: a8 :: a9 :: a10 :: a11 :: a12 :: some (.int a) :: t) st μ) : zK x g R nL ce sl pc (a0 :: a1 :: a2 :: a3 :: a4 :: a5 :: a6 :: a7 :: a8 :: a9 :: a10 :: a11 :: a12 :: a13 :: t) (.int a :: st) μ := k_istore S hd hb (fun i9 u e hu => by
    have e9 : i9 = 12 := by omega
    subst e9
    simp at hu
    subst hu
    exact zc1_ok hp) hn k
theorem k_lload13 {a0 a1 a2 a3 a4 a5 a6 a7 a8 a9 a10 a11 a12 : Option Value} {t : List (Option Value)} {a : Int64} (S : zS x g nL cc own) (hd : decode cc pc = .ok (.lload 13, 2)) (hn : pc + 2 = n) (k : zK x g R nL ce sl n (a0 :: a1 :: a2 :: a3 :: a4 :: a5 :: a6 :: a7 :: a8 :: a9 :: a10 :: a11 :: a12 :: some (.long a) :: t) (.long a :: st) μ) : zK x g R nL ce sl pc (a0 :: a1 :: a2 :: a3 :: a4 :: a5 :: a6 :: a7 :: a8 :: a9 :: a10 :: a11 :: a12 :: some (.long a) :: t) st μ := k_lload S hd rfl hn k
theorem k_lstore13 {a0 a1 a2 a3 a4 a5 a6 a7 a8 a9 a10 a11 a12 a13 a14 : Option Value} {t : List (Option Value)} {a : Int64} (S : zS x g nL cc own) (hd : decode cc pc = .ok (.lstore 13, 2)) (hb : 13 + 1 < nL) (hp : zc1 a12 = true) (hn : pc + 2 = n) (k : zK x g R nL ce sl n (a0 :: a1 :: a2 :: a3 :: a4 :: a5 :: a6 :: a7 :: a8 :: a9 :: a10 :: a11 :: a12 :: some (.long a) :: none :: t) st μ) : zK x g R nL ce sl pc (a0 :: a1 :: a2 :: a3 :: a4 :: a5 :: a6 :: a7 :: a8 :: a9 :: a10 :: a11 :: a12 :: a13 :: a14 :: t) (.long a :: st) μ := k_lstore S hd hb (fun i9 u e hu => by
    have e9 : i9 = 12 := by omega
    subst e9
    simp at hu
    subst hu
    exact zc1_ok hp) hn k
theorem k_aload13 {a0 a1 a2 a3 a4 a5 a6 a7 a8 a9 a10 a11 a12 : Option Value} {t : List (Option Value)} {a : Nat} (S : zS x g nL cc own) (hd : decode cc pc = .ok (.aload 13, 2)) (hn : pc + 2 = n) (k : zK x g R nL ce sl n (a0 :: a1 :: a2 :: a3 :: a4 :: a5 :: a6 :: a7 :: a8 :: a9 :: a10 :: a11 :: a12 :: some (.ref a) :: t) (.ref a :: st) μ) : zK x g R nL ce sl pc (a0 :: a1 :: a2 :: a3 :: a4 :: a5 :: a6 :: a7 :: a8 :: a9 :: a10 :: a11 :: a12 :: some (.ref a) :: t) st μ := k_aload S hd rfl hn k
theorem k_astore13 {a0 a1 a2 a3 a4 a5 a6 a7 a8 a9 a10 a11 a12 a13 : Option Value} {t : List (Option Value)} {a : Nat} (S : zS x g nL cc own) (hd : decode cc pc = .ok (.astore 13, 2)) (hb : 13 < nL) (hp : zc1 a12 = true) (hn : pc + 2 = n) (k : zK x g R nL ce sl n (a0 :: a1 :: a2 :: a3 :: a4 :: a5 :: a6 :: a7 :: a8 :: a9 :: a10 :: a11 :: a12 :: some (.ref a) :: t) st μ) : zK x g R nL ce sl pc (a0 :: a1 :: a2 :: a3 :: a4 :: a5 :: a6 :: a7 :: a8 :: a9 :: a10 :: a11 :: a12 :: a13 :: t) (.ref a :: st) μ := k_astore S hd hb (fun i9 u e hu => by
    have e9 : i9 = 12 := by omega
    subst e9
    simp at hu
    subst hu
    exact zc1_ok hp) hn k
theorem k_iinc13 {a0 a1 a2 a3 a4 a5 a6 a7 a8 a9 a10 a11 a12 : Option Value} {t : List (Option Value)} {a v : Int32} {d : Int} (S : zS x g nL cc own) (hd : decode cc pc = .ok (.iinc 13 d, 3)) (hv : a + Int32.ofInt d = v) (hb : 13 < nL) (hn : pc + 3 = n) (k : zK x g R nL ce sl n (a0 :: a1 :: a2 :: a3 :: a4 :: a5 :: a6 :: a7 :: a8 :: a9 :: a10 :: a11 :: a12 :: some (.int v) :: t) st μ) : zK x g R nL ce sl pc (a0 :: a1 :: a2 :: a3 :: a4 :: a5 :: a6 :: a7 :: a8 :: a9 :: a10 :: a11 :: a12 :: some (.int a) :: t) st μ := k_iinc S hd rfl hv hb hn k
theorem k_iload14 {a0 a1 a2 a3 a4 a5 a6 a7 a8 a9 a10 a11 a12 a13 : Option Value} {t : List (Option Value)} {a : Int32} (S : zS x g nL cc own) (hd : decode cc pc = .ok (.iload 14, 2)) (hn : pc + 2 = n) (k : zK x g R nL ce sl n (a0 :: a1 :: a2 :: a3 :: a4 :: a5 :: a6 :: a7 :: a8 :: a9 :: a10 :: a11 :: a12 :: a13 :: some (.int a) :: t) (.int a :: st) μ) : zK x g R nL ce sl pc (a0 :: a1 :: a2 :: a3 :: a4 :: a5 :: a6 :: a7 :: a8 :: a9 :: a10 :: a11 :: a12 :: a13 :: some (.int a) :: t) st μ := k_iload S hd rfl hn k
theorem k_istore14 {a0 a1 a2 a3 a4 a5 a6 a7 a8 a9 a10 a11 a12 a13 a14 : Option Value} {t : List (Option Value)} {a : Int32} (S : zS x g nL cc own) (hd : decode cc pc = .ok (.istore 14, 2)) (hb : 14 < nL) (hp : zc1 a13 = true) (hn : pc + 2 = n) (k : zK x g R nL ce sl n (a0 :: a1 :: a2 :: a3 :: a4 :: a5 :: a6 :: a7 :: a8 :: a9 :: a10 :: a11 :: a12 :: a13 :: some (.int a) :: t) st μ) : zK x g R nL ce sl pc (a0 :: a1 :: a2 :: a3 :: a4 :: a5 :: a6 :: a7 :: a8 :: a9 :: a10 :: a11 :: a12 :: a13 :: a14 :: t) (.int a :: st) μ := k_istore S hd hb (fun i9 u e hu => by
    have e9 : i9 = 13 := by omega
    subst e9
    simp at hu
    subst hu
    exact zc1_ok hp) hn k
theorem k_lload14 {a0 a1 a2 a3 a4 a5 a6 a7 a8 a9 a10 a11 a12 a13 : Option Value} {t : List (Option Value)} {a : Int64} (S : zS x g nL cc own) (hd : decode cc pc = .ok (.lload 14, 2)) (hn : pc + 2 = n) (k : zK x g R nL ce sl n (a0 :: a1 :: a2 :: a3 :: a4 :: a5 :: a6 :: a7 :: a8 :: a9 :: a10 :: a11 :: a12 :: a13 :: some (.long a) :: t) (.long a :: st) μ) : zK x g R nL ce sl pc (a0 :: a1 :: a2 :: a3 :: a4 :: a5 :: a6 :: a7 :: a8 :: a9 :: a10 :: a11 :: a12 :: a13 :: some (.long a) :: t) st μ := k_lload S hd rfl hn k
theorem k_lstore14 {a0 a1 a2 a3 a4 a5 a6 a7 a8 a9 a10 a11 a12 a13 a14 a15 : Option Value} {t : List (Option Value)} {a : Int64} (S : zS x g nL cc own) (hd : decode cc pc = .ok (.lstore 14, 2)) (hb : 14 + 1 < nL) (hp : zc1 a13 = true) (hn : pc + 2 = n) (k : zK x g R nL ce sl n (a0 :: a1 :: a2 :: a3 :: a4 :: a5 :: a6 :: a7 :: a8 :: a9 :: a10 :: a11 :: a12 :: a13 :: some (.long a) :: none :: t) st μ) : zK x g R nL ce sl pc (a0 :: a1 :: a2 :: a3 :: a4 :: a5 :: a6 :: a7 :: a8 :: a9 :: a10 :: a11 :: a12 :: a13 :: a14 :: a15 :: t) (.long a :: st) μ := k_lstore S hd hb (fun i9 u e hu => by
    have e9 : i9 = 13 := by omega
    subst e9
    simp at hu
    subst hu
    exact zc1_ok hp) hn k
theorem k_aload14 {a0 a1 a2 a3 a4 a5 a6 a7 a8 a9 a10 a11 a12 a13 : Option Value} {t : List (Option Value)} {a : Nat} (S : zS x g nL cc own) (hd : decode cc pc = .ok (.aload 14, 2)) (hn : pc + 2 = n) (k : zK x g R nL ce sl n (a0 :: a1 :: a2 :: a3 :: a4 :: a5 :: a6 :: a7 :: a8 :: a9 :: a10 :: a11 :: a12 :: a13 :: some (.ref a) :: t) (.ref a :: st) μ) : zK x g R nL ce sl pc (a0 :: a1 :: a2 :: a3 :: a4 :: a5 :: a6 :: a7 :: a8 :: a9 :: a10 :: a11 :: a12 :: a13 :: some (.ref a) :: t) st μ := k_aload S hd rfl hn k
theorem k_astore14 {a0 a1 a2 a3 a4 a5 a6 a7 a8 a9 a10 a11 a12 a13 a14 : Option Value} {t : List (Option Value)} {a : Nat} (S : zS x g nL cc own) (hd : decode cc pc = .ok (.astore 14, 2)) (hb : 14 < nL) (hp : zc1 a13 = true) (hn : pc + 2 = n) (k : zK x g R nL ce sl n (a0 :: a1 :: a2 :: a3 :: a4 :: a5 :: a6 :: a7 :: a8 :: a9 :: a10 :: a11 :: a12 :: a13 :: some (.ref a) :: t) st μ) : zK x g R nL ce sl pc (a0 :: a1 :: a2 :: a3 :: a4 :: a5 :: a6 :: a7 :: a8 :: a9 :: a10 :: a11 :: a12 :: a13 :: a14 :: t) (.ref a :: st) μ := k_astore S hd hb (fun i9 u e hu => by
    have e9 : i9 = 13 := by omega
    subst e9
    simp at hu
    subst hu
    exact zc1_ok hp) hn k
theorem k_iinc14 {a0 a1 a2 a3 a4 a5 a6 a7 a8 a9 a10 a11 a12 a13 : Option Value} {t : List (Option Value)} {a v : Int32} {d : Int} (S : zS x g nL cc own) (hd : decode cc pc = .ok (.iinc 14 d, 3)) (hv : a + Int32.ofInt d = v) (hb : 14 < nL) (hn : pc + 3 = n) (k : zK x g R nL ce sl n (a0 :: a1 :: a2 :: a3 :: a4 :: a5 :: a6 :: a7 :: a8 :: a9 :: a10 :: a11 :: a12 :: a13 :: some (.int v) :: t) st μ) : zK x g R nL ce sl pc (a0 :: a1 :: a2 :: a3 :: a4 :: a5 :: a6 :: a7 :: a8 :: a9 :: a10 :: a11 :: a12 :: a13 :: some (.int a) :: t) st μ := k_iinc S hd rfl hv hb hn k
theorem k_iload15 {a0 a1 a2 a3 a4 a5 a6 a7 a8 a9 a10 a11 a12 a13 a14 : Option Value} {t : List (Option Value)} {a : Int32} (S : zS x g nL cc own) (hd : decode cc pc = .ok (.iload 15, 2)) (hn : pc + 2 = n) (k : zK x g R nL ce sl n (a0 :: a1 :: a2 :: a3 :: a4 :: a5 :: a6 :: a7 :: a8 :: a9 :: a10 :: a11 :: a12 :: a13 :: a14 :: some (.int a) :: t) (.int a :: st) μ) : zK x g R nL ce sl pc (a0 :: a1 :: a2 :: a3 :: a4 :: a5 :: a6 :: a7 :: a8 :: a9 :: a10 :: a11 :: a12 :: a13 :: a14 :: some (.int a) :: t) st μ := k_iload S hd rfl hn k
theorem k_istore15 {a0 a1 a2 a3 a4 a5 a6 a7 a8 a9 a10 a11 a12 a13 a14 a15 : Option Value} {t : List (Option Value)} {a : Int32} (S : zS x g nL cc own) (hd : decode cc pc = .ok (.istore 15, 2)) (hb : 15 < nL) (hp : zc1 a14 = true) (hn : pc + 2 = n) (k : zK x g R nL ce sl n (a0 :: a1 :: a2 :: a3 :: a4 :: a5 :: a6 :: a7 :: a8 :: a9 :: a10 :: a11 :: a12 :: a13 :: a14 :: some (.int a) :: t) st μ) : zK x g R nL ce sl pc (a0 :: a1 :: a2 :: a3 :: a4 :: a5 :: a6 :: a7 :: a8 :: a9 :: a10 :: a11 :: a12 :: a13 :: a14 :: a15 :: t) (.int a :: st) μ := k_istore S hd hb (fun i9 u e hu => by
    have e9 : i9 = 14 := by omega
    subst e9
    simp at hu
    subst hu
    exact zc1_ok hp) hn k
theorem k_lload15 {a0 a1 a2 a3 a4 a5 a6 a7 a8 a9 a10 a11 a12 a13 a14 : Option Value} {t : List (Option Value)} {a : Int64} (S : zS x g nL cc own) (hd : decode cc pc = .ok (.lload 15, 2)) (hn : pc + 2 = n) (k : zK x g R nL ce sl n (a0 :: a1 :: a2 :: a3 :: a4 :: a5 :: a6 :: a7 :: a8 :: a9 :: a10 :: a11 :: a12 :: a13 :: a14 :: some (.long a) :: t) (.long a :: st) μ) : zK x g R nL ce sl pc (a0 :: a1 :: a2 :: a3 :: a4 :: a5 :: a6 :: a7 :: a8 :: a9 :: a10 :: a11 :: a12 :: a13 :: a14 :: some (.long a) :: t) st μ := k_lload S hd rfl hn k
theorem k_lstore15 {a0 a1 a2 a3 a4 a5 a6 a7 a8 a9 a10 a11 a12 a13 a14 a15 a16 : Option Value} {t : List (Option Value)} {a : Int64} (S : zS x g nL cc own) (hd : decode cc pc = .ok (.lstore 15, 2)) (hb : 15 + 1 < nL) (hp : zc1 a14 = true) (hn : pc + 2 = n) (k : zK x g R nL ce sl n (a0 :: a1 :: a2 :: a3 :: a4 :: a5 :: a6 :: a7 :: a8 :: a9 :: a10 :: a11 :: a12 :: a13 :: a14 :: some (.long a) :: none :: t) st μ) : zK x g R nL ce sl pc (a0 :: a1 :: a2 :: a3 :: a4 :: a5 :: a6 :: a7 :: a8 :: a9 :: a10 :: a11 :: a12 :: a13 :: a14 :: a15 :: a16 :: t) (.long a :: st) μ := k_lstore S hd hb (fun i9 u e hu => by
    have e9 : i9 = 14 := by omega
    subst e9
    simp at hu
    subst hu
    exact zc1_ok hp) hn k
theorem k_aload15 {a0 a1 a2 a3 a4 a5 a6 a7 a8 a9 a10 a11 a12 a13 a14 : Option Value} {t : List (Option Value)} {a : Nat} (S : zS x g nL cc own) (hd : decode cc pc = .ok (.aload 15, 2)) (hn : pc + 2 = n) (k : zK x g R nL ce sl n (a0 :: a1 :: a2 :: a3 :: a4 :: a5 :: a6 :: a7 :: a8 :: a9 :: a10 :: a11 :: a12 :: a13 :: a14 :: some (.ref a) :: t) (.ref a :: st) μ) : zK x g R nL ce sl pc (a0 :: a1 :: a2 :: a3 :: a4 :: a5 :: a6 :: a7 :: a8 :: a9 :: a10 :: a11 :: a12 :: a13 :: a14 :: some (.ref a) :: t) st μ := k_aload S hd rfl hn k
theorem k_astore15 {a0 a1 a2 a3 a4 a5 a6 a7 a8 a9 a10 a11 a12 a13 a14 a15 : Option Value} {t : List (Option Value)} {a : Nat} (S : zS x g nL cc own) (hd : decode cc pc = .ok (.astore 15, 2)) (hb : 15 < nL) (hp : zc1 a14 = true) (hn : pc + 2 = n) (k : zK x g R nL ce sl n (a0 :: a1 :: a2 :: a3 :: a4 :: a5 :: a6 :: a7 :: a8 :: a9 :: a10 :: a11 :: a12 :: a13 :: a14 :: some (.ref a) :: t) st μ) : zK x g R nL ce sl pc (a0 :: a1 :: a2 :: a3 :: a4 :: a5 :: a6 :: a7 :: a8 :: a9 :: a10 :: a11 :: a12 :: a13 :: a14 :: a15 :: t) (.ref a :: st) μ := k_astore S hd hb (fun i9 u e hu => by
    have e9 : i9 = 14 := by omega
    subst e9
    simp at hu
    subst hu
    exact zc1_ok hp) hn k
theorem k_iinc15 {a0 a1 a2 a3 a4 a5 a6 a7 a8 a9 a10 a11 a12 a13 a14 : Option Value} {t : List (Option Value)} {a v : Int32} {d : Int} (S : zS x g nL cc own) (hd : decode cc pc = .ok (.iinc 15 d, 3)) (hv : a + Int32.ofInt d = v) (hb : 15 < nL) (hn : pc + 3 = n) (k : zK x g R nL ce sl n (a0 :: a1 :: a2 :: a3 :: a4 :: a5 :: a6 :: a7 :: a8 :: a9 :: a10 :: a11 :: a12 :: a13 :: a14 :: some (.int v) :: t) st μ) : zK x g R nL ce sl pc (a0 :: a1 :: a2 :: a3 :: a4 :: a5 :: a6 :: a7 :: a8 :: a9 :: a10 :: a11 :: a12 :: a13 :: a14 :: some (.int a) :: t) st μ := k_iinc S hd rfl hv hb hn k
theorem k_iload16 {a0 a1 a2 a3 a4 a5 a6 a7 a8 a9 a10 a11 a12 a13 a14 a15 : Option Value} {t : List (Option Value)} {a : Int32} (S : zS x g nL cc own) (hd : decode cc pc = .ok (.iload 16, 2)) (hn : pc + 2 = n) (k : zK x g R nL ce sl n (a0 :: a1 :: a2 :: a3 :: a4 :: a5 :: a6 :: a7 :: a8 :: a9 :: a10 :: a11 :: a12 :: a13 :: a14 :: a15 :: some (.int a) :: t) (.int a :: st) μ) : zK x g R nL ce sl pc (a0 :: a1 :: a2 :: a3 :: a4 :: a5 :: a6 :: a7 :: a8 :: a9 :: a10 :: a11 :: a12 :: a13 :: a14 :: a15 :: some (.int a) :: t) st μ := k_iload S hd rfl hn k
theorem k_istore16 {a0 a1 a2 a3 a4 a5 a6 a7 a8 a9 a10 a11 a12 a13 a14 a15 a16 : Option Value} {t : List (Option Value)} {a : Int32} (S : zS x g nL cc own) (hd : decode cc pc = .ok (.istore 16, 2)) (hb : 16 < nL) (hp : zc1 a15 = true) (hn : pc + 2 = n) (k : zK x g R nL ce sl n (a0 :: a1 :: a2 :: a3 :: a4 :: a5 :: a6 :: a7 :: a8 :: a9 :: a10 :: a11 :: a12 :: a13 :: a14 :: a15 :: some (.int a) :: t) st μ) : zK x g R nL ce sl pc (a0 :: a1 :: a2 :: a3 :: a4 :: a5 :: a6 :: a7 :: a8 :: a9 :: a10 :: a11 :: a12 :: a13 :: a14 :: a15 :: a16 :: t) (.int a :: st) μ := k_istore S hd hb (fun i9 u e hu => by
    have e9 : i9 = 15 := by omega
    subst e9
    simp at hu
    subst hu
    exact zc1_ok hp) hn k
theorem k_lload16 {a0 a1 a2 a3 a4 a5 a6 a7 a8 a9 a10 a11 a12 a13 a14 a15 : Option Value} {t : List (Option Value)} {a : Int64} (S : zS x g nL cc own) (hd : decode cc pc = .ok (.lload 16, 2)) (hn : pc + 2 = n) (k : zK x g R nL ce sl n (a0 :: a1 :: a2 :: a3 :: a4 :: a5 :: a6 :: a7 :: a8 :: a9 :: a10 :: a11 :: a12 :: a13 :: a14 :: a15 :: some (.long a) :: t) (.long a :: st) μ) : zK x g R nL ce sl pc (a0 :: a1 :: a2 :: a3 :: a4 :: a5 :: a6 :: a7 :: a8 :: a9 :: a10 :: a11 :: a12 :: a13 :: a14 :: a15 :: some (.long a) :: t) st μ := k_lload S hd rfl hn k
theorem k_lstore16 {a0 a1 a2 a3 a4 a5 a6 a7 a8 a9 a10 a11 a12 a13 a14 a15 a16 a17 : Option Value} {t : List (Option Value)} {a : Int64} (S : zS x g nL cc own) (hd : decode cc pc = .ok (.lstore 16, 2)) (hb : 16 + 1 < nL) (hp : zc1 a15 = true) (hn : pc + 2 = n) (k : zK x g R nL ce sl n (a0 :: a1 :: a2 :: a3 :: a4 :: a5 :: a6 :: a7 :: a8 :: a9 :: a10 :: a11 :: a12 :: a13 :: a14 :: a15 :: some (.long a) :: none :: t) st μ) : zK x g R nL ce sl pc (a0 :: a1 :: a2 :: a3 :: a4 :: a5 :: a6 :: a7 :: a8 :: a9 :: a10 :: a11 :: a12 :: a13 :: a14 :: a15 :: a16 :: a17 :: t) (.long a :: st) μ := k_lstore S hd hb (fun i9 u e hu => by
    have e9 : i9 = 15 := by omega
    subst e9
    simp at hu
    subst hu
    exact zc1_ok hp) hn k
theorem k_aload16 {a0 a1 a2 a3 a4 a5 a6 a7 a8 a9 a10 a11 a12 a13 a14 a15 : Option Value} {t : List (Option Value)} {a : Nat} (S : zS x g nL cc own) (hd : decode cc pc = .ok (.aload 16, 2)) (hn : pc + 2 = n) (k : zK x g R nL ce sl n (a0 :: a1 :: a2 :: a3 :: a4 :: a5 :: a6 :: a7 :: a8 :: a9 :: a10 :: a11 :: a12 :: a13 :: a14 :: a15 :: some (.ref a) :: t) (.ref a :: st) μ) : zK x g R nL ce sl pc (a0 :: a1 :: a2 :: a3 :: a4 :: a5 :: a6 :: a7 :: a8 :: a9 :: a10 :: a11 :: a12 :: a13 :: a14 :: a15 :: some (.ref a) :: t) st μ := k_aload S hd rfl hn k
theorem k_astore16 {a0 a1 a2 a3 a4 a5 a6 a7 a8 a9 a10 a11 a12 a13 a14 a15 a16 : Option Value} {t : List (Option Value)} {a : Nat} (S : zS x g nL cc own) (hd : decode cc pc = .ok (.astore 16, 2)) (hb : 16 < nL) (hp : zc1 a15 = true) (hn : pc + 2 = n) (k : zK x g R nL ce sl n (a0 :: a1 :: a2 :: a3 :: a4 :: a5 :: a6 :: a7 :: a8 :: a9 :: a10 :: a11 :: a12 :: a13 :: a14 :: a15 :: some (.ref a) :: t) st μ) : zK x g R nL ce sl pc (a0 :: a1 :: a2 :: a3 :: a4 :: a5 :: a6 :: a7 :: a8 :: a9 :: a10 :: a11 :: a12 :: a13 :: a14 :: a15 :: a16 :: t) (.ref a :: st) μ := k_astore S hd hb (fun i9 u e hu => by
    have e9 : i9 = 15 := by omega
    subst e9
    simp at hu
    subst hu
    exact zc1_ok hp) hn k
theorem k_iinc16 {a0 a1 a2 a3 a4 a5 a6 a7 a8 a9 a10 a11 a12 a13 a14 a15 : Option Value} {t : List (Option Value)} {a v : Int32} {d : Int} (S : zS x g nL cc own) (hd : decode cc pc = .ok (.iinc 16 d, 3)) (hv : a + Int32.ofInt d = v) (hb : 16 < nL) (hn : pc + 3 = n) (k : zK x g R nL ce sl n (a0 :: a1 :: a2 :: a3 :: a4 :: a5 :: a6 :: a7 :: a8 :: a9 :: a10 :: a11 :: a12 :: a13 :: a14 :: a15 :: some (.int v) :: t) st μ) : zK x g R nL ce sl pc (a0 :: a1 :: a2 :: a3 :: a4 :: a5 :: a6 :: a7 :: a8 :: a9 :: a10 :: a11 :: a12 :: a13 :: a14 :: a15 :: some (.int a) :: t) st μ := k_iinc S hd rfl hv hb hn k
end KL
