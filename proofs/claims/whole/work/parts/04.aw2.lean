section AWA
variable {g : GX} {M : MI} {d pc : Nat} {lv : List (Nat × Value)} {st : List Value} {V : AH} {sz : Nat} {Q : AQ}
theorem aw_iadd {x y : Int32} (hd : decode M.2.1 pc = .ok (.iadd, 1))  (k : AW g M d (pc + 1) lv (.int (x + y) :: st) V sz Q) : AW g M d pc lv (.int y :: .int x :: st) V sz Q :=
  AW.step (fun _ _ _ _ _ _ _ _ _ _ _ _ _ _ ls _ hC h _ _ _ kk => lv_iadd hC.1 hC.2.1 hd (kk ls h)) k
theorem aw_isub {x y : Int32} (hd : decode M.2.1 pc = .ok (.isub, 1))  (k : AW g M d (pc + 1) lv (.int (x - y) :: st) V sz Q) : AW g M d pc lv (.int y :: .int x :: st) V sz Q :=
  AW.step (fun _ _ _ _ _ _ _ _ _ _ _ _ _ _ ls _ hC h _ _ _ kk => lv_isub hC.1 hC.2.1 hd (kk ls h)) k
theorem aw_imul {x y : Int32} (hd : decode M.2.1 pc = .ok (.imul, 1))  (k : AW g M d (pc + 1) lv (.int (x * y) :: st) V sz Q) : AW g M d pc lv (.int y :: .int x :: st) V sz Q :=
  AW.step (fun _ _ _ _ _ _ _ _ _ _ _ _ _ _ ls _ hC h _ _ _ kk => lv_imul hC.1 hC.2.1 hd (kk ls h)) k
theorem aw_iand {x y : Int32} (hd : decode M.2.1 pc = .ok (.iand, 1))  (k : AW g M d (pc + 1) lv (.int (x &&& y) :: st) V sz Q) : AW g M d pc lv (.int y :: .int x :: st) V sz Q :=
  AW.step (fun _ _ _ _ _ _ _ _ _ _ _ _ _ _ ls _ hC h _ _ _ kk => lv_iand hC.1 hC.2.1 hd (kk ls h)) k
theorem aw_ior {x y : Int32} (hd : decode M.2.1 pc = .ok (.ior, 1))  (k : AW g M d (pc + 1) lv (.int (x ||| y) :: st) V sz Q) : AW g M d pc lv (.int y :: .int x :: st) V sz Q :=
  AW.step (fun _ _ _ _ _ _ _ _ _ _ _ _ _ _ ls _ hC h _ _ _ kk => lv_ior hC.1 hC.2.1 hd (kk ls h)) k
theorem aw_ixor {x y : Int32} (hd : decode M.2.1 pc = .ok (.ixor, 1))  (k : AW g M d (pc + 1) lv (.int (x ^^^ y) :: st) V sz Q) : AW g M d pc lv (.int y :: .int x :: st) V sz Q :=
  AW.step (fun _ _ _ _ _ _ _ _ _ _ _ _ _ _ ls _ hC h _ _ _ kk => lv_ixor hC.1 hC.2.1 hd (kk ls h)) k
theorem aw_ishl {x y : Int32} (hd : decode M.2.1 pc = .ok (.ishl, 1))  (k : AW g M d (pc + 1) lv (.int (x <<< (y &&& 31)) :: st) V sz Q) : AW g M d pc lv (.int y :: .int x :: st) V sz Q :=
  AW.step (fun _ _ _ _ _ _ _ _ _ _ _ _ _ _ ls _ hC h _ _ _ kk => lv_ishl hC.1 hC.2.1 hd (kk ls h)) k
theorem aw_ishr {x y : Int32} (hd : decode M.2.1 pc = .ok (.ishr, 1))  (k : AW g M d (pc + 1) lv (.int (x >>> (y &&& 31)) :: st) V sz Q) : AW g M d pc lv (.int y :: .int x :: st) V sz Q :=
  AW.step (fun _ _ _ _ _ _ _ _ _ _ _ _ _ _ ls _ hC h _ _ _ kk => lv_ishr hC.1 hC.2.1 hd (kk ls h)) k
theorem aw_idiv {x y : Int32} (hd : decode M.2.1 pc = .ok (.idiv, 1)) (hne : ¬ y = 0) (k : AW g M d (pc + 1) lv (.int (x / y) :: st) V sz Q) : AW g M d pc lv (.int y :: .int x :: st) V sz Q :=
  AW.step (fun _ _ _ _ _ _ _ _ _ _ _ _ _ _ ls _ hC h _ _ _ kk => lv_idiv hC.1 hC.2.1 hd hne (kk ls h)) k
theorem aw_irem {x y : Int32} (hd : decode M.2.1 pc = .ok (.irem, 1)) (hne : ¬ y = 0) (k : AW g M d (pc + 1) lv (.int (x - x / y * y) :: st) V sz Q) : AW g M d pc lv (.int y :: .int x :: st) V sz Q :=
  AW.step (fun _ _ _ _ _ _ _ _ _ _ _ _ _ _ ls _ hC h _ _ _ kk => lv_irem hC.1 hC.2.1 hd hne (kk ls h)) k
theorem aw_ineg {x : Int32} (hd : decode M.2.1 pc = .ok (.ineg, 1))  (k : AW g M d (pc + 1) lv (.int (-x) :: st) V sz Q) : AW g M d pc lv (.int x :: st) V sz Q :=
  AW.step (fun _ _ _ _ _ _ _ _ _ _ _ _ _ _ ls _ hC h _ _ _ kk => lv_ineg hC.1 hC.2.1 hd (kk ls h)) k
theorem aw_ladd {x y : Int64} (hd : decode M.2.1 pc = .ok (.ladd, 1))  (k : AW g M d (pc + 1) lv (.long (x + y) :: st) V sz Q) : AW g M d pc lv (.long y :: .long x :: st) V sz Q :=
  AW.step (fun _ _ _ _ _ _ _ _ _ _ _ _ _ _ ls _ hC h _ _ _ kk => lv_ladd hC.1 hC.2.1 hd (kk ls h)) k
theorem aw_lsub {x y : Int64} (hd : decode M.2.1 pc = .ok (.lsub, 1))  (k : AW g M d (pc + 1) lv (.long (x - y) :: st) V sz Q) : AW g M d pc lv (.long y :: .long x :: st) V sz Q :=
  AW.step (fun _ _ _ _ _ _ _ _ _ _ _ _ _ _ ls _ hC h _ _ _ kk => lv_lsub hC.1 hC.2.1 hd (kk ls h)) k
theorem aw_lmul {x y : Int64} (hd : decode M.2.1 pc = .ok (.lmul, 1))  (k : AW g M d (pc + 1) lv (.long (x * y) :: st) V sz Q) : AW g M d pc lv (.long y :: .long x :: st) V sz Q :=
  AW.step (fun _ _ _ _ _ _ _ _ _ _ _ _ _ _ ls _ hC h _ _ _ kk => lv_lmul hC.1 hC.2.1 hd (kk ls h)) k
theorem aw_land {x y : Int64} (hd : decode M.2.1 pc = .ok (.land, 1))  (k : AW g M d (pc + 1) lv (.long (x &&& y) :: st) V sz Q) : AW g M d pc lv (.long y :: .long x :: st) V sz Q :=
  AW.step (fun _ _ _ _ _ _ _ _ _ _ _ _ _ _ ls _ hC h _ _ _ kk => lv_land hC.1 hC.2.1 hd (kk ls h)) k
theorem aw_lor {x y : Int64} (hd : decode M.2.1 pc = .ok (.lor, 1))  (k : AW g M d (pc + 1) lv (.long (x ||| y) :: st) V sz Q) : AW g M d pc lv (.long y :: .long x :: st) V sz Q :=
  AW.step (fun _ _ _ _ _ _ _ _ _ _ _ _ _ _ ls _ hC h _ _ _ kk => lv_lor hC.1 hC.2.1 hd (kk ls h)) k
theorem aw_lxor {x y : Int64} (hd : decode M.2.1 pc = .ok (.lxor, 1))  (k : AW g M d (pc + 1) lv (.long (x ^^^ y) :: st) V sz Q) : AW g M d pc lv (.long y :: .long x :: st) V sz Q :=
  AW.step (fun _ _ _ _ _ _ _ _ _ _ _ _ _ _ ls _ hC h _ _ _ kk => lv_lxor hC.1 hC.2.1 hd (kk ls h)) k
theorem aw_ldiv {x y : Int64} (hd : decode M.2.1 pc = .ok (.ldiv, 1)) (hne : ¬ y = 0) (k : AW g M d (pc + 1) lv (.long (x / y) :: st) V sz Q) : AW g M d pc lv (.long y :: .long x :: st) V sz Q :=
  AW.step (fun _ _ _ _ _ _ _ _ _ _ _ _ _ _ ls _ hC h _ _ _ kk => lv_ldiv hC.1 hC.2.1 hd hne (kk ls h)) k
theorem aw_lrem {x y : Int64} (hd : decode M.2.1 pc = .ok (.lrem, 1)) (hne : ¬ y = 0) (k : AW g M d (pc + 1) lv (.long (x - x / y * y) :: st) V sz Q) : AW g M d pc lv (.long y :: .long x :: st) V sz Q :=
  AW.step (fun _ _ _ _ _ _ _ _ _ _ _ _ _ _ ls _ hC h _ _ _ kk => lv_lrem hC.1 hC.2.1 hd hne (kk ls h)) k
theorem aw_lneg {x : Int64} (hd : decode M.2.1 pc = .ok (.lneg, 1))  (k : AW g M d (pc + 1) lv (.long (-x) :: st) V sz Q) : AW g M d pc lv (.long x :: st) V sz Q :=
  AW.step (fun _ _ _ _ _ _ _ _ _ _ _ _ _ _ ls _ hC h _ _ _ kk => lv_lneg hC.1 hC.2.1 hd (kk ls h)) k
theorem aw_i2l {x : Int32} (hd : decode M.2.1 pc = .ok (.i2l, 1))  (k : AW g M d (pc + 1) lv (.long x.toInt64 :: st) V sz Q) : AW g M d pc lv (.int x :: st) V sz Q :=
  AW.step (fun _ _ _ _ _ _ _ _ _ _ _ _ _ _ ls _ hC h _ _ _ kk => lv_i2l hC.1 hC.2.1 hd rfl (kk ls h)) k
theorem aw_l2i {x : Int64} (hd : decode M.2.1 pc = .ok (.l2i, 1))  (k : AW g M d (pc + 1) lv (.int x.toInt32 :: st) V sz Q) : AW g M d pc lv (.long x :: st) V sz Q :=
  AW.step (fun _ _ _ _ _ _ _ _ _ _ _ _ _ _ ls _ hC h _ _ _ kk => lv_l2i hC.1 hC.2.1 hd rfl (kk ls h)) k
theorem aw_iushr {x y : Int32} (hd : decode M.2.1 pc = .ok (.iushr, 1))  (k : AW g M d (pc + 1) lv (.int (x.toUInt32 >>> (y.toUInt32 &&& Int32.toUInt32 31)).toInt32 :: st) V sz Q) : AW g M d pc lv (.int y :: .int x :: st) V sz Q :=
  AW.step (fun _ _ _ _ _ _ _ _ _ _ _ _ _ _ ls _ hC h _ _ _ kk => lv_iushr hC.1 hC.2.1 hd rfl (kk ls h)) k
theorem aw_lushr {x : Int64} {y : Int32} (hd : decode M.2.1 pc = .ok (.lushr, 1))  (k : AW g M d (pc + 1) lv (.long (x.toUInt64 >>> (y.toInt64.toUInt64 &&& Int64.toUInt64 63)).toInt64 :: st) V sz Q) : AW g M d pc lv (.int y :: .long x :: st) V sz Q :=
  AW.step (fun _ _ _ _ _ _ _ _ _ _ _ _ _ _ ls _ hC h _ _ _ kk => lv_lushr hC.1 hC.2.1 hd rfl (kk ls h)) k
theorem aw_lshl {x : Int64} {y : Int32} (hd : decode M.2.1 pc = .ok (.lshl, 1))  (k : AW g M d (pc + 1) lv (.long (x <<< (y.toInt64 &&& 63)) :: st) V sz Q) : AW g M d pc lv (.int y :: .long x :: st) V sz Q :=
  AW.step (fun _ _ _ _ _ _ _ _ _ _ _ _ _ _ ls _ hC h _ _ _ kk => lv_lshl hC.1 hC.2.1 hd rfl (kk ls h)) k
theorem aw_lshr {x : Int64} {y : Int32} (hd : decode M.2.1 pc = .ok (.lshr, 1))  (k : AW g M d (pc + 1) lv (.long (x >>> (y.toInt64 &&& 63)) :: st) V sz Q) : AW g M d pc lv (.int y :: .long x :: st) V sz Q :=
  AW.step (fun _ _ _ _ _ _ _ _ _ _ _ _ _ _ ls _ hC h _ _ _ kk => lv_lshr hC.1 hC.2.1 hd rfl (kk ls h)) k
theorem aw_lcmp {x y : Int64} (hd : decode M.2.1 pc = .ok (.lcmp, 1))  (k : AW g M d (pc + 1) lv (.int (lg_cmp x y) :: st) V sz Q) : AW g M d pc lv (.long y :: .long x :: st) V sz Q :=
  AW.step (fun _ _ _ _ _ _ _ _ _ _ _ _ _ _ ls _ hC h _ _ _ kk => W.lcmp hC.1 hC.2.1 hd (kk ls h)) k
theorem aw_dup {v : Value} (hd : decode M.2.1 pc = .ok (.dup, 1)) (hc : v.category = 1) (k : AW g M d (pc + 1) lv (v :: v :: st) V sz Q) : AW g M d pc lv (v :: st) V sz Q :=
  AW.step (fun _ _ _ _ _ _ _ _ _ _ _ _ _ _ ls _ hC h _ _ _ kk => lv_dup hC.1 hC.2.1 hd hc (kk ls h)) k
theorem aw_pop {v : Value} (hd : decode M.2.1 pc = .ok (.pop, 1)) (hc : v.category = 1) (k : AW g M d (pc + 1) lv (st) V sz Q) : AW g M d pc lv (v :: st) V sz Q :=
  AW.step (fun _ _ _ _ _ _ _ _ _ _ _ _ _ _ ls _ hC h _ _ _ kk => lv_pop hC.1 hC.2.1 hd hc (kk ls h)) k
theorem aw_dup2 {v w : Value} (hd : decode M.2.1 pc = .ok (.dup2, 1)) (hc : v.category = 1) (hc2 : w.category = 1) (k : AW g M d (pc + 1) lv (v :: w :: v :: w :: st) V sz Q) : AW g M d pc lv (v :: w :: st) V sz Q :=
  AW.step (fun _ _ _ _ _ _ _ _ _ _ _ _ _ _ ls _ hC h _ _ _ kk => lv_dup2_11 hC.1 hC.2.1 hd hc hc2 (kk ls h)) k
theorem aw_if_eq {x : Int32} {off : Int} {tgt : Nat} (hd : decode M.2.1 pc = .ok (.ifCond .eq off, 3)) (ht : (pc : Int) + off = (tgt : Int)) (kt : x = 0 → AW g M d tgt lv st V sz Q) (kf : ¬ x = 0 → AW g M d (pc + 3) lv st V sz Q) : AW g M d pc lv (.int x :: st) V sz Q := by
  by_cases hc : x = 0
  · exact AW.step (fun _ _ _ _ _ _ _ _ _ _ _ _ _ _ ls _ hC h _ _ _ kk => lv_if_eq hC.1 hC.2.1 hd ht (fun _ => kk ls h) (fun hn => absurd hc hn)) (kt hc)
  · exact AW.step (fun _ _ _ _ _ _ _ _ _ _ _ _ _ _ ls _ hC h _ _ _ kk => lv_if_eq hC.1 hC.2.1 hd ht (fun hn => absurd hn hc) (fun _ => kk ls h)) (kf hc)
theorem aw_icmp_eq {x y : Int32} {off : Int} {tgt : Nat} (hd : decode M.2.1 pc = .ok (.if_icmp .eq off, 3)) (ht : (pc : Int) + off = (tgt : Int)) (kt : x = y → AW g M d tgt lv st V sz Q) (kf : ¬ x = y → AW g M d (pc + 3) lv st V sz Q) : AW g M d pc lv (.int y :: .int x :: st) V sz Q := by
  by_cases hc : x = y
  · exact AW.step (fun _ _ _ _ _ _ _ _ _ _ _ _ _ _ ls _ hC h _ _ _ kk => lv_icmp_eq hC.1 hC.2.1 hd ht (fun _ => kk ls h) (fun hn => absurd hc hn)) (kt hc)
  · exact AW.step (fun _ _ _ _ _ _ _ _ _ _ _ _ _ _ ls _ hC h _ _ _ kk => lv_icmp_eq hC.1 hC.2.1 hd ht (fun hn => absurd hn hc) (fun _ => kk ls h)) (kf hc)
theorem aw_if_ne {x : Int32} {off : Int} {tgt : Nat} (hd : decode M.2.1 pc = .ok (.ifCond .ne off, 3)) (ht : (pc : Int) + off = (tgt : Int)) (kt : ¬ x = 0 → AW g M d tgt lv st V sz Q) (kf : x = 0 → AW g M d (pc + 3) lv st V sz Q) : AW g M d pc lv (.int x :: st) V sz Q := by
  by_cases hc : x = 0
  · exact AW.step (fun _ _ _ _ _ _ _ _ _ _ _ _ _ _ ls _ hC h _ _ _ kk => lv_if_ne hC.1 hC.2.1 hd ht (fun hn => absurd hc hn) (fun _ => kk ls h)) (kf hc)
  · exact AW.step (fun _ _ _ _ _ _ _ _ _ _ _ _ _ _ ls _ hC h _ _ _ kk => lv_if_ne hC.1 hC.2.1 hd ht (fun _ => kk ls h) (fun hn => absurd hn hc)) (kt hc)
theorem aw_icmp_ne {x y : Int32} {off : Int} {tgt : Nat} (hd : decode M.2.1 pc = .ok (.if_icmp .ne off, 3)) (ht : (pc : Int) + off = (tgt : Int)) (kt : ¬ x = y → AW g M d tgt lv st V sz Q) (kf : x = y → AW g M d (pc + 3) lv st V sz Q) : AW g M d pc lv (.int y :: .int x :: st) V sz Q := by
  by_cases hc : x = y
  · exact AW.step (fun _ _ _ _ _ _ _ _ _ _ _ _ _ _ ls _ hC h _ _ _ kk => lv_icmp_ne hC.1 hC.2.1 hd ht (fun hn => absurd hc hn) (fun _ => kk ls h)) (kf hc)
  · exact AW.step (fun _ _ _ _ _ _ _ _ _ _ _ _ _ _ ls _ hC h _ _ _ kk => lv_icmp_ne hC.1 hC.2.1 hd ht (fun _ => kk ls h) (fun hn => absurd hn hc)) (kt hc)
theorem aw_if_lt {x : Int32} {off : Int} {tgt : Nat} (hd : decode M.2.1 pc = .ok (.ifCond .lt off, 3)) (ht : (pc : Int) + off = (tgt : Int)) (kt : x < 0 → AW g M d tgt lv st V sz Q) (kf : ¬ x < 0 → AW g M d (pc + 3) lv st V sz Q) : AW g M d pc lv (.int x :: st) V sz Q := by
  by_cases hc : x < 0
  · exact AW.step (fun _ _ _ _ _ _ _ _ _ _ _ _ _ _ ls _ hC h _ _ _ kk => lv_if_lt hC.1 hC.2.1 hd ht (fun _ => kk ls h) (fun hn => absurd hc hn)) (kt hc)
  · exact AW.step (fun _ _ _ _ _ _ _ _ _ _ _ _ _ _ ls _ hC h _ _ _ kk => lv_if_lt hC.1 hC.2.1 hd ht (fun hn => absurd hn hc) (fun _ => kk ls h)) (kf hc)
theorem aw_icmp_lt {x y : Int32} {off : Int} {tgt : Nat} (hd : decode M.2.1 pc = .ok (.if_icmp .lt off, 3)) (ht : (pc : Int) + off = (tgt : Int)) (kt : x < y → AW g M d tgt lv st V sz Q) (kf : ¬ x < y → AW g M d (pc + 3) lv st V sz Q) : AW g M d pc lv (.int y :: .int x :: st) V sz Q := by
  by_cases hc : x < y
  · exact AW.step (fun _ _ _ _ _ _ _ _ _ _ _ _ _ _ ls _ hC h _ _ _ kk => lv_icmp_lt hC.1 hC.2.1 hd ht (fun _ => kk ls h) (fun hn => absurd hc hn)) (kt hc)
  · exact AW.step (fun _ _ _ _ _ _ _ _ _ _ _ _ _ _ ls _ hC h _ _ _ kk => lv_icmp_lt hC.1 hC.2.1 hd ht (fun hn => absurd hn hc) (fun _ => kk ls h)) (kf hc)
theorem aw_if_ge {x : Int32} {off : Int} {tgt : Nat} (hd : decode M.2.1 pc = .ok (.ifCond .ge off, 3)) (ht : (pc : Int) + off = (tgt : Int)) (kt : 0 ≤ x → AW g M d tgt lv st V sz Q) (kf : ¬ 0 ≤ x → AW g M d (pc + 3) lv st V sz Q) : AW g M d pc lv (.int x :: st) V sz Q := by
  by_cases hc : 0 ≤ x
  · exact AW.step (fun _ _ _ _ _ _ _ _ _ _ _ _ _ _ ls _ hC h _ _ _ kk => lv_if_ge hC.1 hC.2.1 hd ht (fun _ => kk ls h) (fun hn => absurd hc hn)) (kt hc)
  · exact AW.step (fun _ _ _ _ _ _ _ _ _ _ _ _ _ _ ls _ hC h _ _ _ kk => lv_if_ge hC.1 hC.2.1 hd ht (fun hn => absurd hn hc) (fun _ => kk ls h)) (kf hc)
theorem aw_icmp_ge {x y : Int32} {off : Int} {tgt : Nat} (hd : decode M.2.1 pc = .ok (.if_icmp .ge off, 3)) (ht : (pc : Int) + off = (tgt : Int)) (kt : y ≤ x → AW g M d tgt lv st V sz Q) (kf : ¬ y ≤ x → AW g M d (pc + 3) lv st V sz Q) : AW g M d pc lv (.int y :: .int x :: st) V sz Q := by
  by_cases hc : y ≤ x
  · exact AW.step (fun _ _ _ _ _ _ _ _ _ _ _ _ _ _ ls _ hC h _ _ _ kk => lv_icmp_ge hC.1 hC.2.1 hd ht (fun _ => kk ls h) (fun hn => absurd hc hn)) (kt hc)
  · exact AW.step (fun _ _ _ _ _ _ _ _ _ _ _ _ _ _ ls _ hC h _ _ _ kk => lv_icmp_ge hC.1 hC.2.1 hd ht (fun hn => absurd hn hc) (fun _ => kk ls h)) (kf hc)
theorem aw_if_gt {x : Int32} {off : Int} {tgt : Nat} (hd : decode M.2.1 pc = .ok (.ifCond .gt off, 3)) (ht : (pc : Int) + off = (tgt : Int)) (kt : 0 < x → AW g M d tgt lv st V sz Q) (kf : ¬ 0 < x → AW g M d (pc + 3) lv st V sz Q) : AW g M d pc lv (.int x :: st) V sz Q := by
  by_cases hc : 0 < x
  · exact AW.step (fun _ _ _ _ _ _ _ _ _ _ _ _ _ _ ls _ hC h _ _ _ kk => lv_if_gt hC.1 hC.2.1 hd ht (fun _ => kk ls h) (fun hn => absurd hc hn)) (kt hc)
  · exact AW.step (fun _ _ _ _ _ _ _ _ _ _ _ _ _ _ ls _ hC h _ _ _ kk => lv_if_gt hC.1 hC.2.1 hd ht (fun hn => absurd hn hc) (fun _ => kk ls h)) (kf hc)
theorem aw_icmp_gt {x y : Int32} {off : Int} {tgt : Nat} (hd : decode M.2.1 pc = .ok (.if_icmp .gt off, 3)) (ht : (pc : Int) + off = (tgt : Int)) (kt : y < x → AW g M d tgt lv st V sz Q) (kf : ¬ y < x → AW g M d (pc + 3) lv st V sz Q) : AW g M d pc lv (.int y :: .int x :: st) V sz Q := by
  by_cases hc : y < x
  · exact AW.step (fun _ _ _ _ _ _ _ _ _ _ _ _ _ _ ls _ hC h _ _ _ kk => lv_icmp_gt hC.1 hC.2.1 hd ht (fun _ => kk ls h) (fun hn => absurd hc hn)) (kt hc)
  · exact AW.step (fun _ _ _ _ _ _ _ _ _ _ _ _ _ _ ls _ hC h _ _ _ kk => lv_icmp_gt hC.1 hC.2.1 hd ht (fun hn => absurd hn hc) (fun _ => kk ls h)) (kf hc)
theorem aw_if_le {x : Int32} {off : Int} {tgt : Nat} (hd : decode M.2.1 pc = .ok (.ifCond .le off, 3)) (ht : (pc : Int) + off = (tgt : Int)) (kt : x ≤ 0 → AW g M d tgt lv st V sz Q) (kf : ¬ x ≤ 0 → AW g M d (pc + 3) lv st V sz Q) : AW g M d pc lv (.int x :: st) V sz Q := by
  by_cases hc : x ≤ 0
  · exact AW.step (fun _ _ _ _ _ _ _ _ _ _ _ _ _ _ ls _ hC h _ _ _ kk => lv_if_le hC.1 hC.2.1 hd ht (fun _ => kk ls h) (fun hn => absurd hc hn)) (kt hc)
  · exact AW.step (fun _ _ _ _ _ _ _ _ _ _ _ _ _ _ ls _ hC h _ _ _ kk => lv_if_le hC.1 hC.2.1 hd ht (fun hn => absurd hn hc) (fun _ => kk ls h)) (kf hc)
theorem aw_icmp_le {x y : Int32} {off : Int} {tgt : Nat} (hd : decode M.2.1 pc = .ok (.if_icmp .le off, 3)) (ht : (pc : Int) + off = (tgt : Int)) (kt : x ≤ y → AW g M d tgt lv st V sz Q) (kf : ¬ x ≤ y → AW g M d (pc + 3) lv st V sz Q) : AW g M d pc lv (.int y :: .int x :: st) V sz Q := by
  by_cases hc : x ≤ y
  · exact AW.step (fun _ _ _ _ _ _ _ _ _ _ _ _ _ _ ls _ hC h _ _ _ kk => lv_icmp_le hC.1 hC.2.1 hd ht (fun _ => kk ls h) (fun hn => absurd hc hn)) (kt hc)
  · exact AW.step (fun _ _ _ _ _ _ _ _ _ _ _ _ _ _ ls _ hC h _ _ _ kk => lv_icmp_le hC.1 hC.2.1 hd ht (fun hn => absurd hn hc) (fun _ => kk ls h)) (kf hc)
theorem aw_goto {off : Int} {tgt : Nat} (hd : decode M.2.1 pc = .ok (.goto off, 3)) (ht : (pc : Int) + off = (tgt : Int)) (k : AW g M d tgt lv st V sz Q) : AW g M d pc lv st V sz Q :=
  AW.step (fun _ _ _ _ _ _ _ _ _ _ _ _ _ _ ls _ hC h _ _ _ kk => lv_goto hC.1 hC.2.1 hd ht (kk ls h)) k
theorem aw_ifnull_r {x : Nat} {off : Int} (hd : decode M.2.1 pc = .ok (.ifnull off, 3)) (k : AW g M d (pc + 3) lv st V sz Q) : AW g M d pc lv (.ref x :: st) V sz Q :=
  AW.step (fun _ _ _ _ _ _ _ _ _ _ _ _ _ _ ls _ hC h _ _ _ kk => lv_ifnull hC.1 hC.2.1 hd (kk ls h)) k
theorem aw_ifnull_n {off : Int} {tgt : Nat} (hd : decode M.2.1 pc = .ok (.ifnull off, 3)) (ht : (pc : Int) + off = (tgt : Int)) (k : AW g M d tgt lv st V sz Q) : AW g M d pc lv (.null :: st) V sz Q :=
  AW.step (fun _ _ _ _ _ _ _ _ _ _ _ _ _ _ ls _ hC h _ _ _ kk => lv_ifnullN hC.1 hC.2.1 hd ht (kk ls h)) k
theorem aw_ifnonnull_r {x : Nat} {off : Int} {tgt : Nat} (hd : decode M.2.1 pc = .ok (.ifnonnull off, 3)) (ht : (pc : Int) + off = (tgt : Int)) (k : AW g M d tgt lv st V sz Q) : AW g M d pc lv (.ref x :: st) V sz Q :=
  AW.step (fun _ _ _ _ _ _ _ _ _ _ _ _ _ _ ls _ hC h _ _ _ kk => lv_ifnonnull hC.1 hC.2.1 hd ht (kk ls h)) k
theorem aw_ifnonnull_n {off : Int} (hd : decode M.2.1 pc = .ok (.ifnonnull off, 3)) (k : AW g M d (pc + 3) lv st V sz Q) : AW g M d pc lv (.null :: st) V sz Q :=
  AW.step (fun _ _ _ _ _ _ _ _ _ _ _ _ _ _ ls _ hC h _ _ _ kk => lv_ifnonnullN hC.1 hC.2.1 hd (kk ls h)) k
theorem aw_tableOut {dflt lo hi : Int} {offs : Array Int} {len : Nat} {x : Int32} {tgt : Nat} (hd : decode M.2.1 pc = .ok (.tableswitch dflt lo hi offs, len)) (h0 : x.toInt < lo ∨ hi < x.toInt) (ht : (pc : Int) + dflt = (tgt : Int)) (k : AW g M d tgt lv st V sz Q) : AW g M d pc lv (.int x :: st) V sz Q :=
  AW.step (fun _ _ _ _ _ _ _ _ _ _ _ _ _ _ ls _ hC h _ _ _ kk => lv_tableOut hC.1 hC.2.1 hd h0 ht (kk ls h)) k
theorem aw_tableIn {dflt lo hi : Int} {offs : Array Int} {len : Nat} {x : Int32} {off : Int} {tgt : Nat} (hd : decode M.2.1 pc = .ok (.tableswitch dflt lo hi offs, len)) (h1 : ¬ x.toInt < lo) (h2 : ¬ hi < x.toInt) (ho : offs[(x.toInt - lo).toNat]? = some off) (ht : (pc : Int) + off = (tgt : Int)) (k : AW g M d tgt lv st V sz Q) : AW g M d pc lv (.int x :: st) V sz Q :=
  AW.step (fun _ _ _ _ _ _ _ _ _ _ _ _ _ _ ls _ hC h _ _ _ kk => lv_tableIn hC.1 hC.2.1 hd h1 h2 ho ht (kk ls h)) k
end AWA
