theorem eX0_init {x0 : Nat} {h : zH} : cl mX0_init [vr x0] h = rn mX0_init 0 [vr x0] [] h := rfl
theorem sX0_init_0 {x0 : Nat} {st : List zV} {h : zH} : rn mX0_init 0 [vr x0] (st) h = rn mX0_init 1 [vr x0] (vr x0 :: st) h := rn_go (I := .aload_n 0) (ln := 1) (by decide +kernel) rfl
theorem sX0_init_1 {y0 : Nat} {L : List zV} {h : zH} : rn mX0_init 1 L ([vr y0]) h = if y0 = 0 then none else rn mX0_init 4 L ([]) h := rn_ob (i := 1) (by decide +kernel) rfl rfl rfl rfl rfl
theorem sX0_init_4 {x0 : Nat} {st : List zV} {h : zH} : rn mX0_init 4 [vr x0] (st) h = rn mX0_init 5 [vr x0] (vr x0 :: st) h := rn_go (I := .aload_n 0) (ln := 1) (by decide +kernel) rfl
theorem sX0_init_5 {L : List zV} {st : List zV} {h : zH} : rn mX0_init 5 L (st) h = rn mX0_init 6 L (vl 0 :: st) h := rn_go (I := .lconst 0) (ln := 1) (by decide +kernel) rfl
theorem sX0_init_6 {x : Nat} {v : Int} {L : List zV} {st : List zV} {h : zH} : rn mX0_init 6 L (vl v :: vr x :: st) h = pfv (h.2 x) 0 0 (vl v) (fun d => rn mX0_init 9 L (st) (zup h x d)) := rn_pfv (i := 7) (by decide +kernel) rfl rfl
theorem sX0_init_9 {L : List zV} {h : zH} : rn mX0_init 9 L ([]) h = some (vn, h) := rn_rt (I := .return_) (ln := 1) (by decide +kernel) rfl
theorem eX0_begin {x0 : Nat} {x1 : Int} {h : zH} : cl mX0_begin [vr x0, vi x1] h = rn mX0_begin 0 [vr x0, vi x1] [] h := rfl
theorem sX0_begin_0 {x0 : Nat} {x1 : Int} {st : List zV} {h : zH} : rn mX0_begin 0 [vr x0, vi x1] (st) h = rn mX0_begin 1 [vr x0, vi x1] (vr x0 :: st) h := rn_go (I := .aload_n 0) (ln := 1) (by decide +kernel) rfl
theorem sX0_begin_1 {x0 : Nat} {x1 : Int} {st : List zV} {h : zH} : rn mX0_begin 1 [vr x0, vi x1] (st) h = rn mX0_begin 2 [vr x0, vi x1] (vi x1 :: st) h := rn_go (I := .iload_n 1) (ln := 1) (by decide +kernel) rfl
theorem sX0_begin_2 {x : Int} {L : List zV} {st : List zV} {h : zH} : rn mX0_begin 2 L (vi x :: st) h = rn mX0_begin 3 L (vl x :: st) h := rn_go (I := .i2l) (ln := 1) (by decide +kernel) rfl
theorem sX0_begin_3 {x : Nat} {v : Int} {L : List zV} {st : List zV} {h : zH} : rn mX0_begin 3 L (vl v :: vr x :: st) h = pfv (h.2 x) 0 0 (vl v) (fun d => rn mX0_begin 6 L (st) (zup h x d)) := rn_pfv (i := 7) (by decide +kernel) rfl rfl
theorem sX0_begin_6 {L : List zV} {h : zH} : rn mX0_begin 6 L ([]) h = some (vn, h) := rn_rt (I := .return_) (ln := 1) (by decide +kernel) rfl
theorem eX0_draw {x0 : Nat} {h : zH} : cl mX0_draw [vr x0] h = rn mX0_draw 0 [vr x0] [] h := rfl
theorem sX0_draw_0 {x0 : Nat} {st : List zV} {h : zH} : rn mX0_draw 0 [vr x0] (st) h = rn mX0_draw 1 [vr x0] (vr x0 :: st) h := rn_go (I := .aload_n 0) (ln := 1) (by decide +kernel) rfl
theorem sX0_draw_1 {x0 : Nat} {st : List zV} {h : zH} : rn mX0_draw 1 [vr x0] (st) h = rn mX0_draw 2 [vr x0] (vr x0 :: st) h := rn_go (I := .aload_n 0) (ln := 1) (by decide +kernel) rfl
theorem sX0_draw_2 {x : Nat} {L : List zV} {st : List zV} {h : zH} : rn mX0_draw 2 L (vr x :: st) h = gfl (h.2 x) 0 0 (fun z => rn mX0_draw 5 L (vl z :: st) h) := rn_gfl (i := 7) (by decide +kernel) rfl
theorem sX0_draw_5 {L : List zV} {st : List zV} {h : zH} : rn mX0_draw 5 L (st) h = rn mX0_draw 8 L (vl (1103515245) :: st) h := rn_go (I := .ldc2_w 13) (ln := 3) (by decide +kernel) rfl
theorem sX0_draw_8 {x : Int} {y : Int} {L : List zV} {st : List zV} {h : zH} : rn mX0_draw 8 L (vl y :: vl x :: st) h = rn mX0_draw 9 L (vl (i64 (x * y)) :: st) h := rn_go (I := .lmul) (ln := 1) (by decide +kernel) rfl
theorem sX0_draw_9 {L : List zV} {st : List zV} {h : zH} : rn mX0_draw 9 L (st) h = rn mX0_draw 12 L (vl (12345) :: st) h := rn_go (I := .ldc2_w 15) (ln := 3) (by decide +kernel) rfl
theorem sX0_draw_12 {x : Int} {y : Int} {L : List zV} {st : List zV} {h : zH} : rn mX0_draw 12 L (vl y :: vl x :: st) h = rn mX0_draw 13 L (vl (i64 (x + y)) :: st) h := rn_go (I := .ladd) (ln := 1) (by decide +kernel) rfl
theorem sX0_draw_13 {L : List zV} {st : List zV} {h : zH} : rn mX0_draw 13 L (st) h = rn mX0_draw 16 L (vl (2147483648) :: st) h := rn_go (I := .ldc2_w 17) (ln := 3) (by decide +kernel) rfl
theorem sX0_draw_16 {x : Int} {y : Int} {L : List zV} {st : List zV} {h : zH} : rn mX0_draw 16 L (vl y :: vl x :: st) h = if y = 0 then none else rn mX0_draw 17 L (vl (q4 qreml x y) :: st) h := rn_lrem (by decide +kernel)
theorem sX0_draw_17 {x : Nat} {v : Int} {L : List zV} {st : List zV} {h : zH} : rn mX0_draw 17 L (vl v :: vr x :: st) h = pfv (h.2 x) 0 0 (vl v) (fun d => rn mX0_draw 20 L (st) (zup h x d)) := rn_pfv (i := 7) (by decide +kernel) rfl rfl
theorem sX0_draw_20 {x0 : Nat} {st : List zV} {h : zH} : rn mX0_draw 20 [vr x0] (st) h = rn mX0_draw 21 [vr x0] (vr x0 :: st) h := rn_go (I := .aload_n 0) (ln := 1) (by decide +kernel) rfl
theorem sX0_draw_21 {x : Nat} {L : List zV} {st : List zV} {h : zH} : rn mX0_draw 21 L (vr x :: st) h = gfl (h.2 x) 0 0 (fun z => rn mX0_draw 24 L (vl z :: st) h) := rn_gfl (i := 7) (by decide +kernel) rfl
theorem sX0_draw_24 {L : List zV} {st : List zV} {h : zH} : rn mX0_draw 24 L (st) h = rn mX0_draw 27 L (vl (65536) :: st) h := rn_go (I := .ldc2_w 19) (ln := 3) (by decide +kernel) rfl
theorem sX0_draw_27 {x : Int} {y : Int} {L : List zV} {st : List zV} {h : zH} : rn mX0_draw 27 L (vl y :: vl x :: st) h = if y = 0 then none else rn mX0_draw 28 L (vl (q4 (· / ·) x y) :: st) h := rn_ldiv (by decide +kernel)
theorem sX0_draw_28 {x : Int} {L : List zV} {st : List zV} {h : zH} : rn mX0_draw 28 L (vl x :: st) h = rn mX0_draw 29 L (vi (i32 x) :: st) h := rn_go (I := .l2i) (ln := 1) (by decide +kernel) rfl
theorem sX0_draw_29 {z : Int} {L : List zV} {h : zH} : rn mX0_draw 29 L ([vi z]) h = some (vi z, h) := rn_ir (by decide +kernel) rfl
