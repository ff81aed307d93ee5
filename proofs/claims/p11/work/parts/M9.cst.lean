/-! the class: one step of its state -/
theorem chs_setI (s : CS) (k : Nat) (v : Int32) : (CS.setI s k v).hs = s.hs := rfl
theorem cl_setI (s : CS) (k : Nat) (v : Int32) : (CS.setI s k v).l = s.l := rfl
theorem ca_setI (s : CS) (k : Nat) (v : Int32) : (CS.setI s k v).a = s.a := rfl
theorem cb_setI (s : CS) (k : Nat) (v : Int32) : (CS.setI s k v).b = s.b := rfl
theorem cr_setI (s : CS) (k : Nat) (v : Int32) : (CS.setI s k v).r = s.r := rfl
theorem cw_setI (s : CS) (k : Nat) (v : Int32) : (CS.setI s k v).w = s.w := rfl
theorem cL_setI (s : CS) (k : Nat) (v : Int32) : (CS.setI s k v).L = s.L := rfl
theorem ck_setI (s : CS) (k : Nat) (v : Int32) : (CS.setI s k v).k = s.k := rfl
theorem co_setI (s : CS) (k : Nat) (v : Int32) : (CS.setI s k v).o = s.o := rfl
theorem col_setI (s : CS) (k : Nat) (v : Int32) : (CS.setI s k v).ol = s.ol := rfl
theorem cot_setI (s : CS) (k : Nat) (v : Int32) : (CS.setI s k v).ot = s.ot := rfl
theorem coa_setI (s : CS) (k : Nat) (v : Int32) : (CS.setI s k v).oa = s.oa := rfl
theorem chs_setL (s : CS) (v : Int64) : (CS.setL s v).hs = s.hs := rfl
theorem ci_setL (s : CS) (v : Int64) : (CS.setL s v).i = s.i := rfl
theorem ca_setL (s : CS) (v : Int64) : (CS.setL s v).a = s.a := rfl
theorem cb_setL (s : CS) (v : Int64) : (CS.setL s v).b = s.b := rfl
theorem cr_setL (s : CS) (v : Int64) : (CS.setL s v).r = s.r := rfl
theorem cw_setL (s : CS) (v : Int64) : (CS.setL s v).w = s.w := rfl
theorem cL_setL (s : CS) (v : Int64) : (CS.setL s v).L = s.L := rfl
theorem ck_setL (s : CS) (v : Int64) : (CS.setL s v).k = s.k := rfl
theorem co_setL (s : CS) (v : Int64) : (CS.setL s v).o = s.o := rfl
theorem col_setL (s : CS) (v : Int64) : (CS.setL s v).ol = s.ol := rfl
theorem cot_setL (s : CS) (v : Int64) : (CS.setL s v).ot = s.ot := rfl
theorem coa_setL (s : CS) (v : Int64) : (CS.setL s v).oa = s.oa := rfl
theorem chs_setA (s : CS) (k j : Nat) (v : Int32) : (CS.setA s k j v).hs = s.hs := rfl
theorem ci_setA (s : CS) (k j : Nat) (v : Int32) : (CS.setA s k j v).i = s.i := rfl
theorem cl_setA (s : CS) (k j : Nat) (v : Int32) : (CS.setA s k j v).l = s.l := rfl
theorem cb_setA (s : CS) (k j : Nat) (v : Int32) : (CS.setA s k j v).b = s.b := rfl
theorem cr_setA (s : CS) (k j : Nat) (v : Int32) : (CS.setA s k j v).r = s.r := rfl
theorem cw_setA (s : CS) (k j : Nat) (v : Int32) : (CS.setA s k j v).w = s.w := rfl
theorem cL_setA (s : CS) (k j : Nat) (v : Int32) : (CS.setA s k j v).L = s.L := rfl
theorem ck_setA (s : CS) (k j : Nat) (v : Int32) : (CS.setA s k j v).k = s.k := rfl
theorem co_setA (s : CS) (k j : Nat) (v : Int32) : (CS.setA s k j v).o = s.o := rfl
theorem col_setA (s : CS) (k j : Nat) (v : Int32) : (CS.setA s k j v).ol = s.ol := rfl
theorem cot_setA (s : CS) (k j : Nat) (v : Int32) : (CS.setA s k j v).ot = s.ot := rfl
theorem coa_setA (s : CS) (k j : Nat) (v : Int32) : (CS.setA s k j v).oa = s.oa := rfl
theorem chs_putA (s : CS) (k : Nat) (f : Nat → Int32) : (CS.putA s k f).hs = s.hs := rfl
theorem ci_putA (s : CS) (k : Nat) (f : Nat → Int32) : (CS.putA s k f).i = s.i := rfl
theorem cl_putA (s : CS) (k : Nat) (f : Nat → Int32) : (CS.putA s k f).l = s.l := rfl
theorem cb_putA (s : CS) (k : Nat) (f : Nat → Int32) : (CS.putA s k f).b = s.b := rfl
theorem cr_putA (s : CS) (k : Nat) (f : Nat → Int32) : (CS.putA s k f).r = s.r := rfl
theorem cw_putA (s : CS) (k : Nat) (f : Nat → Int32) : (CS.putA s k f).w = s.w := rfl
theorem cL_putA (s : CS) (k : Nat) (f : Nat → Int32) : (CS.putA s k f).L = s.L := rfl
theorem ck_putA (s : CS) (k : Nat) (f : Nat → Int32) : (CS.putA s k f).k = s.k := rfl
theorem co_putA (s : CS) (k : Nat) (f : Nat → Int32) : (CS.putA s k f).o = s.o := rfl
theorem col_putA (s : CS) (k : Nat) (f : Nat → Int32) : (CS.putA s k f).ol = s.ol := rfl
theorem cot_putA (s : CS) (k : Nat) (f : Nat → Int32) : (CS.putA s k f).ot = s.ot := rfl
theorem coa_putA (s : CS) (k : Nat) (f : Nat → Int32) : (CS.putA s k f).oa = s.oa := rfl
theorem chs_setB (s : CS) (k j : Nat) (v : Int64) : (CS.setB s k j v).hs = s.hs := rfl
theorem ci_setB (s : CS) (k j : Nat) (v : Int64) : (CS.setB s k j v).i = s.i := rfl
theorem cl_setB (s : CS) (k j : Nat) (v : Int64) : (CS.setB s k j v).l = s.l := rfl
theorem ca_setB (s : CS) (k j : Nat) (v : Int64) : (CS.setB s k j v).a = s.a := rfl
theorem cr_setB (s : CS) (k j : Nat) (v : Int64) : (CS.setB s k j v).r = s.r := rfl
theorem cw_setB (s : CS) (k j : Nat) (v : Int64) : (CS.setB s k j v).w = s.w := rfl
theorem cL_setB (s : CS) (k j : Nat) (v : Int64) : (CS.setB s k j v).L = s.L := rfl
theorem ck_setB (s : CS) (k j : Nat) (v : Int64) : (CS.setB s k j v).k = s.k := rfl
theorem co_setB (s : CS) (k j : Nat) (v : Int64) : (CS.setB s k j v).o = s.o := rfl
theorem col_setB (s : CS) (k j : Nat) (v : Int64) : (CS.setB s k j v).ol = s.ol := rfl
theorem cot_setB (s : CS) (k j : Nat) (v : Int64) : (CS.setB s k j v).ot = s.ot := rfl
theorem coa_setB (s : CS) (k j : Nat) (v : Int64) : (CS.setB s k j v).oa = s.oa := rfl
theorem chs_setR (s : CS) (k j : Nat) (v : Option Nat) : (CS.setR s k j v).hs = s.hs := rfl
theorem ci_setR (s : CS) (k j : Nat) (v : Option Nat) : (CS.setR s k j v).i = s.i := rfl
theorem cl_setR (s : CS) (k j : Nat) (v : Option Nat) : (CS.setR s k j v).l = s.l := rfl
theorem ca_setR (s : CS) (k j : Nat) (v : Option Nat) : (CS.setR s k j v).a = s.a := rfl
theorem cb_setR (s : CS) (k j : Nat) (v : Option Nat) : (CS.setR s k j v).b = s.b := rfl
theorem cw_setR (s : CS) (k j : Nat) (v : Option Nat) : (CS.setR s k j v).w = s.w := rfl
theorem cL_setR (s : CS) (k j : Nat) (v : Option Nat) : (CS.setR s k j v).L = s.L := rfl
theorem ck_setR (s : CS) (k j : Nat) (v : Option Nat) : (CS.setR s k j v).k = s.k := rfl
theorem co_setR (s : CS) (k j : Nat) (v : Option Nat) : (CS.setR s k j v).o = s.o := rfl
theorem col_setR (s : CS) (k j : Nat) (v : Option Nat) : (CS.setR s k j v).ol = s.ol := rfl
theorem cot_setR (s : CS) (k j : Nat) (v : Option Nat) : (CS.setR s k j v).ot = s.ot := rfl
theorem coa_setR (s : CS) (k j : Nat) (v : Option Nat) : (CS.setR s k j v).oa = s.oa := rfl
theorem chs_setW (s : CS) (v : Option Nat) : (CS.setW s v).hs = s.hs := rfl
theorem ci_setW (s : CS) (v : Option Nat) : (CS.setW s v).i = s.i := rfl
theorem cl_setW (s : CS) (v : Option Nat) : (CS.setW s v).l = s.l := rfl
theorem ca_setW (s : CS) (v : Option Nat) : (CS.setW s v).a = s.a := rfl
theorem cb_setW (s : CS) (v : Option Nat) : (CS.setW s v).b = s.b := rfl
theorem cr_setW (s : CS) (v : Option Nat) : (CS.setW s v).r = s.r := rfl
theorem cL_setW (s : CS) (v : Option Nat) : (CS.setW s v).L = s.L := rfl
theorem ck_setW (s : CS) (v : Option Nat) : (CS.setW s v).k = s.k := rfl
theorem co_setW (s : CS) (v : Option Nat) : (CS.setW s v).o = s.o := rfl
theorem col_setW (s : CS) (v : Option Nat) : (CS.setW s v).ol = s.ol := rfl
theorem cot_setW (s : CS) (v : Option Nat) : (CS.setW s v).ot = s.ot := rfl
theorem coa_setW (s : CS) (v : Option Nat) : (CS.setW s v).oa = s.oa := rfl
theorem chs_setO (s : CS) (x k : Nat) (v : Int32) : (CS.setO s x k v).hs = s.hs := rfl
theorem ci_setO (s : CS) (x k : Nat) (v : Int32) : (CS.setO s x k v).i = s.i := rfl
theorem cl_setO (s : CS) (x k : Nat) (v : Int32) : (CS.setO s x k v).l = s.l := rfl
theorem ca_setO (s : CS) (x k : Nat) (v : Int32) : (CS.setO s x k v).a = s.a := rfl
theorem cb_setO (s : CS) (x k : Nat) (v : Int32) : (CS.setO s x k v).b = s.b := rfl
theorem cr_setO (s : CS) (x k : Nat) (v : Int32) : (CS.setO s x k v).r = s.r := rfl
theorem cw_setO (s : CS) (x k : Nat) (v : Int32) : (CS.setO s x k v).w = s.w := rfl
theorem cL_setO (s : CS) (x k : Nat) (v : Int32) : (CS.setO s x k v).L = s.L := rfl
theorem ck_setO (s : CS) (x k : Nat) (v : Int32) : (CS.setO s x k v).k = s.k := rfl
theorem col_setO (s : CS) (x k : Nat) (v : Int32) : (CS.setO s x k v).ol = s.ol := rfl
theorem cot_setO (s : CS) (x k : Nat) (v : Int32) : (CS.setO s x k v).ot = s.ot := rfl
theorem coa_setO (s : CS) (x k : Nat) (v : Int32) : (CS.setO s x k v).oa = s.oa := rfl
theorem chs_setOl (s : CS) (x : Nat) (v : Int64) : (CS.setOl s x v).hs = s.hs := rfl
theorem ci_setOl (s : CS) (x : Nat) (v : Int64) : (CS.setOl s x v).i = s.i := rfl
theorem cl_setOl (s : CS) (x : Nat) (v : Int64) : (CS.setOl s x v).l = s.l := rfl
theorem ca_setOl (s : CS) (x : Nat) (v : Int64) : (CS.setOl s x v).a = s.a := rfl
theorem cb_setOl (s : CS) (x : Nat) (v : Int64) : (CS.setOl s x v).b = s.b := rfl
theorem cr_setOl (s : CS) (x : Nat) (v : Int64) : (CS.setOl s x v).r = s.r := rfl
theorem cw_setOl (s : CS) (x : Nat) (v : Int64) : (CS.setOl s x v).w = s.w := rfl
theorem cL_setOl (s : CS) (x : Nat) (v : Int64) : (CS.setOl s x v).L = s.L := rfl
theorem ck_setOl (s : CS) (x : Nat) (v : Int64) : (CS.setOl s x v).k = s.k := rfl
theorem co_setOl (s : CS) (x : Nat) (v : Int64) : (CS.setOl s x v).o = s.o := rfl
theorem cot_setOl (s : CS) (x : Nat) (v : Int64) : (CS.setOl s x v).ot = s.ot := rfl
theorem coa_setOl (s : CS) (x : Nat) (v : Int64) : (CS.setOl s x v).oa = s.oa := rfl
theorem chs_setOt (s : CS) (x : Nat) (v : Option Nat) : (CS.setOt s x v).hs = s.hs := rfl
theorem ci_setOt (s : CS) (x : Nat) (v : Option Nat) : (CS.setOt s x v).i = s.i := rfl
theorem cl_setOt (s : CS) (x : Nat) (v : Option Nat) : (CS.setOt s x v).l = s.l := rfl
theorem ca_setOt (s : CS) (x : Nat) (v : Option Nat) : (CS.setOt s x v).a = s.a := rfl
theorem cb_setOt (s : CS) (x : Nat) (v : Option Nat) : (CS.setOt s x v).b = s.b := rfl
theorem cr_setOt (s : CS) (x : Nat) (v : Option Nat) : (CS.setOt s x v).r = s.r := rfl
theorem cw_setOt (s : CS) (x : Nat) (v : Option Nat) : (CS.setOt s x v).w = s.w := rfl
theorem cL_setOt (s : CS) (x : Nat) (v : Option Nat) : (CS.setOt s x v).L = s.L := rfl
theorem ck_setOt (s : CS) (x : Nat) (v : Option Nat) : (CS.setOt s x v).k = s.k := rfl
theorem co_setOt (s : CS) (x : Nat) (v : Option Nat) : (CS.setOt s x v).o = s.o := rfl
theorem col_setOt (s : CS) (x : Nat) (v : Option Nat) : (CS.setOt s x v).ol = s.ol := rfl
theorem coa_setOt (s : CS) (x : Nat) (v : Option Nat) : (CS.setOt s x v).oa = s.oa := rfl
theorem chs_putOA (s : CS) (x : Nat) (f : Nat → Int32) : (CS.putOA s x f).hs = s.hs := rfl
theorem ci_putOA (s : CS) (x : Nat) (f : Nat → Int32) : (CS.putOA s x f).i = s.i := rfl
theorem cl_putOA (s : CS) (x : Nat) (f : Nat → Int32) : (CS.putOA s x f).l = s.l := rfl
theorem ca_putOA (s : CS) (x : Nat) (f : Nat → Int32) : (CS.putOA s x f).a = s.a := rfl
theorem cb_putOA (s : CS) (x : Nat) (f : Nat → Int32) : (CS.putOA s x f).b = s.b := rfl
theorem cr_putOA (s : CS) (x : Nat) (f : Nat → Int32) : (CS.putOA s x f).r = s.r := rfl
theorem cw_putOA (s : CS) (x : Nat) (f : Nat → Int32) : (CS.putOA s x f).w = s.w := rfl
theorem cL_putOA (s : CS) (x : Nat) (f : Nat → Int32) : (CS.putOA s x f).L = s.L := rfl
theorem ck_putOA (s : CS) (x : Nat) (f : Nat → Int32) : (CS.putOA s x f).k = s.k := rfl
theorem co_putOA (s : CS) (x : Nat) (f : Nat → Int32) : (CS.putOA s x f).o = s.o := rfl
theorem col_putOA (s : CS) (x : Nat) (f : Nat → Int32) : (CS.putOA s x f).ol = s.ol := rfl
theorem cot_putOA (s : CS) (x : Nat) (f : Nat → Int32) : (CS.putOA s x f).ot = s.ot := rfl
theorem chs_setK (s : CS) (x t : Nat) : (CS.setK s x t).hs = s.hs := rfl
theorem ci_setK (s : CS) (x t : Nat) : (CS.setK s x t).i = s.i := rfl
theorem cl_setK (s : CS) (x t : Nat) : (CS.setK s x t).l = s.l := rfl
theorem ca_setK (s : CS) (x t : Nat) : (CS.setK s x t).a = s.a := rfl
theorem cb_setK (s : CS) (x t : Nat) : (CS.setK s x t).b = s.b := rfl
theorem cr_setK (s : CS) (x t : Nat) : (CS.setK s x t).r = s.r := rfl
theorem cw_setK (s : CS) (x t : Nat) : (CS.setK s x t).w = s.w := rfl
theorem cL_setK (s : CS) (x t : Nat) : (CS.setK s x t).L = s.L := rfl
theorem co_setK (s : CS) (x t : Nat) : (CS.setK s x t).o = s.o := rfl
theorem col_setK (s : CS) (x t : Nat) : (CS.setK s x t).ol = s.ol := rfl
theorem cot_setK (s : CS) (x t : Nat) : (CS.setK s x t).ot = s.ot := rfl
theorem coa_setK (s : CS) (x t : Nat) : (CS.setK s x t).oa = s.oa := rfl
theorem ci_new (s : CS) (t : Nat) : (CS.new s t).i = s.i := rfl
theorem cl_new (s : CS) (t : Nat) : (CS.new s t).l = s.l := rfl
theorem ca_new (s : CS) (t : Nat) : (CS.new s t).a = s.a := rfl
theorem cb_new (s : CS) (t : Nat) : (CS.new s t).b = s.b := rfl
theorem cr_new (s : CS) (t : Nat) : (CS.new s t).r = s.r := rfl
theorem cw_new (s : CS) (t : Nat) : (CS.new s t).w = s.w := rfl
theorem ci_at (s : CS) (k : Nat) (v : Int32) : (CS.setI s k v).i k = v := if_pos rfl
theorem ci_ne (s : CS) (k : Nat) (v : Int32) {j : Nat} (h : j ≠ k) : (CS.setI s k v).i j = s.i j := if_neg h
theorem ca_put (s : CS) (k : Nat) (f : Nat → Int32) : (CS.putA s k f).a k = f := if_pos rfl
theorem ca_ne (s : CS) (k : Nat) (f : Nat → Int32) {j : Nat} (h : j ≠ k) : (CS.putA s k f).a j = s.a j := if_neg h
theorem cr_at (s : CS) (k j : Nat) (v : Option Nat) : (CS.setR s k j v).r k = va_up (s.r k) j v := if_pos rfl
theorem cr_ne (s : CS) (k j : Nat) (v : Option Nat) {m : Nat} (h : m ≠ k) : (CS.setR s k j v).r m = s.r m := if_neg h
theorem chs_new (s : CS) (t : Nat) : (CS.new s t).hs = s.hs + 1 := rfl
theorem cL_new (s : CS) (t : Nat) : (CS.new s t).L = s.L ++ [s.hs] := rfl
theorem ck_new (s : CS) (t : Nat) : (CS.new s t).k = va_up s.k s.hs t := rfl
theorem ck_set (s : CS) (x t : Nat) : (CS.setK s x t).k = va_up s.k x t := rfl
theorem co_new (s : CS) (t : Nat) {x : Nat} (h : x ≠ s.hs) : (CS.new s t).o x = s.o x := if_neg h
theorem col_new (s : CS) (t : Nat) {x : Nat} (h : x ≠ s.hs) : (CS.new s t).ol x = s.ol x := if_neg h
theorem cot_new (s : CS) (t : Nat) {x : Nat} (h : x ≠ s.hs) : (CS.new s t).ot x = s.ot x := if_neg h
theorem cot_at (s : CS) (x : Nat) (v : Option Nat) : (CS.setOt s x v).ot x = v := if_pos rfl
theorem cot_ne (s : CS) (x : Nat) (v : Option Nat) {y : Nat} (h : y ≠ x) : (CS.setOt s x v).ot y = s.ot y := if_neg h
theorem cw_at (s : CS) (v : Option Nat) : (CS.setW s v).w = v := rfl
