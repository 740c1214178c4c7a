/-! names the rest of the library at once -/
theorem vf_div {x y : Int32} (h : ¬ y = 0) : vf_n64 (FP.ddiv (FP.i2d x) (FP.i2d y)) := Fl.ddiv_out (Fl.i2d_fin x).noNaN (Fl.i2d_fin y) (Fl.i2d_nz h)
