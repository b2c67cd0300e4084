theorem k_841 : Cond.methodLink RX5 60 Lib.Math.min.name ∈ tb := tb_t 841 (by decide +kernel) (by decide)
theorem k_902 : Cond.methodLink RX0 40 Lib.Math.min.name ∈ tb := tb_t 902 (by decide +kernel) (by decide)
theorem k_903 : Cond.methodLink RX0 46 Lib.Math.max.name ∈ tb := tb_t 903 (by decide +kernel) (by decide)
