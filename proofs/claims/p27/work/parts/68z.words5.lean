theorem k_796 : Cond.methodLink RX8 362 yJ9_floorDiv_7cf53 ∈ tb := tb_4 76 (by decide +kernel) (by decide)
