theorem k_796 : Cond.methodLink RX8 362 yJ9_floorDiv_7cf53 ∈ tb := tb_t 796 (by decide +kernel) (by decide)
