/-! the checksum -/
def dg_1 (h w : Nat) (M S : sS) : Int64 := itr (fun i d => d * 31 + (x3_count h w M S i).toInt64) 9 443
def dg_2 (h w : Nat) (M S : sS) : Int64 := itr (fun i d => d * 31 + (S 1 i.toNatClampNeg).toInt64) w (dg_1 h w M S)
def dg_3 (h w : Nat) (M S : sS) : Int64 := itr (fun c d => itr (fun i d => d * 31 + (sl_field S c i).toInt64) 12 d) (h * w) (dg_2 h w M S)
def dg_4 (h w : Nat) (M S : sS) : Int64 := itr (fun c d => itr (fun i d => d * 31 + (cal_num M c i).toInt64) 3 d) 30 (dg_3 h w M S)
