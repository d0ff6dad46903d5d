/-! bits are counted: all sets of 16, by the kernel -/
def pc (n k : Nat) : Nat := lp (fun j s => s + (n.testBit j).toNat) k 0
def ush (x v : Int32) : Int32 := (x.toUInt32 >>> (v.toUInt32 &&& Int32.toUInt32 31)).toInt32
def bc1 (x : Int32) : Int32 := x - (ush x 1 &&& 1431655765)
def bc2 (x : Int32) : Int32 := (x &&& 858993459) + (ush x 2 &&& 858993459)
def bc3 (x : Int32) : Int32 := (x + ush x 4) &&& 252645135
def bc4 (x : Int32) : Int32 := x + ush x 8
def bc5 (x : Int32) : Int32 := x + ush x 16
def bcE (x : Int32) : Int32 := bc5 (bc4 (bc3 (bc2 (bc1 x)))) &&& 63
def bcT (a n : Nat) : Bool := (List.range' a n).all (fun n => decide (bcE (nI n) = nI (pc n 16)))
set_option maxRecDepth 100000 in
set_option maxHeartbeats 0 in
theorem bcT_0 : bcT 0 4096 = true := by decide +kernel
set_option maxRecDepth 100000 in
set_option maxHeartbeats 0 in
theorem bcT_1 : bcT 4096 4096 = true := by decide +kernel
set_option maxRecDepth 100000 in
set_option maxHeartbeats 0 in
theorem bcT_2 : bcT 8192 4096 = true := by decide +kernel
set_option maxRecDepth 100000 in
set_option maxHeartbeats 0 in
theorem bcT_3 : bcT 12288 4096 = true := by decide +kernel
set_option maxRecDepth 100000 in
set_option maxHeartbeats 0 in
theorem bcT_4 : bcT 16384 4096 = true := by decide +kernel
set_option maxRecDepth 100000 in
set_option maxHeartbeats 0 in
theorem bcT_5 : bcT 20480 4096 = true := by decide +kernel
set_option maxRecDepth 100000 in
set_option maxHeartbeats 0 in
theorem bcT_6 : bcT 24576 4096 = true := by decide +kernel
set_option maxRecDepth 100000 in
set_option maxHeartbeats 0 in
theorem bcT_7 : bcT 28672 4096 = true := by decide +kernel
set_option maxRecDepth 100000 in
set_option maxHeartbeats 0 in
theorem bcT_8 : bcT 32768 4096 = true := by decide +kernel
set_option maxRecDepth 100000 in
set_option maxHeartbeats 0 in
theorem bcT_9 : bcT 36864 4096 = true := by decide +kernel
set_option maxRecDepth 100000 in
set_option maxHeartbeats 0 in
theorem bcT_10 : bcT 40960 4096 = true := by decide +kernel
set_option maxRecDepth 100000 in
set_option maxHeartbeats 0 in
theorem bcT_11 : bcT 45056 4096 = true := by decide +kernel
set_option maxRecDepth 100000 in
set_option maxHeartbeats 0 in
theorem bcT_12 : bcT 49152 4096 = true := by decide +kernel
set_option maxRecDepth 100000 in
set_option maxHeartbeats 0 in
theorem bcT_13 : bcT 53248 4096 = true := by decide +kernel
set_option maxRecDepth 100000 in
set_option maxHeartbeats 0 in
theorem bcT_14 : bcT 57344 4096 = true := by decide +kernel
set_option maxRecDepth 100000 in
set_option maxHeartbeats 0 in
theorem bcT_15 : bcT 61440 4096 = true := by decide +kernel
