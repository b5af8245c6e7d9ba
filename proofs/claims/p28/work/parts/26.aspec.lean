/-! the checksum -/
def dgF (f : Nat → Int32) (d : Int64) : Nat → Int64
  | 0 => d
  | n + 1 => dgF f d n * 31 + (f n).toInt64
def dgG (f : Nat → Int64 → Int64) (d : Int64) : Nat → Int64
  | 0 => d
  | n + 1 => f n (dgG f d n)
def dgV (g : Nat → Nat → Int32) (i v : Nat) (d : Int64) : Int64 := dgF (fun f => g 21 (plc i v f)) d (nF g i)
def dgS (g : Nat → Nat → Int32) (n5 i : Nat) (d : Int64) : Int64 := dgG (dgV g i) (dgF (ofSetN g n5 i) d 7) (nV g i)
def cov0 (g : Nat → Nat → Int32) (n4 R i : Nat) : Int32 := orN (fOpen g (nI R) (nI i) (nI 1 <<< (nI 0 &&& 31)) (g 0 0) (-1)) n4
def dgC (g : Nat → Nat → Int32) (n4 R i : Nat) (d : Int64) : Int64 := (d * 31 + (cov0 g n4 R i).toInt64) * 31 + (prevN g n4 R i).toInt64
def dgR (g : Nat → Nat → Int32) (n1 n4 n5 R : Nat) (d : Int64) : Int64 := dgG (dgC g n4 R) (dgF (ofReaderN g n4 n5 R) d 7) n1
def dgD (g : Nat → Nat → Int32) (r : Nat) (d : Int64) : Int64 := dgF (ofReadN g r) d 12
def digN (g : Nat → Nat → Int32) (n1 n4 n5 : Nat) : Int64 := dgF (fun c => sumN (fNeed g n4 c) n5) (dgG (dgD g) (dgG (dgR g n1 n4 n5) (dgG (dgS g n5) (dgF (manyN g n1 n5) 58124 9) n1) 6) n5) n4
