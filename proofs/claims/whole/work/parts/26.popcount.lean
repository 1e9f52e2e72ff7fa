/-! Integer.bitCount beside a plain count, of twelve bits: by trying all -/
def b1 (x : Int32) : Int32 := x - ((x.toUInt32 >>> (Int32.toUInt32 (nI 1) &&& Int32.toUInt32 31)).toInt32 &&& nI 1431655765)
def b2 (x : Int32) : Int32 := (x &&& nI 858993459) + ((x.toUInt32 >>> (Int32.toUInt32 (nI 2) &&& Int32.toUInt32 31)).toInt32 &&& nI 858993459)
def b3 (x : Int32) : Int32 := (x + (x.toUInt32 >>> (Int32.toUInt32 (nI 4) &&& Int32.toUInt32 31)).toInt32) &&& nI 252645135
def b4 (x : Int32) : Int32 := x + (x.toUInt32 >>> (Int32.toUInt32 (nI 8) &&& Int32.toUInt32 31)).toInt32
def b5 (x : Int32) : Int32 := x + (x.toUInt32 >>> (Int32.toUInt32 (nI 16) &&& Int32.toUInt32 31)).toInt32
def bcF (x : Int32) : Int32 := b5 (b4 (b3 (b2 (b1 x)))) &&& nI 63
def onF (x : Int32) : Nat → Int32
  | 0 => nI 0
  | j + 1 => onF x j + tb x j
set_option maxRecDepth 100000 in
theorem bc_on : ∀ v, v < 4096 → bcF (nI v) = onF (nI v) 12 := by decide +kernel
