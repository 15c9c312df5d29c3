/-! a byte of four, in ints -/
section BBY
theorem by_24 (x : Int32) : (x.toUInt32 >>> ((24 : Int32).toUInt32 &&& Int32.toUInt32 31)).toInt32 &&& 255 = (x >>> ((24 : Int32) &&& 31)) &&& 255 := Int32.toBitVec_inj.1 (by_bv x.toBitVec 24 (by decide))
theorem by_16 (x : Int32) : (x.toUInt32 >>> ((16 : Int32).toUInt32 &&& Int32.toUInt32 31)).toInt32 &&& 255 = (x >>> ((16 : Int32) &&& 31)) &&& 255 := Int32.toBitVec_inj.1 (by_bv x.toBitVec 16 (by decide))
theorem by_8 (x : Int32) : (x.toUInt32 >>> ((8 : Int32).toUInt32 &&& Int32.toUInt32 31)).toInt32 &&& 255 = (x >>> ((8 : Int32) &&& 31)) &&& 255 := Int32.toBitVec_inj.1 (by_bv x.toBitVec 8 (by decide))
theorem by_0 (x : Int32) : (x.toUInt32 >>> ((0 : Int32).toUInt32 &&& Int32.toUInt32 31)).toInt32 &&& 255 = (x >>> ((0 : Int32) &&& 31)) &&& 255 := Int32.toBitVec_inj.1 (by_bv x.toBitVec 0 (by decide))
end BBY
