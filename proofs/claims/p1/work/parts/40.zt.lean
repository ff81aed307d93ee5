def wsZT0 : List Cond := (vx_at0 RX11 150 "java/lang/ArithmeticException" ["java/lang/RuntimeException", "java/lang/Exception"]).filter goodWord
