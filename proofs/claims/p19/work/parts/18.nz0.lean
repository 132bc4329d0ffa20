abbrev vwCl : List vw_C := [(RX0, TX0, 3), (RX1, TX1, 5), (RX2, TX2, 18), (RX3, TX3, 6), (RX4, TX4, 10)]
