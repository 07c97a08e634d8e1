abbrev vwCl : List vw_C := [(RX0, TX0, 12), (RX1, TX1, 3), (RX2, TX2, 4), (RX3, TX3, 6), (RX4, TX4, 4), (RX5, TX5, 4), (RX6, TX6, 14), (RX7, TX7, 29)]
