/** What a yard shows, as one text. */
final class Sight {
  private Sight() {
  }

  /** All that can be asked; some 150 calls that change nothing. */
  static String of(Warpyard x) {
    StringBuilder all = new StringBuilder("clock ").append(x.clock()).append(" earned ").append(x.earned());
    int trains = trains(x, all);
    for (int block = 0; block < 8; block++) {
      all.append(" on ").append(x.trainOn(block));
    }
    bookings(x, all);
    bookedBlocks(x, trains, all);
    rows(x, trains, all);
    return all.toString();
  }

  /** What cannot be asked and shows in what is told later: holds, delays, switches, weights and offers. */
  static String behind(Warpyard x) {
    StringBuilder all = new StringBuilder();
    for (int i = 0; i < 4; i++) {
      int train = i;
      all.append(" train ").append(Check.outcome(() -> x.hold(train, false)));
      all.append(' ').append(Check.outcome(() -> x.delay(train, 1)));
      waggonsMoved(x, train, all);
    }
    all.append(" switches ").append(x.throwSwitch(0)).append(x.throwSwitch(1));
    all.append(" earned ").append(x.earned()).append(" waggons");
    for (int i = 0; i < 8; i++) {
      int waggon = i;
      all.append(' ').append(Check.outcome(() -> known(x, waggon)));
    }
    return all.toString();
  }

  private static int trains(Warpyard x, StringBuilder all) {
    for (int train = 0; train < 4; train++) {
      int number = train;
      Object block = Check.outcome(() -> x.block(number));
      if (!(block instanceof Integer)) {
        return train;
      }
      all.append(" train ").append(block).append(x.isRight(train));
      for (int to = 0; to < 8; to++) {
        all.append(' ').append(x.reaches(train, to));
      }
    }
    return 4;
  }

  private static void bookings(Warpyard x, StringBuilder all) {
    for (int booking = 0; booking < 30; booking++) {
      int number = booking;
      Object state = Check.outcome(() -> x.booking(number));
      all.append(" booking ").append(state);
      if (!(state instanceof Integer)) {
        return;
      }
      all.append(' ').append(x.late(number));
    }
  }

  private static void bookedBlocks(Warpyard x, int trains, StringBuilder all) {
    for (int train = 0; train < trains; train++) {
      for (int block = 0; block < 8; block++) {
        all.append(x.canBook(train, block, 0, 5000) ? " free" : " booked");
      }
    }
  }

  private static void rows(Warpyard x, int trains, StringBuilder all) {
    for (int row = 0; row < 2 + trains; row++) {
      int where = row < 2 ? 6 + row : 8 + row;
      all.append(" row");
      for (int place = 0; place == 0 || x.waggonAt(where, place - 1) != Warpyard.NONE; place++) {
        all.append(' ').append(x.waggonAt(where, place));
      }
    }
  }

  /** Asked last: should such an offer be taken, it would hide what the one before it was. */
  private static String known(Warpyard x, int waggon) {
    x.offer(waggon, 6, 0, 0);
    return "an offer of nothing is taken";
  }

  /** All that the train can couple where it stands, and then all that it can leave there: weights and offers. */
  private static void waggonsMoved(Warpyard x, int train, StringBuilder all) {
    Object coupled = 0;
    for (int i = 0; i < 8 && coupled instanceof Integer; i++) {
      coupled = Check.outcome(() -> x.couple(train));
      all.append(' ').append(coupled);
    }
    Object left = 0;
    for (int i = 0; i < 8 && left instanceof Integer; i++) {
      left = Check.outcome(() -> x.leave(train));
      all.append(' ').append(left);
    }
  }
}
