/** Yards that many tests begin with, and the numbers that the calls must take or refuse. */
final class Yards {
  interface OfNumber {
    void to(Warpyard yard, int number);
  }

  private static final int[] BLOCKS = {6, 0, 3, 7};

  private Yards() {
  }

  static Warpyard made(Told... tolds) {
    Warpyard x = new Warpyard();
    all(tolds).to(x);
    return x;
  }

  /** Trains on 6, 0, 3 and 7, held, with waggons in the sidings; needs 18 calls at the most. */
  static Told trains(int count) {
    return x -> {
      for (int train = 0; train < count; train++) {
        x.addTrain(BLOCKS[train], train % 2 == 0);
        x.hold(train, true);
      }
      for (int i = 0; i < 4; i++) {
        x.addWaggon(6 + i % 2, 20 + 10 * i);
        x.offer(i, 6 + i % 2, 0, 20 + i);
      }
    };
  }

  static Told untilClock(int clock) {
    return x -> {
      while (x.clock() < clock) {
        x.run(Math.min(100, clock - x.clock()));
      }
    };
  }

  static Told all(Told... tolds) {
    return x -> {
      for (Told told : tolds) {
        told.to(x);
      }
    };
  }

  /** As many bookings as wanted, for the train 0 on the block 0 in the minute 4000; the 30th is the last one. */
  static Told bookings(int count) {
    return x -> {
      for (int i = 0; i < count; i++) {
        x.book(0, 0, 4000, 4000);
      }
    };
  }

  /** Values next to a range and far away from it. */
  static int[] outside(int least, int most) {
    return new int[] {least - 1, most + 1, Integer.MIN_VALUE, Integer.MAX_VALUE};
  }

  static void everyTrain(OfNumber call) {
    for (int count = 1; count <= 4; count++) {
      for (int train = 0; train < count; train++) {
        int number = train;
        Warpyard x = made(trains(count));
        Check.quiet("train " + number + " of " + count, () -> call.to(x, number));
      }
    }
  }

  static void noSuchTrain(OfNumber call) {
    for (int count = 0; count <= 4; count++) {
      for (int wrong : outside(0, count - 1)) {
        Refusal.noSuch("train " + wrong + " of " + count, trains(count), x -> call.to(x, wrong));
      }
    }
  }

  static void everyBlock(OfNumber call) {
    for (int i = 0; i < 8; i++) {
      int block = i;
      Warpyard x = made(trains(1));
      Check.quiet("block " + block, () -> call.to(x, block));
    }
  }

  static void noSuchBlock(OfNumber call) {
    for (int wrong : outside(0, 7)) {
      Refusal.noSuch("block " + wrong, trains(2), x -> call.to(x, wrong));
    }
  }
}
